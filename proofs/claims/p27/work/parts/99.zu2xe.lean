/-! the class: a chip compared with a design; written by wip/p55/gen/vg -/
/-! ChipFlow.compare -/
def vw_276cw : sx_Wl := ([(12, 16)], [113, 114, 115, 117], [])
def vq_276cw (bg_ : Int) (mk_ : Int) (c1_ : Nat) (dd_ : Nat) (R1_ : Nat) (S0_ : sm_S) (u_ : Option sm_V) (S1_ : sm_S) : Prop := ∃ v_ : Int, u_ = some (.inl v_) ∧ gi S1_ ∧ ai_fr (sx_W vw_276cw) S0_ S1_ ∧ (bfsp (S0_.1 3 dd_ 1).toNat (cmD (S0_.2.2.1 34 (0 + c1_)) (S0_.2.2.1 47 (0 + dd_)) mk_) (nx6 (S0_.2.2.1 34 (0 + c1_))) (nx6 (S0_.2.2.1 47 (0 + dd_))) bg_.toNat (S0_.1 3 dd_ 5).toNat v_)
set_option maxHeartbeats 3000000 in
set_option maxRecDepth 20000 in
theorem vl_276cw {sc_ : Nat × (Nat → Int)} (bg_ : Int) (mk_ : Int) (c1_ : Nat) (dd_ : Nat) (R1_ : Nat) (S0_ : sm_S) (hd_ : dOk dd_ S0_) (hb_ : 0 ≤ bg_ ∧ bg_ < 2 ^ R1_) (hr_ : R1_ ≤ 6 ∧ (R1_ : Int) + S0_.1 3 dd_ 1 ≤ 12) (ht_ : ∀ p9_ : Nat, p9_ < 4096 → 0 ≤ S0_.2.2.1 34 (0 + c1_) p9_ ∧ S0_.2.2.1 34 (0 + c1_) p9_ < 2 ^ (16 + R1_)) : ∀ nn_ : Nat, (∀ (ip9_ : Int) (tl_ : Int) (hd9_ : Int) (S_ : sm_S), gi S_ → ai_fr (sx_W vw_276cw) S0_ S_ → ((prf S_) ∧ (∀ j9_ : Nat, (j9_ : Int) < tl_ → S_.2.2.1 113 0 (S_.2.2.1 115 0 j9_).toNat ≠ -2 ∧ S_.2.2.1 115 0 j9_ / 64 < 2 ^ R1_ ∧ S_.2.2.1 115 0 j9_ % 64 < 2 ^ (S0_.1 3 dd_ 2).toNat) ∧ (tl_ = (cn1 (pn2 (S_.2.2.1 113 0)) 4096 : Int)) ∧ (ccq (S0_.1 3 dd_ 1).toNat R1_ (S0_.1 3 dd_ 2).toNat (cmD (S0_.2.2.1 34 (0 + c1_)) (S0_.2.2.1 47 (0 + dd_)) mk_) (nx6 (S0_.2.2.1 34 (0 + c1_))) (nx6 (S0_.2.2.1 47 (0 + dd_))) bg_.toNat (S0_.1 3 dd_ 5).toNat hd9_.toNat 0 tl_ (S_.2.2.1 113 0) (S_.2.2.1 115 0)) ∧ (1 ≤ tl_ ∧ 0 ≤ hd9_ ∧ hd9_ ≤ 4096 ∧ ip9_ = S0_.1 3 dd_ 1) ∧ True) → ((10000 * (5000 - hd9_) + 5000).toNat) < nn_ → sm_T (mt_P sc_) 1 276 (53, [some (.inr (.inr (some (12, 0)))), some (.inr (.inr (some (34, (0 + c1_))))), some (.inl bg_), some (.inr (.inr (some (3, dd_)))), some (.inl mk_), some (.inl ip9_), none, some (.inl tl_), some (.inl hd9_), none, none, none, none, none, none, none], [], S_) (fun ro9_ => ∃ u_ S1_, ro9_ = (.inl u_, S1_, 0) ∧ vq_276cw bg_ mk_ c1_ dd_ R1_ S0_ u_ S1_)) ∧ (∀ (ip9_ : Int) (tl_ : Int) (hd9_ : Int) (pr_ : Int) (he_ : Int) (te_ : Int) (ip_ : Int) (S_ : sm_S), gi S_ → ai_fr (sx_W vw_276cw) S0_ S_ → ((prf S_) ∧ (∀ j9_ : Nat, (j9_ : Int) < tl_ → S_.2.2.1 113 0 (S_.2.2.1 115 0 j9_).toNat ≠ -2 ∧ S_.2.2.1 115 0 j9_ / 64 < 2 ^ R1_ ∧ S_.2.2.1 115 0 j9_ % 64 < 2 ^ (S0_.1 3 dd_ 2).toNat) ∧ (tl_ = (cn1 (pn2 (S_.2.2.1 113 0)) 4096 : Int)) ∧ (ccq (S0_.1 3 dd_ 1).toNat R1_ (S0_.1 3 dd_ 2).toNat (cmD (S0_.2.2.1 34 (0 + c1_)) (S0_.2.2.1 47 (0 + dd_)) mk_) (nx6 (S0_.2.2.1 34 (0 + c1_))) (nx6 (S0_.2.2.1 47 (0 + dd_))) bg_.toNat (S0_.1 3 dd_ 5).toNat hd9_.toNat ip_.toNat tl_ (S_.2.2.1 113 0) (S_.2.2.1 115 0)) ∧ (S_.2.2.1 115 0 hd9_.toNat = pr_ ∧ hd9_ < tl_) ∧ (ip_.toNat ≤ 2 ^ (S0_.1 3 dd_ 1).toNat) ∧ (1 ≤ tl_ ∧ 0 ≤ hd9_ ∧ hd9_ < 4096 ∧ ip9_ = S0_.1 3 dd_ 1 ∧ 0 ≤ ip_ ∧ ip_ ≤ 4096 ∧ 0 ≤ pr_ ∧ pr_ ≤ 4095) ∧ (he_ = i_shl (pr_ / 64) ip9_ ∧ te_ = i_shl (pr_ % 64) ip9_) ∧ (S_.2.2.1 113 0 pr_.toNat ≠ -2 ∧ pr_ / 64 < 2 ^ R1_ ∧ pr_ % 64 < 2 ^ (S0_.1 3 dd_ 2).toNat) ∧ True) → ((10000 * (5000 - hd9_) + 4500 - ip_).toNat) < nn_ → sm_T (mt_P sc_) 1 276 (100, [some (.inr (.inr (some (12, 0)))), some (.inr (.inr (some (34, (0 + c1_))))), some (.inl bg_), some (.inr (.inr (some (3, dd_)))), some (.inl mk_), some (.inl ip9_), none, some (.inl tl_), some (.inl hd9_), some (.inl pr_), some (.inl he_), some (.inl te_), some (.inl ip_), none, none, none], [], S_) (fun ro9_ => ∃ u_ S1_, ro9_ = (.inl u_, S1_, 0) ∧ vq_276cw bg_ mk_ c1_ dd_ R1_ S0_ u_ S1_)) := by
  intro nn_
  induction nn_ with
  | zero => exact ⟨fun _ _ _ _ _ _ _ h_ => absurd h_ (Nat.not_lt_zero _), fun _ _ _ _ _ _ _ _ _ _ _ h_ => absurd h_ (Nat.not_lt_zero _)⟩
  | succ nn_ ih_ =>
    refine ⟨?_, ?_⟩
    · rintro ip9_ tl_ hd9_ S_ hI_ hF_ ⟨hp_, hq_, hc_, hcq_, h0_, -⟩ hm_
      have J9_ := dOk_b hd_
      have J9a := J9_.1
      have J9b := J9_.2.1
      have J9c := J9_.2.2.1
      have J9t := J9_.2.2.2.2
      have wa_ := pw_le (n := R1_) (m := 6) (by omega)
      have wb := pw_le (n := (S0_.1 3 dd_ 2).toNat) (m := 6) (by omega)
      have wc_ := pw_pos R1_
      have wd_ := pw_pos (S0_.1 3 dd_ 2).toNat
      have fT_ : S_.2.2.1 34 (0 + c1_) = S0_.2.2.1 34 (0 + c1_) := fr_arr hF_ rfl
      have f47_ : S_.2.2.1 47 (0 + dd_) = S0_.2.2.1 47 (0 + dd_) := fr_arr hF_ rfl
      have cl9_ := cn1_le (pn2 (S_.2.2.1 113 0)) 4096
      refine sm_T_go 2 (c1 := (57, [some (.inr (.inr (some (12, 0)))), some (.inr (.inr (some (34, (0 + c1_))))), some (.inl bg_), some (.inr (.inr (some (3, dd_)))), some (.inl mk_), some (.inl ip9_), none, some (.inl tl_), some (.inl hd9_), none, none, none, none, none, none, none], [.inl tl_, .inl hd9_], S_)) rfl ?_
      refine sm_T_br (a := 3) (z := 167) rfl (fun cx1_ => ?_) (fun cx1_ => ?_)
      · have cx1_ : tl_ ≤ hd9_ := of_decide_eq_true cx1_
        refine sm_T_go 1 (c1 := (225, [some (.inr (.inr (some (12, 0)))), some (.inr (.inr (some (34, (0 + c1_))))), some (.inl bg_), some (.inr (.inr (some (3, dd_)))), some (.inl mk_), some (.inl ip9_), none, some (.inl tl_), some (.inl hd9_), none, none, none, none, none, none, none], [.inl 0], S_)) rfl ?_
        refine sm_T_ri rfl ⟨_, _, rfl, _, rfl, hI_, hF_, ?_⟩
        first | (rw [w146_]; exact sp9_) | exact ccq_e hcq_ (by omega)
      · have cx1_ : ¬ (tl_ ≤ hd9_) := of_decide_eq_false cx1_
        refine sm_T_go 2 (c1 := (65, [some (.inr (.inr (some (12, 0)))), some (.inr (.inr (some (34, (0 + c1_))))), some (.inl bg_), some (.inr (.inr (some (3, dd_)))), some (.inl mk_), some (.inl ip9_), none, some (.inl tl_), some (.inl hd9_), none, none, none, none, none, none, none], [.inl 4096, .inl hd9_], S_)) rfl ?_
        refine sm_T_br (a := 3) (z := 159) rfl (fun cx2_ => ?_) (fun cx2_ => ?_)
        · have cx2_ : 4096 ≤ hd9_ := of_decide_eq_true cx2_
          refine sm_T_go 1 (c1 := (225, [some (.inr (.inr (some (12, 0)))), some (.inr (.inr (some (34, (0 + c1_))))), some (.inl bg_), some (.inr (.inr (some (3, dd_)))), some (.inl mk_), some (.inl ip9_), none, some (.inl tl_), some (.inl hd9_), none, none, none, none, none, none, none], [.inl 0], S_)) rfl ?_
          refine sm_T_ri rfl ⟨_, _, rfl, _, rfl, hI_, hF_, ?_⟩
          first | (rw [w146_]; exact sp9_) | exact ccq_e hcq_ (by omega)
        · have cx2_ : ¬ (4096 ≤ hd9_) := of_decide_eq_false cx2_
          have hq9_ := hq_ hd9_.toNat (by omega)
          have qc9_ := hI_.2 115 0 hd9_.toNat
          refine sm_T_go 3 (c1 := (74, [some (.inr (.inr (some (12, 0)))), some (.inr (.inr (some (34, (0 + c1_))))), some (.inl bg_), some (.inr (.inr (some (3, dd_)))), some (.inl mk_), some (.inl ip9_), none, some (.inl tl_), some (.inl hd9_), none, none, none, none, none, none, none], [.inl hd9_, .inr (.inr (some (115, 0)))], S_)) rfl ?_
          refine sm_T_iald (n := 4096) rfl rfl (by omega) (by omega) ?_
          have bx3_ : 0 ≤ S_.2.2.1 115 0 hd9_.toNat ∧ S_.2.2.1 115 0 hd9_.toNat ≤ 4095 := hI_.2 115 0 _
          refine sm_T_go 3 (c1 := (81, [some (.inr (.inr (some (12, 0)))), some (.inr (.inr (some (34, (0 + c1_))))), some (.inl bg_), some (.inr (.inr (some (3, dd_)))), some (.inl mk_), some (.inl ip9_), none, some (.inl tl_), some (.inl hd9_), some (.inl (S_.2.2.1 115 0 hd9_.toNat)), none, none, none, none, none, none], [.inl 6, .inl (S_.2.2.1 115 0 hd9_.toNat)], S_)) rfl ?_
          refine sm_T_bin (w := ((S_.2.2.1 115 0 hd9_.toNat) / 64)) rfl (bi_shr (k := 6) (by decide) (by omega) (by omega)) ?_ -- pc_ 81
          refine sm_T_go 1 (c1 := (84, [some (.inr (.inr (some (12, 0)))), some (.inr (.inr (some (34, (0 + c1_))))), some (.inl bg_), some (.inr (.inr (some (3, dd_)))), some (.inl mk_), some (.inl ip9_), none, some (.inl tl_), some (.inl hd9_), some (.inl (S_.2.2.1 115 0 hd9_.toNat)), none, none, none, none, none, none], [.inl ip9_, .inl ((S_.2.2.1 115 0 hd9_.toNat) / 64)], S_)) rfl ?_
          refine sm_T_bin (w := (i_shl ((S_.2.2.1 115 0 hd9_.toNat) / 64) ip9_)) rfl rfl ?_ -- pc_ 84
          refine sm_T_go 3 (c1 := (91, [some (.inr (.inr (some (12, 0)))), some (.inr (.inr (some (34, (0 + c1_))))), some (.inl bg_), some (.inr (.inr (some (3, dd_)))), some (.inl mk_), some (.inl ip9_), none, some (.inl tl_), some (.inl hd9_), some (.inl (S_.2.2.1 115 0 hd9_.toNat)), some (.inl (i_shl ((S_.2.2.1 115 0 hd9_.toNat) / 64) ip9_)), none, none, none, none, none], [.inl 63, .inl (S_.2.2.1 115 0 hd9_.toNat)], S_)) rfl ?_
          refine sm_T_bin (w := ((S_.2.2.1 115 0 hd9_.toNat) % 64)) rfl (bi_msk (k := 6) (by decide)) ?_ -- pc_ 91
          refine sm_T_go 1 (c1 := (94, [some (.inr (.inr (some (12, 0)))), some (.inr (.inr (some (34, (0 + c1_))))), some (.inl bg_), some (.inr (.inr (some (3, dd_)))), some (.inl mk_), some (.inl ip9_), none, some (.inl tl_), some (.inl hd9_), some (.inl (S_.2.2.1 115 0 hd9_.toNat)), some (.inl (i_shl ((S_.2.2.1 115 0 hd9_.toNat) / 64) ip9_)), none, none, none, none, none], [.inl ip9_, .inl ((S_.2.2.1 115 0 hd9_.toNat) % 64)], S_)) rfl ?_
          refine sm_T_bin (w := (i_shl ((S_.2.2.1 115 0 hd9_.toNat) % 64) ip9_)) rfl rfl ?_ -- pc_ 94
          refine sm_T_go 3 (c1 := (100, [some (.inr (.inr (some (12, 0)))), some (.inr (.inr (some (34, (0 + c1_))))), some (.inl bg_), some (.inr (.inr (some (3, dd_)))), some (.inl mk_), some (.inl ip9_), none, some (.inl tl_), some (.inl hd9_), some (.inl (S_.2.2.1 115 0 hd9_.toNat)), some (.inl (i_shl ((S_.2.2.1 115 0 hd9_.toNat) / 64) ip9_)), some (.inl (i_shl ((S_.2.2.1 115 0 hd9_.toNat) % 64) ip9_)), some (.inl 0), none, none, none], [], S_)) rfl ?_
          refine ih_.2 ip9_ tl_ hd9_ (S_.2.2.1 115 0 hd9_.toNat) (i_shl ((S_.2.2.1 115 0 hd9_.toNat) / 64) ip9_) (i_shl ((S_.2.2.1 115 0 hd9_.toNat) % 64) ip9_) 0 S_ hI_ hF_ ⟨?_, ?_, ?_, ?_, ?_, ?_, ?_, ?_, ?_, trivial⟩ ?_
          · exact hp_
          · exact hq_
          · exact hc_
          · exact hcq_
          · exact ⟨rfl, by omega⟩
          · exact Nat.zero_le _
          · omega
          · exact ⟨rfl, rfl⟩
          · exact hq9_
          · omega
    · rintro ip9_ tl_ hd9_ pr_ he_ te_ ip_ S_ hI_ hF_ ⟨hp_, hq_, hc_, hcq_, hpq_, hip_, h0_, hh_, hz_, -⟩ hm_
      have J9_ := dOk_b hd_
      have J9a := J9_.1
      have J9b := J9_.2.1
      have J9c := J9_.2.2.1
      have J9t := J9_.2.2.2.2
      have wa_ := pw_le (n := R1_) (m := 6) (by omega)
      have wb := pw_le (n := (S0_.1 3 dd_ 2).toNat) (m := 6) (by omega)
      have wc_ := pw_pos R1_
      have wd_ := pw_pos (S0_.1 3 dd_ 2).toNat
      have fT_ : S_.2.2.1 34 (0 + c1_) = S0_.2.2.1 34 (0 + c1_) := fr_arr hF_ rfl
      have f47_ : S_.2.2.1 47 (0 + dd_) = S0_.2.2.1 47 (0 + dd_) := fr_arr hF_ rfl
      have cl9_ := cn1_le (pn2 (S_.2.2.1 113 0)) 4096
      refine sm_T_go 3 (c1 := (105, [some (.inr (.inr (some (12, 0)))), some (.inr (.inr (some (34, (0 + c1_))))), some (.inl bg_), some (.inr (.inr (some (3, dd_)))), some (.inl mk_), some (.inl ip9_), none, some (.inl tl_), some (.inl hd9_), some (.inl pr_), some (.inl he_), some (.inl te_), some (.inl ip_), none, none, none], [.inl ip9_, .inl 1, .inl ip_], S_)) rfl ?_
      refine sm_T_bin (w := (i_shl 1 ip9_)) rfl rfl ?_ -- pc_ 105
      have bx1_ := i_shl1 (e := ip9_) (by omega) (by omega)
      have wp_ := pw_le (n := (ip9_).toNat) (m := 12) (by omega)
      have wp0_ := pw_pos (ip9_).toNat
      have wp1_ : (2 : Int) ^ (ip9_).toNat = 2 ^ (S0_.1 3 dd_ 1).toNat := by rw [show ip9_ = S0_.1 3 dd_ 1 by omega]
      refine sm_T_br (a := 3) (z := 112) rfl (fun cx5_ => ?_) (fun cx5_ => ?_)
      · have cx5_ : (i_shl 1 ip9_) ≤ ip_ := of_decide_eq_true cx5_
        refine sm_T_inc (a := 8) (z := 1) (v := hd9_) (w := hd9_ + 1) rfl rfl (by omega) (by omega) (by omega) ?_ -- pc_ 218
        refine sm_T_go 1 (c1 := (53, [some (.inr (.inr (some (12, 0)))), some (.inr (.inr (some (34, (0 + c1_))))), some (.inl bg_), some (.inr (.inr (some (3, dd_)))), some (.inl mk_), some (.inl ip9_), none, some (.inl tl_), some (.inl (hd9_ + 1)), some (.inl pr_), some (.inl he_), some (.inl te_), some (.inl ip_), none, none, none], [], S_)) rfl ?_
        refine sm_T_wk [some (.inr (.inr (some (12, 0)))), some (.inr (.inr (some (34, (0 + c1_))))), some (.inl bg_), some (.inr (.inr (some (3, dd_)))), some (.inl mk_), some (.inl ip9_), none, some (.inl tl_), some (.inl (hd9_ + 1)), none, none, none, none, none, none, none] (by exact ⟨rfl, rfl, rfl, rfl, rfl, rfl, rfl, rfl, trivial⟩) ?_
        refine ih_.1 ip9_ tl_ (hd9_ + 1) S_ hI_ hF_ ⟨?_, ?_, ?_, ?_, ?_, trivial⟩ ?_
        · exact hp_
        · exact hq_
        · exact hc_
        · rw [show (hd9_ + 1).toNat = hd9_.toNat + 1 by omega]
          exact ccq_n hcq_ (by have z9_ := pw_nn (k_ := (S0_.1 3 dd_ 1).toNat); omega)
        · omega
        · omega
      · have cx5_ : ¬ ((i_shl 1 ip9_) ≤ ip_) := of_decide_eq_false cx5_
        have p1_ := pat_b (s_ := pr_ / 64) (i_ := ip_) (R_ := R1_) (I_ := (S0_.1 3 dd_ 1).toNat) (by omega) (by omega) (by omega)
        have p2_ := pat_b (s_ := pr_ % 64) (i_ := ip_) (R_ := (S0_.1 3 dd_ 2).toNat) (I_ := (S0_.1 3 dd_ 1).toNat) (by omega) (by omega) (by omega)
        have p3_ := pw_le (n := R1_ + (S0_.1 3 dd_ 1).toNat) (m := 12) (by omega)
        have p4_ := pw_le (n := (S0_.1 3 dd_ 2).toNat + (S0_.1 3 dd_ 1).toNat) (m := 12) (by omega)
        rw [show (((S0_.1 3 dd_ 1).toNat : Nat) : Int) = ip9_ by omega, ← hh_.1] at p1_
        rw [show (((S0_.1 3 dd_ 1).toNat : Nat) : Int) = ip9_ by omega, ← hh_.2] at p2_
        have n1p := pat_n (s_ := pr_ / 64) (i_ := ip_) (R_ := R1_) (I_ := (S0_.1 3 dd_ 1).toNat) (by omega) (by omega) (by omega)
        have n2p := pat_n (s_ := pr_ % 64) (i_ := ip_) (R_ := (S0_.1 3 dd_ 2).toNat) (I_ := (S0_.1 3 dd_ 1).toNat) (by omega) (by omega) (by omega)
        rw [show (((S0_.1 3 dd_ 1).toNat : Nat) : Int) = ip9_ by omega, ← hh_.1] at n1p
        rw [show (((S0_.1 3 dd_ 1).toNat : Nat) : Int) = ip9_ by omega, ← hh_.2] at n2p
        have iz9_ : ip_.toNat < 2 ^ (S0_.1 3 dd_ 1).toNat := (by have z9_ := pw_nn (k_ := (S0_.1 3 dd_ 1).toNat); omega)
        have t1_ := ht_ (i_or he_ ip_).toNat (by omega)
        have t2_ := J9t (i_or te_ ip_).toNat (by omega)
        rw [← fT_] at t1_
        rw [← f47_] at t2_
        have n1_ := shr16 t1_
        have n2_ := shr16 t2_
        have o9_ := or64 (a_ := S_.2.2.1 34 (0 + c1_) (i_or he_ ip_).toNat / 65536) (b_ := S_.2.2.1 47 (0 + dd_) (i_or te_ ip_).toNat / 65536) (by omega) (by omega)
        refine sm_T_go 3 (c1 := (114, [some (.inr (.inr (some (12, 0)))), some (.inr (.inr (some (34, (0 + c1_))))), some (.inl bg_), some (.inr (.inr (some (3, dd_)))), some (.inl mk_), some (.inl ip9_), none, some (.inl tl_), some (.inl hd9_), some (.inl pr_), some (.inl he_), some (.inl te_), some (.inl ip_), none, none, none], [.inl ip_, .inl he_, .inr (.inr (some (34, (0 + c1_))))], S_)) rfl ?_
        refine sm_T_bin (w := (i_or he_ ip_)) rfl rfl ?_ -- pc_ 114
        refine sm_T_iald (n := 4096) rfl rfl (by omega) (by omega) ?_
        have bx6_ : 0 ≤ S_.2.2.1 34 (0 + c1_) (i_or he_ ip_).toNat ∧ S_.2.2.1 34 (0 + c1_) (i_or he_ ip_).toNat ≤ 4194303 := hI_.2 34 (0 + c1_) _
        refine sm_T_go 5 (c1 := (126, [some (.inr (.inr (some (12, 0)))), some (.inr (.inr (some (34, (0 + c1_))))), some (.inl bg_), some (.inr (.inr (some (3, dd_)))), some (.inl mk_), some (.inl ip9_), none, some (.inl tl_), some (.inl hd9_), some (.inl pr_), some (.inl he_), some (.inl te_), some (.inl ip_), some (.inl (S_.2.2.1 34 (0 + c1_) (i_or he_ ip_).toNat)), none, none], [.inl ip_, .inl te_, .inr (.inr (some (47, (0 + dd_))))], S_)) rfl ?_
        refine sm_T_bin (w := (i_or te_ ip_)) rfl rfl ?_ -- pc_ 126
        refine sm_T_iald (n := 4096) rfl rfl (by omega) (by omega) ?_
        have bx7_ : 0 ≤ S_.2.2.1 47 (0 + dd_) (i_or te_ ip_).toNat ∧ S_.2.2.1 47 (0 + dd_) (i_or te_ ip_).toNat ≤ 4194303 := hI_.2 47 (0 + dd_) _
        refine sm_T_go 3 (c1 := (134, [some (.inr (.inr (some (12, 0)))), some (.inr (.inr (some (34, (0 + c1_))))), some (.inl bg_), some (.inr (.inr (some (3, dd_)))), some (.inl mk_), some (.inl ip9_), none, some (.inl tl_), some (.inl hd9_), some (.inl pr_), some (.inl he_), some (.inl te_), some (.inl ip_), some (.inl (S_.2.2.1 34 (0 + c1_) (i_or he_ ip_).toNat)), some (.inl (S_.2.2.1 47 (0 + dd_) (i_or te_ ip_).toNat)), none], [.inl (S_.2.2.1 47 (0 + dd_) (i_or te_ ip_).toNat), .inl (S_.2.2.1 34 (0 + c1_) (i_or he_ ip_).toNat)], S_)) rfl ?_
        refine sm_T_bin (w := (i_xor (S_.2.2.1 34 (0 + c1_) (i_or he_ ip_).toNat) (S_.2.2.1 47 (0 + dd_) (i_or te_ ip_).toNat))) rfl rfl ?_ -- pc_ 134
        refine sm_T_go 1 (c1 := (137, [some (.inr (.inr (some (12, 0)))), some (.inr (.inr (some (34, (0 + c1_))))), some (.inl bg_), some (.inr (.inr (some (3, dd_)))), some (.inl mk_), some (.inl ip9_), none, some (.inl tl_), some (.inl hd9_), some (.inl pr_), some (.inl he_), some (.inl te_), some (.inl ip_), some (.inl (S_.2.2.1 34 (0 + c1_) (i_or he_ ip_).toNat)), some (.inl (S_.2.2.1 47 (0 + dd_) (i_or te_ ip_).toNat)), none], [.inl mk_, .inl (i_xor (S_.2.2.1 34 (0 + c1_) (i_or he_ ip_).toNat) (S_.2.2.1 47 (0 + dd_) (i_or te_ ip_).toNat))], S_)) rfl ?_
        refine sm_T_bin (w := (i_and (i_xor (S_.2.2.1 34 (0 + c1_) (i_or he_ ip_).toNat) (S_.2.2.1 47 (0 + dd_) (i_or te_ ip_).toNat)) mk_)) rfl rfl ?_ -- pc_ 137
        refine sm_T_b0 (a := 0) (z := 16) rfl (fun cx8_ => ?_) (fun cx8_ => ?_)
        · have cx8_ : (i_and (i_xor (S_.2.2.1 34 (0 + c1_) (i_or he_ ip_).toNat) (S_.2.2.1 47 (0 + dd_) (i_or te_ ip_).toNat)) mk_) = 0 := of_decide_eq_true cx8_
          have nn9_ : ¬ cmD (S0_.2.2.1 34 (0 + c1_)) (S0_.2.2.1 47 (0 + dd_)) mk_ ((pr_ / 64).toNat * 2 ^ (S0_.1 3 dd_ 1).toNat + ip_.toNat) ((pr_ % 64).toNat * 2 ^ (S0_.1 3 dd_ 1).toNat + ip_.toNat) := fun z9_ => z9_ (by (rw [← n1p, ← n2p, ← fT_, ← f47_]; exact cx8_))
          refine sm_T_go 2 (c1 := (158, [some (.inr (.inr (some (12, 0)))), some (.inr (.inr (some (34, (0 + c1_))))), some (.inl bg_), some (.inr (.inr (some (3, dd_)))), some (.inl mk_), some (.inl ip9_), none, some (.inl tl_), some (.inl hd9_), some (.inl pr_), some (.inl he_), some (.inl te_), some (.inl ip_), some (.inl (S_.2.2.1 34 (0 + c1_) (i_or he_ ip_).toNat)), some (.inl (S_.2.2.1 47 (0 + dd_) (i_or te_ ip_).toNat)), none], [.inl 16, .inl (S_.2.2.1 34 (0 + c1_) (i_or he_ ip_).toNat)], S_)) rfl ?_
          refine sm_T_bin (w := ((S_.2.2.1 34 (0 + c1_) (i_or he_ ip_).toNat) / 65536)) rfl (bi_shr (k := 16) (by decide) (by omega) (by omega)) ?_ -- pc_ 158
          refine sm_T_go 1 (c1 := (161, [some (.inr (.inr (some (12, 0)))), some (.inr (.inr (some (34, (0 + c1_))))), some (.inl bg_), some (.inr (.inr (some (3, dd_)))), some (.inl mk_), some (.inl ip9_), none, some (.inl tl_), some (.inl hd9_), some (.inl pr_), some (.inl he_), some (.inl te_), some (.inl ip_), some (.inl (S_.2.2.1 34 (0 + c1_) (i_or he_ ip_).toNat)), some (.inl (S_.2.2.1 47 (0 + dd_) (i_or te_ ip_).toNat)), none], [.inl 6, .inl ((S_.2.2.1 34 (0 + c1_) (i_or he_ ip_).toNat) / 65536)], S_)) rfl ?_
          refine sm_T_bin (w := 64 * ((S_.2.2.1 34 (0 + c1_) (i_or he_ ip_).toNat) / 65536)) rfl (bi_shl (k := 6) (by decide) (by omega) (by omega) (by omega)) ?_ -- pc_ 161
          refine sm_T_go 2 (c1 := (166, [some (.inr (.inr (some (12, 0)))), some (.inr (.inr (some (34, (0 + c1_))))), some (.inl bg_), some (.inr (.inr (some (3, dd_)))), some (.inl mk_), some (.inl ip9_), none, some (.inl tl_), some (.inl hd9_), some (.inl pr_), some (.inl he_), some (.inl te_), some (.inl ip_), some (.inl (S_.2.2.1 34 (0 + c1_) (i_or he_ ip_).toNat)), some (.inl (S_.2.2.1 47 (0 + dd_) (i_or te_ ip_).toNat)), none], [.inl 16, .inl (S_.2.2.1 47 (0 + dd_) (i_or te_ ip_).toNat), .inl (64 * ((S_.2.2.1 34 (0 + c1_) (i_or he_ ip_).toNat) / 65536))], S_)) rfl ?_
          refine sm_T_bin (w := ((S_.2.2.1 47 (0 + dd_) (i_or te_ ip_).toNat) / 65536)) rfl (bi_shr (k := 16) (by decide) (by omega) (by omega)) ?_ -- pc_ 166
          refine sm_T_bin (w := (i_or (64 * ((S_.2.2.1 34 (0 + c1_) (i_or he_ ip_).toNat) / 65536)) ((S_.2.2.1 47 (0 + dd_) (i_or te_ ip_).toNat) / 65536))) rfl rfl ?_ -- pc_ 167
          refine sm_T_go 4 (c1 := (176, [some (.inr (.inr (some (12, 0)))), some (.inr (.inr (some (34, (0 + c1_))))), some (.inl bg_), some (.inr (.inr (some (3, dd_)))), some (.inl mk_), some (.inl ip9_), none, some (.inl tl_), some (.inl hd9_), some (.inl pr_), some (.inl he_), some (.inl te_), some (.inl ip_), some (.inl (S_.2.2.1 34 (0 + c1_) (i_or he_ ip_).toNat)), some (.inl (S_.2.2.1 47 (0 + dd_) (i_or te_ ip_).toNat)), some (.inl (i_or (64 * ((S_.2.2.1 34 (0 + c1_) (i_or he_ ip_).toNat) / 65536)) ((S_.2.2.1 47 (0 + dd_) (i_or te_ ip_).toNat) / 65536)))], [.inl (i_or (64 * ((S_.2.2.1 34 (0 + c1_) (i_or he_ ip_).toNat) / 65536)) ((S_.2.2.1 47 (0 + dd_) (i_or te_ ip_).toNat) / 65536)), .inr (.inr (some (113, 0)))], S_)) rfl ?_
          refine sm_T_iald (n := 4096) rfl rfl (by omega) (by omega) ?_
          have bx9_ : (-2) ≤ S_.2.2.1 113 0 (i_or (64 * ((S_.2.2.1 34 (0 + c1_) (i_or he_ ip_).toNat) / 65536)) ((S_.2.2.1 47 (0 + dd_) (i_or te_ ip_).toNat) / 65536)).toNat ∧ S_.2.2.1 113 0 (i_or (64 * ((S_.2.2.1 34 (0 + c1_) (i_or he_ ip_).toNat) / 65536)) ((S_.2.2.1 47 (0 + dd_) (i_or te_ ip_).toNat) / 65536)).toNat ≤ 4095 := hI_.2 113 0 _
          refine sm_T_go 1 (c1 := (179, [some (.inr (.inr (some (12, 0)))), some (.inr (.inr (some (34, (0 + c1_))))), some (.inl bg_), some (.inr (.inr (some (3, dd_)))), some (.inl mk_), some (.inl ip9_), none, some (.inl tl_), some (.inl hd9_), some (.inl pr_), some (.inl he_), some (.inl te_), some (.inl ip_), some (.inl (S_.2.2.1 34 (0 + c1_) (i_or he_ ip_).toNat)), some (.inl (S_.2.2.1 47 (0 + dd_) (i_or te_ ip_).toNat)), some (.inl (i_or (64 * ((S_.2.2.1 34 (0 + c1_) (i_or he_ ip_).toNat) / 65536)) ((S_.2.2.1 47 (0 + dd_) (i_or te_ ip_).toNat) / 65536)))], [.inl (-2), .inl (S_.2.2.1 113 0 (i_or (64 * ((S_.2.2.1 34 (0 + c1_) (i_or he_ ip_).toNat) / 65536)) ((S_.2.2.1 47 (0 + dd_) (i_or te_ ip_).toNat) / 65536)).toNat)], S_)) rfl ?_
          refine sm_T_br (a := 1) (z := 33) rfl (fun cx10_ => ?_) (fun cx10_ => ?_)
          · have cx10_ : (S_.2.2.1 113 0 (i_or (64 * ((S_.2.2.1 34 (0 + c1_) (i_or he_ ip_).toNat) / 65536)) ((S_.2.2.1 47 (0 + dd_) (i_or te_ ip_).toNat) / 65536)).toNat) ≠ (-2) := of_decide_eq_true cx10_
            refine sm_T_inc (a := 12) (z := 1) (v := ip_) (w := ip_ + 1) rfl rfl (by omega) (by omega) (by omega) ?_ -- pc_ 212
            refine sm_T_go 1 (c1 := (100, [some (.inr (.inr (some (12, 0)))), some (.inr (.inr (some (34, (0 + c1_))))), some (.inl bg_), some (.inr (.inr (some (3, dd_)))), some (.inl mk_), some (.inl ip9_), none, some (.inl tl_), some (.inl hd9_), some (.inl pr_), some (.inl he_), some (.inl te_), some (.inl (ip_ + 1)), some (.inl (S_.2.2.1 34 (0 + c1_) (i_or he_ ip_).toNat)), some (.inl (S_.2.2.1 47 (0 + dd_) (i_or te_ ip_).toNat)), some (.inl (i_or (64 * ((S_.2.2.1 34 (0 + c1_) (i_or he_ ip_).toNat) / 65536)) ((S_.2.2.1 47 (0 + dd_) (i_or te_ ip_).toNat) / 65536)))], [], S_)) rfl ?_
            refine sm_T_wk [some (.inr (.inr (some (12, 0)))), some (.inr (.inr (some (34, (0 + c1_))))), some (.inl bg_), some (.inr (.inr (some (3, dd_)))), some (.inl mk_), some (.inl ip9_), none, some (.inl tl_), some (.inl hd9_), some (.inl pr_), some (.inl he_), some (.inl te_), some (.inl (ip_ + 1)), none, none, none] (by exact ⟨rfl, rfl, rfl, rfl, rfl, rfl, rfl, rfl, rfl, rfl, rfl, rfl, trivial⟩) ?_
            refine ih_.2 ip9_ tl_ hd9_ pr_ he_ te_ (ip_ + 1) S_ hI_ hF_ ⟨?_, ?_, ?_, ?_, ?_, ?_, ?_, ?_, ?_, trivial⟩ ?_
            · exact hp_
            · exact hq_
            · exact hc_
            · have ax9_ : S_.2.2.1 34 (0 + c1_) (i_or he_ ip_).toNat / 65536 = nx6 (S0_.2.2.1 34 (0 + c1_)) ((pr_ / 64).toNat * 2 ^ (S0_.1 3 dd_ 1).toNat + ip_.toNat) := by (unfold nx6; rw [← n1p, ← fT_])
              have ay9_ : S_.2.2.1 47 (0 + dd_) (i_or te_ ip_).toNat / 65536 = nx6 (S0_.2.2.1 47 (0 + dd_)) ((pr_ % 64).toNat * 2 ^ (S0_.1 3 dd_ 1).toNat + ip_.toNat) := by (unfold nx6; rw [← n2p, ← f47_])
              rw [show (ip_ + 1).toNat = ip_.toNat + 1 by omega]
              refine ccq_o hcq_ (by omega) (by omega) hpq_.1 iz9_ nn9_ ax9_ ay9_ (by omega) (by omega) ?_
              rw [← o9_]
              exact cx10_
            · exact hpq_
            · (have z9_ := pw_nn (k_ := (S0_.1 3 dd_ 1).toNat); omega)
            · omega
            · exact hh_
            · exact hz_
            · omega
          · have cx10_ : ¬ ((S_.2.2.1 113 0 (i_or (64 * ((S_.2.2.1 34 (0 + c1_) (i_or he_ ip_).toNat) / 65536)) ((S_.2.2.1 47 (0 + dd_) (i_or te_ ip_).toNat) / 65536)).toNat) ≠ (-2)) := of_decide_eq_false cx10_
            have lt9_ := cn1_lt (f := pn2 (S_.2.2.1 113 0)) (j := (i_or (64 * (S_.2.2.1 34 (0 + c1_) (i_or he_ ip_).toNat / 65536)) (S_.2.2.1 47 (0 + dd_) (i_or te_ ip_).toNat / 65536)).toNat) (fun y9_ => absurd (pn2_1.mp y9_) cx10_) (n := 4096) (by omega)
            refine sm_T_go 4 (c1 := (190, [some (.inr (.inr (some (12, 0)))), some (.inr (.inr (some (34, (0 + c1_))))), some (.inl bg_), some (.inr (.inr (some (3, dd_)))), some (.inl mk_), some (.inl ip9_), none, some (.inl tl_), some (.inl hd9_), some (.inl pr_), some (.inl he_), some (.inl te_), some (.inl ip_), some (.inl (S_.2.2.1 34 (0 + c1_) (i_or he_ ip_).toNat)), some (.inl (S_.2.2.1 47 (0 + dd_) (i_or te_ ip_).toNat)), some (.inl (i_or (64 * ((S_.2.2.1 34 (0 + c1_) (i_or he_ ip_).toNat) / 65536)) ((S_.2.2.1 47 (0 + dd_) (i_or te_ ip_).toNat) / 65536)))], [.inl pr_, .inl (i_or (64 * ((S_.2.2.1 34 (0 + c1_) (i_or he_ ip_).toNat) / 65536)) ((S_.2.2.1 47 (0 + dd_) (i_or te_ ip_).toNat) / 65536)), .inr (.inr (some (113, 0)))], S_)) rfl ?_
            refine sm_T_iast (n := 4096) rfl rfl (by omega) (by omega) ?_
            have hIx11_ : gi (sm_aI S_ 113 0 (i_or (64 * ((S_.2.2.1 34 (0 + c1_) (i_or he_ ip_).toNat) / 65536)) ((S_.2.2.1 47 (0 + dd_) (i_or te_ ip_).toNat) / 65536)).toNat pr_) := gi_aI hI_ (show (-2) ≤ pr_ ∧ pr_ ≤ 4095 from ⟨by omega, by omega⟩)
            have hFx12_ : ai_fr (sx_W vw_276cw) S0_ (sm_aI S_ 113 0 (i_or (64 * ((S_.2.2.1 34 (0 + c1_) (i_or he_ ip_).toNat) / 65536)) ((S_.2.2.1 47 (0 + dd_) (i_or te_ ip_).toNat) / 65536)).toNat pr_) := ai_fr_tr hF_ (ai_fr_aI rfl)
            refine sm_T_go 4 (c1 := (199, [some (.inr (.inr (some (12, 0)))), some (.inr (.inr (some (34, (0 + c1_))))), some (.inl bg_), some (.inr (.inr (some (3, dd_)))), some (.inl mk_), some (.inl ip9_), none, some (.inl tl_), some (.inl hd9_), some (.inl pr_), some (.inl he_), some (.inl te_), some (.inl ip_), some (.inl (S_.2.2.1 34 (0 + c1_) (i_or he_ ip_).toNat)), some (.inl (S_.2.2.1 47 (0 + dd_) (i_or te_ ip_).toNat)), some (.inl (i_or (64 * ((S_.2.2.1 34 (0 + c1_) (i_or he_ ip_).toNat) / 65536)) ((S_.2.2.1 47 (0 + dd_) (i_or te_ ip_).toNat) / 65536)))], [.inl ip_, .inl (i_or (64 * ((S_.2.2.1 34 (0 + c1_) (i_or he_ ip_).toNat) / 65536)) ((S_.2.2.1 47 (0 + dd_) (i_or te_ ip_).toNat) / 65536)), .inr (.inr (some (114, 0)))], sm_aI S_ 113 0 (i_or (64 * ((S_.2.2.1 34 (0 + c1_) (i_or he_ ip_).toNat) / 65536)) ((S_.2.2.1 47 (0 + dd_) (i_or te_ ip_).toNat) / 65536)).toNat pr_)) rfl ?_
            refine sm_T_iast (n := 4096) rfl rfl (by omega) (by omega) ?_
            have hIx13_ : gi (sm_aI (sm_aI S_ 113 0 (i_or (64 * ((S_.2.2.1 34 (0 + c1_) (i_or he_ ip_).toNat) / 65536)) ((S_.2.2.1 47 (0 + dd_) (i_or te_ ip_).toNat) / 65536)).toNat pr_) 114 0 (i_or (64 * ((S_.2.2.1 34 (0 + c1_) (i_or he_ ip_).toNat) / 65536)) ((S_.2.2.1 47 (0 + dd_) (i_or te_ ip_).toNat) / 65536)).toNat ip_) := gi_aI hIx11_ (show 0 ≤ ip_ ∧ ip_ ≤ 4095 from ⟨by omega, by omega⟩)
            have hFx14_ : ai_fr (sx_W vw_276cw) S0_ (sm_aI (sm_aI S_ 113 0 (i_or (64 * ((S_.2.2.1 34 (0 + c1_) (i_or he_ ip_).toNat) / 65536)) ((S_.2.2.1 47 (0 + dd_) (i_or te_ ip_).toNat) / 65536)).toNat pr_) 114 0 (i_or (64 * ((S_.2.2.1 34 (0 + c1_) (i_or he_ ip_).toNat) / 65536)) ((S_.2.2.1 47 (0 + dd_) (i_or te_ ip_).toNat) / 65536)).toNat ip_) := ai_fr_tr hFx12_ (ai_fr_aI rfl)
            refine sm_T_go 4 (c1 := (208, [some (.inr (.inr (some (12, 0)))), some (.inr (.inr (some (34, (0 + c1_))))), some (.inl bg_), some (.inr (.inr (some (3, dd_)))), some (.inl mk_), some (.inl ip9_), none, some (.inl tl_), some (.inl hd9_), some (.inl pr_), some (.inl he_), some (.inl te_), some (.inl ip_), some (.inl (S_.2.2.1 34 (0 + c1_) (i_or he_ ip_).toNat)), some (.inl (S_.2.2.1 47 (0 + dd_) (i_or te_ ip_).toNat)), some (.inl (i_or (64 * ((S_.2.2.1 34 (0 + c1_) (i_or he_ ip_).toNat) / 65536)) ((S_.2.2.1 47 (0 + dd_) (i_or te_ ip_).toNat) / 65536)))], [.inl (i_or (64 * ((S_.2.2.1 34 (0 + c1_) (i_or he_ ip_).toNat) / 65536)) ((S_.2.2.1 47 (0 + dd_) (i_or te_ ip_).toNat) / 65536)), .inl tl_, .inr (.inr (some (115, 0)))], sm_aI (sm_aI S_ 113 0 (i_or (64 * ((S_.2.2.1 34 (0 + c1_) (i_or he_ ip_).toNat) / 65536)) ((S_.2.2.1 47 (0 + dd_) (i_or te_ ip_).toNat) / 65536)).toNat pr_) 114 0 (i_or (64 * ((S_.2.2.1 34 (0 + c1_) (i_or he_ ip_).toNat) / 65536)) ((S_.2.2.1 47 (0 + dd_) (i_or te_ ip_).toNat) / 65536)).toNat ip_)) rfl ?_
            refine sm_T_iast (n := 4096) rfl rfl (by omega) (by omega) ?_
            have hIx15_ : gi (sm_aI (sm_aI (sm_aI S_ 113 0 (i_or (64 * ((S_.2.2.1 34 (0 + c1_) (i_or he_ ip_).toNat) / 65536)) ((S_.2.2.1 47 (0 + dd_) (i_or te_ ip_).toNat) / 65536)).toNat pr_) 114 0 (i_or (64 * ((S_.2.2.1 34 (0 + c1_) (i_or he_ ip_).toNat) / 65536)) ((S_.2.2.1 47 (0 + dd_) (i_or te_ ip_).toNat) / 65536)).toNat ip_) 115 0 tl_.toNat (i_or (64 * ((S_.2.2.1 34 (0 + c1_) (i_or he_ ip_).toNat) / 65536)) ((S_.2.2.1 47 (0 + dd_) (i_or te_ ip_).toNat) / 65536))) := gi_aI hIx13_ (show 0 ≤ (i_or (64 * ((S_.2.2.1 34 (0 + c1_) (i_or he_ ip_).toNat) / 65536)) ((S_.2.2.1 47 (0 + dd_) (i_or te_ ip_).toNat) / 65536)) ∧ (i_or (64 * ((S_.2.2.1 34 (0 + c1_) (i_or he_ ip_).toNat) / 65536)) ((S_.2.2.1 47 (0 + dd_) (i_or te_ ip_).toNat) / 65536)) ≤ 4095 from ⟨by omega, by omega⟩)
            have hFx16_ : ai_fr (sx_W vw_276cw) S0_ (sm_aI (sm_aI (sm_aI S_ 113 0 (i_or (64 * ((S_.2.2.1 34 (0 + c1_) (i_or he_ ip_).toNat) / 65536)) ((S_.2.2.1 47 (0 + dd_) (i_or te_ ip_).toNat) / 65536)).toNat pr_) 114 0 (i_or (64 * ((S_.2.2.1 34 (0 + c1_) (i_or he_ ip_).toNat) / 65536)) ((S_.2.2.1 47 (0 + dd_) (i_or te_ ip_).toNat) / 65536)).toNat ip_) 115 0 tl_.toNat (i_or (64 * ((S_.2.2.1 34 (0 + c1_) (i_or he_ ip_).toNat) / 65536)) ((S_.2.2.1 47 (0 + dd_) (i_or te_ ip_).toNat) / 65536))) := ai_fr_tr hFx14_ (ai_fr_aI rfl)
            refine sm_T_inc (a := 7) (z := 1) (v := tl_) (w := tl_ + 1) rfl rfl (by omega) (by omega) (by omega) ?_ -- pc_ 209
            refine sm_T_inc (a := 12) (z := 1) (v := ip_) (w := ip_ + 1) rfl rfl (by omega) (by omega) (by omega) ?_ -- pc_ 212
            refine sm_T_go 1 (c1 := (100, [some (.inr (.inr (some (12, 0)))), some (.inr (.inr (some (34, (0 + c1_))))), some (.inl bg_), some (.inr (.inr (some (3, dd_)))), some (.inl mk_), some (.inl ip9_), none, some (.inl (tl_ + 1)), some (.inl hd9_), some (.inl pr_), some (.inl he_), some (.inl te_), some (.inl (ip_ + 1)), some (.inl (S_.2.2.1 34 (0 + c1_) (i_or he_ ip_).toNat)), some (.inl (S_.2.2.1 47 (0 + dd_) (i_or te_ ip_).toNat)), some (.inl (i_or (64 * ((S_.2.2.1 34 (0 + c1_) (i_or he_ ip_).toNat) / 65536)) ((S_.2.2.1 47 (0 + dd_) (i_or te_ ip_).toNat) / 65536)))], [], sm_aI (sm_aI (sm_aI S_ 113 0 (i_or (64 * ((S_.2.2.1 34 (0 + c1_) (i_or he_ ip_).toNat) / 65536)) ((S_.2.2.1 47 (0 + dd_) (i_or te_ ip_).toNat) / 65536)).toNat pr_) 114 0 (i_or (64 * ((S_.2.2.1 34 (0 + c1_) (i_or he_ ip_).toNat) / 65536)) ((S_.2.2.1 47 (0 + dd_) (i_or te_ ip_).toNat) / 65536)).toNat ip_) 115 0 tl_.toNat (i_or (64 * ((S_.2.2.1 34 (0 + c1_) (i_or he_ ip_).toNat) / 65536)) ((S_.2.2.1 47 (0 + dd_) (i_or te_ ip_).toNat) / 65536)))) rfl ?_
            refine sm_T_wk [some (.inr (.inr (some (12, 0)))), some (.inr (.inr (some (34, (0 + c1_))))), some (.inl bg_), some (.inr (.inr (some (3, dd_)))), some (.inl mk_), some (.inl ip9_), none, some (.inl (tl_ + 1)), some (.inl hd9_), some (.inl pr_), some (.inl he_), some (.inl te_), some (.inl (ip_ + 1)), none, none, none] (by exact ⟨rfl, rfl, rfl, rfl, rfl, rfl, rfl, rfl, rfl, rfl, rfl, rfl, trivial⟩) ?_
            refine ih_.2 ip9_ (tl_ + 1) hd9_ pr_ he_ te_ (ip_ + 1) (sm_aI (sm_aI (sm_aI S_ 113 0 (i_or (64 * ((S_.2.2.1 34 (0 + c1_) (i_or he_ ip_).toNat) / 65536)) ((S_.2.2.1 47 (0 + dd_) (i_or te_ ip_).toNat) / 65536)).toNat pr_) 114 0 (i_or (64 * ((S_.2.2.1 34 (0 + c1_) (i_or he_ ip_).toNat) / 65536)) ((S_.2.2.1 47 (0 + dd_) (i_or te_ ip_).toNat) / 65536)).toNat ip_) 115 0 tl_.toNat (i_or (64 * ((S_.2.2.1 34 (0 + c1_) (i_or he_ ip_).toNat) / 65536)) ((S_.2.2.1 47 (0 + dd_) (i_or te_ ip_).toNat) / 65536))) hIx15_ hFx16_ ⟨?_, ?_, ?_, ?_, ?_, ?_, ?_, ?_, ?_, trivial⟩ ?_
            · obtain ⟨NN_, hNN_⟩ : ∃ NN_, NN_ = i_or (64 * (S_.2.2.1 34 (0 + c1_) (i_or he_ ip_).toNat / 65536)) (S_.2.2.1 47 (0 + dd_) (i_or te_ ip_).toNat / 65536) := ⟨_, rfl⟩
              have cx9_ : ¬ (S_.2.2.1 113 0 NN_.toNat ≠ -2) := by (rw [hNN_]; exact cx10_)
              have r1_ : ∀ j9_, ((sm_aI (sm_aI (sm_aI S_ 113 0 (i_or (64 * ((S_.2.2.1 34 (0 + c1_) (i_or he_ ip_).toNat) / 65536)) ((S_.2.2.1 47 (0 + dd_) (i_or te_ ip_).toNat) / 65536)).toNat pr_) 114 0 (i_or (64 * ((S_.2.2.1 34 (0 + c1_) (i_or he_ ip_).toNat) / 65536)) ((S_.2.2.1 47 (0 + dd_) (i_or te_ ip_).toNat) / 65536)).toNat ip_) 115 0 tl_.toNat (i_or (64 * ((S_.2.2.1 34 (0 + c1_) (i_or he_ ip_).toNat) / 65536)) ((S_.2.2.1 47 (0 + dd_) (i_or te_ ip_).toNat) / 65536)))).2.2.1 115 0 j9_ = if j9_ = tl_.toNat then NN_ else S_.2.2.1 115 0 j9_ := fun j9_ => by rw [rd_eq, rd_ne (by decide), rd_ne (by decide), hNN_]
              have r2_ : ∀ j9_, ((sm_aI (sm_aI (sm_aI S_ 113 0 (i_or (64 * ((S_.2.2.1 34 (0 + c1_) (i_or he_ ip_).toNat) / 65536)) ((S_.2.2.1 47 (0 + dd_) (i_or te_ ip_).toNat) / 65536)).toNat pr_) 114 0 (i_or (64 * ((S_.2.2.1 34 (0 + c1_) (i_or he_ ip_).toNat) / 65536)) ((S_.2.2.1 47 (0 + dd_) (i_or te_ ip_).toNat) / 65536)).toNat ip_) 115 0 tl_.toNat (i_or (64 * ((S_.2.2.1 34 (0 + c1_) (i_or he_ ip_).toNat) / 65536)) ((S_.2.2.1 47 (0 + dd_) (i_or te_ ip_).toNat) / 65536)))).2.2.1 113 0 j9_ = if j9_ = NN_.toNat then pr_ else S_.2.2.1 113 0 j9_ := fun j9_ => by rw [rd_ne (by decide), rd_ne (by decide), rd_eq, hNN_]
              intro j9_ hj9_ w9_
              rw [r2_] at w9_ ⊢
              by_cases z9_ : j9_ = NN_.toNat
              · rw [if_pos z9_]; right; rw [r2_]; refine ⟨by omega, ?_⟩; split; omega; exact hz_.1
              · rw [if_neg z9_] at w9_ ⊢; rcases hp_ j9_ hj9_ w9_ with q9_ | q9_
                · left; exact q9_
                · right; refine ⟨q9_.1, ?_⟩; rw [r2_]; split; omega; exact q9_.2
            · obtain ⟨NN_, hNN_⟩ : ∃ NN_, NN_ = i_or (64 * (S_.2.2.1 34 (0 + c1_) (i_or he_ ip_).toNat / 65536)) (S_.2.2.1 47 (0 + dd_) (i_or te_ ip_).toNat / 65536) := ⟨_, rfl⟩
              have cx9_ : ¬ (S_.2.2.1 113 0 NN_.toNat ≠ -2) := by (rw [hNN_]; exact cx10_)
              have r1_ : ∀ j9_, ((sm_aI (sm_aI (sm_aI S_ 113 0 (i_or (64 * ((S_.2.2.1 34 (0 + c1_) (i_or he_ ip_).toNat) / 65536)) ((S_.2.2.1 47 (0 + dd_) (i_or te_ ip_).toNat) / 65536)).toNat pr_) 114 0 (i_or (64 * ((S_.2.2.1 34 (0 + c1_) (i_or he_ ip_).toNat) / 65536)) ((S_.2.2.1 47 (0 + dd_) (i_or te_ ip_).toNat) / 65536)).toNat ip_) 115 0 tl_.toNat (i_or (64 * ((S_.2.2.1 34 (0 + c1_) (i_or he_ ip_).toNat) / 65536)) ((S_.2.2.1 47 (0 + dd_) (i_or te_ ip_).toNat) / 65536)))).2.2.1 115 0 j9_ = if j9_ = tl_.toNat then NN_ else S_.2.2.1 115 0 j9_ := fun j9_ => by rw [rd_eq, rd_ne (by decide), rd_ne (by decide), hNN_]
              have r2_ : ∀ j9_, ((sm_aI (sm_aI (sm_aI S_ 113 0 (i_or (64 * ((S_.2.2.1 34 (0 + c1_) (i_or he_ ip_).toNat) / 65536)) ((S_.2.2.1 47 (0 + dd_) (i_or te_ ip_).toNat) / 65536)).toNat pr_) 114 0 (i_or (64 * ((S_.2.2.1 34 (0 + c1_) (i_or he_ ip_).toNat) / 65536)) ((S_.2.2.1 47 (0 + dd_) (i_or te_ ip_).toNat) / 65536)).toNat ip_) 115 0 tl_.toNat (i_or (64 * ((S_.2.2.1 34 (0 + c1_) (i_or he_ ip_).toNat) / 65536)) ((S_.2.2.1 47 (0 + dd_) (i_or te_ ip_).toNat) / 65536)))).2.2.1 113 0 j9_ = if j9_ = NN_.toNat then pr_ else S_.2.2.1 113 0 j9_ := fun j9_ => by rw [rd_ne (by decide), rd_ne (by decide), rd_eq, hNN_]
              intro j9_ hj9_
              by_cases z9_ : (j9_ : Int) = tl_
              · rw [r1_, if_pos (by omega), r2_, if_pos rfl]; exact ⟨by omega, by omega, by omega⟩
              · have q9_ := hq_ j9_ (by omega)
                rw [r1_, if_neg (by omega), r2_]; refine ⟨?_, q9_.2⟩; split; omega; exact q9_.1
            · obtain ⟨NN_, hNN_⟩ : ∃ NN_, NN_ = i_or (64 * (S_.2.2.1 34 (0 + c1_) (i_or he_ ip_).toNat / 65536)) (S_.2.2.1 47 (0 + dd_) (i_or te_ ip_).toNat / 65536) := ⟨_, rfl⟩
              have cx9_ : ¬ (S_.2.2.1 113 0 NN_.toNat ≠ -2) := by (rw [hNN_]; exact cx10_)
              have r1_ : ∀ j9_, ((sm_aI (sm_aI (sm_aI S_ 113 0 (i_or (64 * ((S_.2.2.1 34 (0 + c1_) (i_or he_ ip_).toNat) / 65536)) ((S_.2.2.1 47 (0 + dd_) (i_or te_ ip_).toNat) / 65536)).toNat pr_) 114 0 (i_or (64 * ((S_.2.2.1 34 (0 + c1_) (i_or he_ ip_).toNat) / 65536)) ((S_.2.2.1 47 (0 + dd_) (i_or te_ ip_).toNat) / 65536)).toNat ip_) 115 0 tl_.toNat (i_or (64 * ((S_.2.2.1 34 (0 + c1_) (i_or he_ ip_).toNat) / 65536)) ((S_.2.2.1 47 (0 + dd_) (i_or te_ ip_).toNat) / 65536)))).2.2.1 115 0 j9_ = if j9_ = tl_.toNat then NN_ else S_.2.2.1 115 0 j9_ := fun j9_ => by rw [rd_eq, rd_ne (by decide), rd_ne (by decide), hNN_]
              have r2_ : ∀ j9_, ((sm_aI (sm_aI (sm_aI S_ 113 0 (i_or (64 * ((S_.2.2.1 34 (0 + c1_) (i_or he_ ip_).toNat) / 65536)) ((S_.2.2.1 47 (0 + dd_) (i_or te_ ip_).toNat) / 65536)).toNat pr_) 114 0 (i_or (64 * ((S_.2.2.1 34 (0 + c1_) (i_or he_ ip_).toNat) / 65536)) ((S_.2.2.1 47 (0 + dd_) (i_or te_ ip_).toNat) / 65536)).toNat ip_) 115 0 tl_.toNat (i_or (64 * ((S_.2.2.1 34 (0 + c1_) (i_or he_ ip_).toNat) / 65536)) ((S_.2.2.1 47 (0 + dd_) (i_or te_ ip_).toNat) / 65536)))).2.2.1 113 0 j9_ = if j9_ = NN_.toNat then pr_ else S_.2.2.1 113 0 j9_ := fun j9_ => by rw [rd_ne (by decide), rd_ne (by decide), rd_eq, hNN_]
              have u9_ := cn1_up (f := pn2 (S_.2.2.1 113 0)) (g := pn2 (((sm_aI (sm_aI (sm_aI S_ 113 0 (i_or (64 * ((S_.2.2.1 34 (0 + c1_) (i_or he_ ip_).toNat) / 65536)) ((S_.2.2.1 47 (0 + dd_) (i_or te_ ip_).toNat) / 65536)).toNat pr_) 114 0 (i_or (64 * ((S_.2.2.1 34 (0 + c1_) (i_or he_ ip_).toNat) / 65536)) ((S_.2.2.1 47 (0 + dd_) (i_or te_ ip_).toNat) / 65536)).toNat ip_) 115 0 tl_.toNat (i_or (64 * ((S_.2.2.1 34 (0 + c1_) (i_or he_ ip_).toNat) / 65536)) ((S_.2.2.1 47 (0 + dd_) (i_or te_ ip_).toNat) / 65536)))).2.2.1 113 0)) (j := NN_.toNat) (fun y9_ => absurd (pn2_1.mp y9_) cx9_) (pn2_1.mpr (by rw [r2_, if_pos rfl]; omega)) (fun k9_ hk9_ => by unfold pn2; rw [r2_, if_neg hk9_]) (n := 4096) (by omega)
              rw [u9_]
              push_cast
              omega
            · obtain ⟨NN_, hNN_⟩ : ∃ NN_, NN_ = i_or (64 * (S_.2.2.1 34 (0 + c1_) (i_or he_ ip_).toNat / 65536)) (S_.2.2.1 47 (0 + dd_) (i_or te_ ip_).toNat / 65536) := ⟨_, rfl⟩
              have cx9_ : ¬ (S_.2.2.1 113 0 NN_.toNat ≠ -2) := by (rw [hNN_]; exact cx10_)
              have r1_ : ∀ j9_, ((sm_aI (sm_aI (sm_aI S_ 113 0 (i_or (64 * ((S_.2.2.1 34 (0 + c1_) (i_or he_ ip_).toNat) / 65536)) ((S_.2.2.1 47 (0 + dd_) (i_or te_ ip_).toNat) / 65536)).toNat pr_) 114 0 (i_or (64 * ((S_.2.2.1 34 (0 + c1_) (i_or he_ ip_).toNat) / 65536)) ((S_.2.2.1 47 (0 + dd_) (i_or te_ ip_).toNat) / 65536)).toNat ip_) 115 0 tl_.toNat (i_or (64 * ((S_.2.2.1 34 (0 + c1_) (i_or he_ ip_).toNat) / 65536)) ((S_.2.2.1 47 (0 + dd_) (i_or te_ ip_).toNat) / 65536)))).2.2.1 115 0 j9_ = if j9_ = tl_.toNat then NN_ else S_.2.2.1 115 0 j9_ := fun j9_ => by rw [rd_eq, rd_ne (by decide), rd_ne (by decide), hNN_]
              have r2_ : ∀ j9_, ((sm_aI (sm_aI (sm_aI S_ 113 0 (i_or (64 * ((S_.2.2.1 34 (0 + c1_) (i_or he_ ip_).toNat) / 65536)) ((S_.2.2.1 47 (0 + dd_) (i_or te_ ip_).toNat) / 65536)).toNat pr_) 114 0 (i_or (64 * ((S_.2.2.1 34 (0 + c1_) (i_or he_ ip_).toNat) / 65536)) ((S_.2.2.1 47 (0 + dd_) (i_or te_ ip_).toNat) / 65536)).toNat ip_) 115 0 tl_.toNat (i_or (64 * ((S_.2.2.1 34 (0 + c1_) (i_or he_ ip_).toNat) / 65536)) ((S_.2.2.1 47 (0 + dd_) (i_or te_ ip_).toNat) / 65536)))).2.2.1 113 0 j9_ = if j9_ = NN_.toNat then pr_ else S_.2.2.1 113 0 j9_ := fun j9_ => by rw [rd_ne (by decide), rd_ne (by decide), rd_eq, hNN_]
              have ax9_ : S_.2.2.1 34 (0 + c1_) (i_or he_ ip_).toNat / 65536 = nx6 (S0_.2.2.1 34 (0 + c1_)) ((pr_ / 64).toNat * 2 ^ (S0_.1 3 dd_ 1).toNat + ip_.toNat) := by (unfold nx6; rw [← n1p, ← fT_])
              have ay9_ : S_.2.2.1 47 (0 + dd_) (i_or te_ ip_).toNat / 65536 = nx6 (S0_.2.2.1 47 (0 + dd_)) ((pr_ % 64).toNat * 2 ^ (S0_.1 3 dd_ 1).toNat + ip_.toNat) := by (unfold nx6; rw [← n2p, ← f47_])
              rw [show (ip_ + 1).toNat = ip_.toNat + 1 by omega]
              rw [o9_] at hNN_
              refine ccq_a hcq_ (by omega) (by omega) hpq_.1 iz9_ nn9_ ax9_ ay9_ n1_ n2_ ?_ (fun j9_ => ?_) (fun j9_ => ?_)
              · rw [← hNN_]; exact Decidable.of_not_not cx9_
              · rw [← hNN_]; exact r2_ j9_
              · rw [← hNN_]; exact r1_ j9_
            · obtain ⟨NN_, hNN_⟩ : ∃ NN_, NN_ = i_or (64 * (S_.2.2.1 34 (0 + c1_) (i_or he_ ip_).toNat / 65536)) (S_.2.2.1 47 (0 + dd_) (i_or te_ ip_).toNat / 65536) := ⟨_, rfl⟩
              have cx9_ : ¬ (S_.2.2.1 113 0 NN_.toNat ≠ -2) := by (rw [hNN_]; exact cx10_)
              have r1_ : ∀ j9_, ((sm_aI (sm_aI (sm_aI S_ 113 0 (i_or (64 * ((S_.2.2.1 34 (0 + c1_) (i_or he_ ip_).toNat) / 65536)) ((S_.2.2.1 47 (0 + dd_) (i_or te_ ip_).toNat) / 65536)).toNat pr_) 114 0 (i_or (64 * ((S_.2.2.1 34 (0 + c1_) (i_or he_ ip_).toNat) / 65536)) ((S_.2.2.1 47 (0 + dd_) (i_or te_ ip_).toNat) / 65536)).toNat ip_) 115 0 tl_.toNat (i_or (64 * ((S_.2.2.1 34 (0 + c1_) (i_or he_ ip_).toNat) / 65536)) ((S_.2.2.1 47 (0 + dd_) (i_or te_ ip_).toNat) / 65536)))).2.2.1 115 0 j9_ = if j9_ = tl_.toNat then NN_ else S_.2.2.1 115 0 j9_ := fun j9_ => by rw [rd_eq, rd_ne (by decide), rd_ne (by decide), hNN_]
              have r2_ : ∀ j9_, ((sm_aI (sm_aI (sm_aI S_ 113 0 (i_or (64 * ((S_.2.2.1 34 (0 + c1_) (i_or he_ ip_).toNat) / 65536)) ((S_.2.2.1 47 (0 + dd_) (i_or te_ ip_).toNat) / 65536)).toNat pr_) 114 0 (i_or (64 * ((S_.2.2.1 34 (0 + c1_) (i_or he_ ip_).toNat) / 65536)) ((S_.2.2.1 47 (0 + dd_) (i_or te_ ip_).toNat) / 65536)).toNat ip_) 115 0 tl_.toNat (i_or (64 * ((S_.2.2.1 34 (0 + c1_) (i_or he_ ip_).toNat) / 65536)) ((S_.2.2.1 47 (0 + dd_) (i_or te_ ip_).toNat) / 65536)))).2.2.1 113 0 j9_ = if j9_ = NN_.toNat then pr_ else S_.2.2.1 113 0 j9_ := fun j9_ => by rw [rd_ne (by decide), rd_ne (by decide), rd_eq, hNN_]
              refine ⟨?_, by omega⟩
              rw [r1_, if_neg (by omega)]
              exact hpq_.1
            · (have z9_ := pw_nn (k_ := (S0_.1 3 dd_ 1).toNat); omega)
            · omega
            · exact hh_
            · obtain ⟨NN_, hNN_⟩ : ∃ NN_, NN_ = i_or (64 * (S_.2.2.1 34 (0 + c1_) (i_or he_ ip_).toNat / 65536)) (S_.2.2.1 47 (0 + dd_) (i_or te_ ip_).toNat / 65536) := ⟨_, rfl⟩
              have cx9_ : ¬ (S_.2.2.1 113 0 NN_.toNat ≠ -2) := by (rw [hNN_]; exact cx10_)
              have r1_ : ∀ j9_, ((sm_aI (sm_aI (sm_aI S_ 113 0 (i_or (64 * ((S_.2.2.1 34 (0 + c1_) (i_or he_ ip_).toNat) / 65536)) ((S_.2.2.1 47 (0 + dd_) (i_or te_ ip_).toNat) / 65536)).toNat pr_) 114 0 (i_or (64 * ((S_.2.2.1 34 (0 + c1_) (i_or he_ ip_).toNat) / 65536)) ((S_.2.2.1 47 (0 + dd_) (i_or te_ ip_).toNat) / 65536)).toNat ip_) 115 0 tl_.toNat (i_or (64 * ((S_.2.2.1 34 (0 + c1_) (i_or he_ ip_).toNat) / 65536)) ((S_.2.2.1 47 (0 + dd_) (i_or te_ ip_).toNat) / 65536)))).2.2.1 115 0 j9_ = if j9_ = tl_.toNat then NN_ else S_.2.2.1 115 0 j9_ := fun j9_ => by rw [rd_eq, rd_ne (by decide), rd_ne (by decide), hNN_]
              have r2_ : ∀ j9_, ((sm_aI (sm_aI (sm_aI S_ 113 0 (i_or (64 * ((S_.2.2.1 34 (0 + c1_) (i_or he_ ip_).toNat) / 65536)) ((S_.2.2.1 47 (0 + dd_) (i_or te_ ip_).toNat) / 65536)).toNat pr_) 114 0 (i_or (64 * ((S_.2.2.1 34 (0 + c1_) (i_or he_ ip_).toNat) / 65536)) ((S_.2.2.1 47 (0 + dd_) (i_or te_ ip_).toNat) / 65536)).toNat ip_) 115 0 tl_.toNat (i_or (64 * ((S_.2.2.1 34 (0 + c1_) (i_or he_ ip_).toNat) / 65536)) ((S_.2.2.1 47 (0 + dd_) (i_or te_ ip_).toNat) / 65536)))).2.2.1 113 0 j9_ = if j9_ = NN_.toNat then pr_ else S_.2.2.1 113 0 j9_ := fun j9_ => by rw [rd_ne (by decide), rd_ne (by decide), rd_eq, hNN_]
              rw [r2_]
              refine ⟨?_, hz_.2⟩
              split
              · omega
              · exact hz_.1
            · omega
        · have cx8_ : ¬ ((i_and (i_xor (S_.2.2.1 34 (0 + c1_) (i_or he_ ip_).toNat) (S_.2.2.1 47 (0 + dd_) (i_or te_ ip_).toNat)) mk_) = 0) := of_decide_eq_false cx8_
          have nz9_ : cmD (S0_.2.2.1 34 (0 + c1_)) (S0_.2.2.1 47 (0 + dd_)) mk_ ((pr_ / 64).toNat * 2 ^ (S0_.1 3 dd_ 1).toNat + ip_.toNat) ((pr_ % 64).toNat * 2 ^ (S0_.1 3 dd_ 1).toNat + ip_.toNat) := fun z9_ => cx8_ (by (rw [n1p, n2p, fT_, f47_]; exact z9_))
          obtain ⟨dp9_, ch9_, dl9_, sp9_⟩ := ccq_d hcq_ (by omega) (by omega) (by omega) hpq_.1 iz9_ nz9_
          refine sm_T_go 3 (c1 := (146, [some (.inr (.inr (some (12, 0)))), some (.inr (.inr (some (34, (0 + c1_))))), some (.inl bg_), some (.inr (.inr (some (3, dd_)))), some (.inl mk_), some (.inl ip9_), none, some (.inl tl_), some (.inl hd9_), some (.inl pr_), some (.inl he_), some (.inl te_), some (.inl ip_), some (.inl (S_.2.2.1 34 (0 + c1_) (i_or he_ ip_).toNat)), some (.inl (S_.2.2.1 47 (0 + dd_) (i_or te_ ip_).toNat)), none], [.inl ip_, .inl pr_, .inr (.inr (some (12, 0)))], S_)) rfl ?_
          refine sm_T_cal (d1 := 0) (Q1 := vq_277w pr_ ip_ dp9_ S_) rfl rfl (by decide) (vc_277w pr_ ip_ dp9_ S_ hI_ (by exact ⟨ch9_, dl9_⟩) (by exact hp_) (by omega) (by omega) (by exact hz_.1)) (fun u_ Sx17_ px20_ => ?_)
          obtain ⟨rfl, hIx18_, hFx19_, px20_⟩ := px20_
          have hFx21_ : ai_fr (sx_W vw_276cw) S0_ Sx17_ := ai_fr_tr hF_ (fr_le hFx19_ rfl)
          have w146_ := px20_
          have bx22_ : 0 ≤ Sx17_.1 12 0 16 ∧ Sx17_.1 12 0 16 ≤ 4096 := hIx18_.1 12 0 16 rfl
          refine sm_T_go 2 (c1 := (153, [some (.inr (.inr (some (12, 0)))), some (.inr (.inr (some (34, (0 + c1_))))), some (.inl bg_), some (.inr (.inr (some (3, dd_)))), some (.inl mk_), some (.inl ip9_), none, some (.inl tl_), some (.inl hd9_), some (.inl pr_), some (.inl he_), some (.inl te_), some (.inl ip_), some (.inl (S_.2.2.1 34 (0 + c1_) (i_or he_ ip_).toNat)), some (.inl (S_.2.2.1 47 (0 + dd_) (i_or te_ ip_).toNat)), none], [.inl (Sx17_.1 12 0 16)], Sx17_)) rfl ?_
          refine sm_T_ri rfl ⟨_, _, rfl, _, rfl, hIx18_, hFx21_, ?_⟩
          first | (rw [w146_]; exact sp9_) | exact ccq_e hcq_ (by omega)
set_option maxHeartbeats 3000000 in
set_option maxRecDepth 20000 in
theorem vc_276cw {sc_ : Nat × (Nat → Int)} (bg_ : Int) (mk_ : Int) (c1_ : Nat) (dd_ : Nat) (R1_ : Nat) (S0_ : sm_S) (hI_ : gi S0_) (hd_ : dOk dd_ S0_) (hb_ : 0 ≤ bg_ ∧ bg_ < 2 ^ R1_) (hr_ : R1_ ≤ 6 ∧ (R1_ : Int) + S0_.1 3 dd_ 1 ≤ 12) (ht_ : ∀ p9_ : Nat, p9_ < 4096 → 0 ≤ S0_.2.2.1 34 (0 + c1_) p9_ ∧ S0_.2.2.1 34 (0 + c1_) p9_ < 2 ^ (16 + R1_)) : sm_T (mt_P sc_) 1 276 (0, [some (.inr (.inr (some (12, 0)))), some (.inr (.inr (some (34, (0 + c1_))))), some (.inl bg_), some (.inr (.inr (some (3, dd_)))), some (.inl mk_), none, none, none, none, none, none, none, none, none, none, none], [], S0_) (fun ro9_ => ∃ u_ S1_, ro9_ = (.inl u_, S1_, 0) ∧ vq_276cw bg_ mk_ c1_ dd_ R1_ S0_ u_ S1_) := by
  have hF_ : ai_fr (sx_W vw_276cw) S0_ S0_ := ai_fr_rf
  have J9_ := dOk_b hd_
  have J9a := J9_.1
  have J9b := J9_.2.1
  have J9c := J9_.2.2.1
  have J9t := J9_.2.2.2.2
  have wa_ := pw_le (n := R1_) (m := 6) (by omega)
  have wb := pw_le (n := (S0_.1 3 dd_ 2).toNat) (m := 6) (by omega)
  have wc_ := pw_pos R1_
  have wd_ := pw_pos (S0_.1 3 dd_ 2).toNat
  have hIx1_ : gi (sm_pI S0_ 12 0 16 0) := gi_pI hI_ (show 0 ≤ 0 ∧ 0 ≤ 4096 from ⟨by omega, by omega⟩)
  have hFx2_ : ai_fr (sx_W vw_276cw) S0_ (sm_pI S0_ 12 0 16 0) := ai_fr_tr hF_ (ai_fr_pI rfl)
  have bx3_ : 0 ≤ S0_.1 3 dd_ 1 ∧ S0_.1 3 dd_ 1 ≤ 320 := hI_.1 3 dd_ 1 rfl
  refine sm_T_go 9 (c1 := (17, [some (.inr (.inr (some (12, 0)))), some (.inr (.inr (some (34, (0 + c1_))))), some (.inl bg_), some (.inr (.inr (some (3, dd_)))), some (.inl mk_), some (.inl (S0_.1 3 dd_ 1)), none, none, none, none, none, none, none, none, none, none], [.inl (-2), .inr (.inr (some (113, 0)))], sm_pI S0_ 12 0 16 0)) rfl ?_
  refine sm_T_cal (d1 := 0) (Q1 := vq_2p (-2) (sm_pI S0_ 12 0 16 0)) rfl rfl (by decide) (vc_2p (-2) (sm_pI S0_ 12 0 16 0) hIx1_ (by decide)) (fun u_ Sx4_ px7_ => ?_)
  obtain ⟨rfl, hIx5_, hFx6_, px7_⟩ := px7_
  have hFx8_ : ai_fr (sx_W vw_276cw) S0_ Sx4_ := ai_fr_tr hFx2_ (fr_le hFx6_ rfl)
  have e17_ := px7_
  have q5_ := hFx6_.1 3 dd_ 5 rfl
  have q1_ := hFx6_.1 3 dd_ 1 rfl
  simp only [rf_nt, rf_nk, ne_eq, Nat.reduceEqDiff, not_false_eq_true] at q5_ q1_
  refine sm_T_go 2 (c1 := (23, [some (.inr (.inr (some (12, 0)))), some (.inr (.inr (some (34, (0 + c1_))))), some (.inl bg_), some (.inr (.inr (some (3, dd_)))), some (.inl mk_), some (.inl (S0_.1 3 dd_ 1)), none, none, none, none, none, none, none, none, none, none], [.inl 6, .inl bg_], Sx4_)) rfl ?_
  refine sm_T_bin (w := 64 * bg_) rfl (bi_shl (k := 6) (by decide) (by omega) (by omega) (by omega)) ?_ -- pc_ 23
  have bx9_ : 0 ≤ Sx4_.1 3 dd_ 5 ∧ Sx4_.1 3 dd_ 5 ≤ 63 := hIx5_.1 3 dd_ 5 rfl
  refine sm_T_go 2 (c1 := (28, [some (.inr (.inr (some (12, 0)))), some (.inr (.inr (some (34, (0 + c1_))))), some (.inl bg_), some (.inr (.inr (some (3, dd_)))), some (.inl mk_), some (.inl (S0_.1 3 dd_ 1)), none, none, none, none, none, none, none, none, none, none], [.inl (Sx4_.1 3 dd_ 5), .inl (64 * bg_)], Sx4_)) rfl ?_
  refine sm_T_bin (w := (i_or (64 * bg_) (Sx4_.1 3 dd_ 5))) rfl rfl ?_ -- pc_ 28
  have bx10_ := or64 (a_ := bg_) (b_ := (Sx4_.1 3 dd_ 5)) (by omega) (by omega)
  refine sm_T_go 5 (c1 := (38, [some (.inr (.inr (some (12, 0)))), some (.inr (.inr (some (34, (0 + c1_))))), some (.inl bg_), some (.inr (.inr (some (3, dd_)))), some (.inl mk_), some (.inl (S0_.1 3 dd_ 1)), some (.inl (i_or (64 * bg_) (Sx4_.1 3 dd_ 5))), none, none, none, none, none, none, none, none, none], [.inl (-1), .inl (i_or (64 * bg_) (Sx4_.1 3 dd_ 5)), .inr (.inr (some (113, 0)))], Sx4_)) rfl ?_
  refine sm_T_iast (n := 4096) rfl rfl (by omega) (by omega) ?_
  have hIx11_ : gi (sm_aI Sx4_ 113 0 (i_or (64 * bg_) (Sx4_.1 3 dd_ 5)).toNat (-1)) := gi_aI hIx5_ (show (-2) ≤ (-1) ∧ (-1) ≤ 4095 from ⟨by omega, by omega⟩)
  have hFx12_ : ai_fr (sx_W vw_276cw) S0_ (sm_aI Sx4_ 113 0 (i_or (64 * bg_) (Sx4_.1 3 dd_ 5)).toNat (-1)) := ai_fr_tr hFx8_ (ai_fr_aI rfl)
  refine sm_T_go 4 (c1 := (46, [some (.inr (.inr (some (12, 0)))), some (.inr (.inr (some (34, (0 + c1_))))), some (.inl bg_), some (.inr (.inr (some (3, dd_)))), some (.inl mk_), some (.inl (S0_.1 3 dd_ 1)), some (.inl (i_or (64 * bg_) (Sx4_.1 3 dd_ 5))), none, none, none, none, none, none, none, none, none], [.inl (i_or (64 * bg_) (Sx4_.1 3 dd_ 5)), .inl 0, .inr (.inr (some (115, 0)))], sm_aI Sx4_ 113 0 (i_or (64 * bg_) (Sx4_.1 3 dd_ 5)).toNat (-1))) rfl ?_
  refine sm_T_iast (n := 4096) rfl rfl (by omega) (by omega) ?_
  have hIx13_ : gi (sm_aI (sm_aI Sx4_ 113 0 (i_or (64 * bg_) (Sx4_.1 3 dd_ 5)).toNat (-1)) 115 0 (0 : Int).toNat (i_or (64 * bg_) (Sx4_.1 3 dd_ 5))) := gi_aI hIx11_ (show 0 ≤ (i_or (64 * bg_) (Sx4_.1 3 dd_ 5)) ∧ (i_or (64 * bg_) (Sx4_.1 3 dd_ 5)) ≤ 4095 from ⟨by omega, by omega⟩)
  have hFx14_ : ai_fr (sx_W vw_276cw) S0_ (sm_aI (sm_aI Sx4_ 113 0 (i_or (64 * bg_) (Sx4_.1 3 dd_ 5)).toNat (-1)) 115 0 (0 : Int).toNat (i_or (64 * bg_) (Sx4_.1 3 dd_ 5))) := ai_fr_tr hFx12_ (ai_fr_aI rfl)
  refine sm_T_go 4 (c1 := (53, [some (.inr (.inr (some (12, 0)))), some (.inr (.inr (some (34, (0 + c1_))))), some (.inl bg_), some (.inr (.inr (some (3, dd_)))), some (.inl mk_), some (.inl (S0_.1 3 dd_ 1)), some (.inl (i_or (64 * bg_) (Sx4_.1 3 dd_ 5))), some (.inl 1), some (.inl 0), none, none, none, none, none, none, none], [], sm_aI (sm_aI Sx4_ 113 0 (i_or (64 * bg_) (Sx4_.1 3 dd_ 5)).toNat (-1)) 115 0 (0 : Int).toNat (i_or (64 * bg_) (Sx4_.1 3 dd_ 5)))) rfl ?_
  refine sm_T_wk [some (.inr (.inr (some (12, 0)))), some (.inr (.inr (some (34, (0 + c1_))))), some (.inl bg_), some (.inr (.inr (some (3, dd_)))), some (.inl mk_), some (.inl (S0_.1 3 dd_ 1)), none, some (.inl 1), some (.inl 0), none, none, none, none, none, none, none] (by exact ⟨rfl, rfl, rfl, rfl, rfl, rfl, rfl, rfl, trivial⟩) ?_
  refine (vl_276cw bg_ mk_ c1_ dd_ R1_ S0_ hd_ hb_ hr_ ht_ _).1 (S0_.1 3 dd_ 1) 1 0 (sm_aI (sm_aI Sx4_ 113 0 (i_or (64 * bg_) (Sx4_.1 3 dd_ 5)).toNat (-1)) 115 0 (0 : Int).toNat (i_or (64 * bg_) (Sx4_.1 3 dd_ 5))) hIx13_ hFx14_ ⟨?_, ?_, ?_, ?_, ?_, trivial⟩ (Nat.lt_succ_self _)
  · obtain ⟨FF_, hFF_⟩ : ∃ FF_, FF_ = i_or (64 * bg_) (Sx4_.1 3 dd_ 5) := ⟨_, rfl⟩
    have r1_ : ((sm_aI (sm_aI Sx4_ 113 0 (i_or (64 * bg_) (Sx4_.1 3 dd_ 5)).toNat (-1)) 115 0 (0 : Int).toNat (i_or (64 * bg_) (Sx4_.1 3 dd_ 5)))).2.2.1 115 0 0 = FF_ := by (rw [rd_eq, if_pos (by decide)]; exact hFF_.symm)
    have r2_ : ∀ j9_, ((sm_aI (sm_aI Sx4_ 113 0 (i_or (64 * bg_) (Sx4_.1 3 dd_ 5)).toNat (-1)) 115 0 (0 : Int).toNat (i_or (64 * bg_) (Sx4_.1 3 dd_ 5)))).2.2.1 113 0 j9_ = if j9_ = FF_.toNat then (-1) else Sx4_.2.2.1 113 0 j9_ := fun j9_ => by rw [rd_ne (by decide), rd_eq, hFF_]
    intro j9_ hj9_ w9_
    rw [r2_] at w9_ ⊢
    left
    by_cases z9_ : j9_ = FF_.toNat
    · rw [if_pos z9_]
    · rw [if_neg z9_, e17_ j9_ hj9_] at w9_
      exact absurd rfl w9_
  · obtain ⟨FF_, hFF_⟩ : ∃ FF_, FF_ = i_or (64 * bg_) (Sx4_.1 3 dd_ 5) := ⟨_, rfl⟩
    have r1_ : ((sm_aI (sm_aI Sx4_ 113 0 (i_or (64 * bg_) (Sx4_.1 3 dd_ 5)).toNat (-1)) 115 0 (0 : Int).toNat (i_or (64 * bg_) (Sx4_.1 3 dd_ 5)))).2.2.1 115 0 0 = FF_ := by (rw [rd_eq, if_pos (by decide)]; exact hFF_.symm)
    have r2_ : ∀ j9_, ((sm_aI (sm_aI Sx4_ 113 0 (i_or (64 * bg_) (Sx4_.1 3 dd_ 5)).toNat (-1)) 115 0 (0 : Int).toNat (i_or (64 * bg_) (Sx4_.1 3 dd_ 5)))).2.2.1 113 0 j9_ = if j9_ = FF_.toNat then (-1) else Sx4_.2.2.1 113 0 j9_ := fun j9_ => by rw [rd_ne (by decide), rd_eq, hFF_]
    intro j9_ hj9_
    have z9_ : j9_ = 0 := by omega
    rw [z9_, r1_, r2_, if_pos rfl]
    exact ⟨by decide, by omega, by omega⟩
  · obtain ⟨FF_, hFF_⟩ : ∃ FF_, FF_ = i_or (64 * bg_) (Sx4_.1 3 dd_ 5) := ⟨_, rfl⟩
    have r1_ : ((sm_aI (sm_aI Sx4_ 113 0 (i_or (64 * bg_) (Sx4_.1 3 dd_ 5)).toNat (-1)) 115 0 (0 : Int).toNat (i_or (64 * bg_) (Sx4_.1 3 dd_ 5)))).2.2.1 115 0 0 = FF_ := by (rw [rd_eq, if_pos (by decide)]; exact hFF_.symm)
    have r2_ : ∀ j9_, ((sm_aI (sm_aI Sx4_ 113 0 (i_or (64 * bg_) (Sx4_.1 3 dd_ 5)).toNat (-1)) 115 0 (0 : Int).toNat (i_or (64 * bg_) (Sx4_.1 3 dd_ 5)))).2.2.1 113 0 j9_ = if j9_ = FF_.toNat then (-1) else Sx4_.2.2.1 113 0 j9_ := fun j9_ => by rw [rd_ne (by decide), rd_eq, hFF_]
    rw [cn1_cg (g := fun k9_ : Nat => if k9_ = FF_.toNat then (1 : Int) else 0) (fun k9_ hk9_ => ?_), cn1_one (j := FF_.toNat) (fun k9_ => ?_) 4096, if_pos (by omega)]
    · rfl
    · constructor
      · intro y9_; by_cases y8_ : k9_ = FF_.toNat; exact y8_; (rw [if_neg y8_] at y9_; exact absurd y9_ (by decide))
      · intro y9_; exact if_pos y9_
    · unfold pn2
      rw [r2_]
      by_cases y9_ : k9_ = FF_.toNat
      · rw [if_pos y9_, if_pos y9_]; rfl
      · rw [if_neg y9_, if_neg y9_, e17_ k9_ hk9_]; rfl
  · obtain ⟨FF_, hFF_⟩ : ∃ FF_, FF_ = i_or (64 * bg_) (Sx4_.1 3 dd_ 5) := ⟨_, rfl⟩
    have r1_ : ((sm_aI (sm_aI Sx4_ 113 0 (i_or (64 * bg_) (Sx4_.1 3 dd_ 5)).toNat (-1)) 115 0 (0 : Int).toNat (i_or (64 * bg_) (Sx4_.1 3 dd_ 5)))).2.2.1 115 0 0 = FF_ := by (rw [rd_eq, if_pos (by decide)]; exact hFF_.symm)
    have r2_ : ∀ j9_, ((sm_aI (sm_aI Sx4_ 113 0 (i_or (64 * bg_) (Sx4_.1 3 dd_ 5)).toNat (-1)) 115 0 (0 : Int).toNat (i_or (64 * bg_) (Sx4_.1 3 dd_ 5)))).2.2.1 113 0 j9_ = if j9_ = FF_.toNat then (-1) else Sx4_.2.2.1 113 0 j9_ := fun j9_ => by rw [rd_ne (by decide), rd_eq, hFF_]
    refine ccq_0 (f_ := FF_) ⟨pw_tn hb_.1 hb_.2, pw_tn (by omega) (by omega)⟩ ⟨by omega, by omega⟩ (by omega) (fun j9_ hj9_ => ?_) r1_
    rw [r2_]
    by_cases z9_ : j9_ = FF_.toNat
    · rw [if_pos z9_, if_pos z9_]
    · rw [if_neg z9_, if_neg z9_]; exact e17_ j9_ hj9_
  · omega
