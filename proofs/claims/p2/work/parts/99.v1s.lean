/-! the class: signs; written by wip/p55/gen/vg -/
/-! Text.readSign -/
def vw_195 : sx_Wl := ([(10, 2), (10, 8)], [], [])
def vq_195 (c_ : Int) (b_ : Nat → Int) (n_ : Nat) (p_ : Nat) (S0_ : sm_S) (u_ : Option sm_V) (S1_ : sm_S) : Prop := ∃ v_ : Int, u_ = some (.inl v_) ∧ gi S1_ ∧ ai_fr (sx_W vw_195) S0_ S1_ ∧ ((v_ = if lx_sk b_ n_ p_ = 0 then 0 else 1) ∧ (S1_.1 10 0 8) = (lx_sn b_ n_ p_ : Nat) ∧ (lx_sk b_ n_ p_ ≠ 0 → (S1_.1 10 0 2) = lx_sk b_ n_ p_))
theorem vc_195 {sc_ : Nat × (Nat → Int)} (c_ : Int) (b_ : Nat → Int) (n_ : Nat) (p_ : Nat) (S0_ : sm_S) (hI_ : gi S0_) (hb_ : S0_.2.2.1 98 0 = b_) (hn_ : (S0_.1 10 0 1) = (n_ : Int)) (hn1_ : n_ ≤ 1280) (hp_ : (S0_.1 10 0 8) = (p_ : Int)) (hpn_ : p_ < n_) (hc_ : c_ = b_ p_) : sm_T (mt_P sc_) 0 195 (0, [some (.inr (.inr (some (10, 0)))), some (.inl c_), none], [], S0_) (fun r_ => ∃ u_ S1_, r_ = (.inl u_, S1_, 0) ∧ vq_195 c_ b_ n_ p_ S0_ u_ S1_) := by
  have hF_ : ai_fr (sx_W vw_195) S0_ S0_ := ai_fr_rf
  have eb_ : S0_.2.2.1 98 0 (S0_.1 10 0 8 + 1).toNat = b_ (p_ + 1) := by rw [hb_]; congr 1; omega
  have hc1_ : -128 ≤ c_ ∧ c_ ≤ 127 := by rw [hc_, ← hb_]; exact hI_.2 98 0 p_
  have b1_ : 0 ≤ S0_.1 10 0 8 ∧ S0_.1 10 0 8 ≤ 1280 := hI_.1 10 0 8 rfl
  refine sm_T_go 3 (c1 := (5, [some (.inr (.inr (some (10, 0)))), some (.inl c_), none], [.inl 1, .inl (S0_.1 10 0 8)], S0_)) rfl ?_
  refine sm_T_bin (w := (S0_.1 10 0 8) + 1) rfl (bi_add (by omega) (by omega) (by omega)) ?_
  have b2_ : 0 ≤ S0_.1 10 0 1 ∧ S0_.1 10 0 1 ≤ 1280 := hI_.1 10 0 1 rfl
  refine sm_T_go 2 (c1 := (10, [some (.inr (.inr (some (10, 0)))), some (.inl c_), none], [.inl (S0_.1 10 0 1), .inl ((S0_.1 10 0 8) + 1)], S0_)) rfl ?_
  refine sm_T_br (a := 3) (z := 17) rfl (fun c3_ => ?_) (fun c3_ => ?_)
  · have c3_ : (S0_.1 10 0 1) ≤ (S0_.1 10 0 8) + 1 := of_decide_eq_true c3_
    refine sm_T_go 4 (c1 := (32, [some (.inr (.inr (some (10, 0)))), some (.inl c_), some (.inl 0)], [.inl 60, .inl c_], S0_)) rfl ?_
    refine sm_T_br (a := 1) (z := 28) rfl (fun c4_ => ?_) (fun c4_ => ?_)
    · have c4_ : c_ ≠ 60 := of_decide_eq_true c4_
      refine sm_T_go 2 (c1 := (63, [some (.inr (.inr (some (10, 0)))), some (.inl c_), some (.inl 0)], [.inl 61, .inl c_], S0_)) rfl ?_
      refine sm_T_br (a := 1) (z := 28) rfl (fun c5_ => ?_) (fun c5_ => ?_)
      · have c5_ : c_ ≠ 61 := of_decide_eq_true c5_
        have hI6_ : gi (sm_pI S0_ 10 0 2 c_) := gi_pI hI_ (show (-128) ≤ c_ ∧ c_ ≤ 257 from ⟨by omega, by omega⟩)
        have hF7_ : ai_fr (sx_W vw_195) S0_ (sm_pI S0_ 10 0 2 c_) := ai_fr_tr hF_ (ai_fr_pI rfl)
        refine sm_T_go 7 (c1 := (102, [some (.inr (.inr (some (10, 0)))), some (.inl c_), some (.inl 0)], [.inl 1, .inl (S0_.1 10 0 8), .inr (.inr (some (10, 0)))], sm_pI S0_ 10 0 2 c_)) rfl ?_
        refine sm_T_bin (w := (S0_.1 10 0 8) + 1) rfl (bi_add (by omega) (by omega) (by omega)) ?_
        have hI8_ : gi (sm_pI (sm_pI S0_ 10 0 2 c_) 10 0 8 ((S0_.1 10 0 8) + 1)) := gi_pI hI6_ (show 0 ≤ (S0_.1 10 0 8) + 1 ∧ (S0_.1 10 0 8) + 1 ≤ 1280 from ⟨by omega, by omega⟩)
        have hF9_ : ai_fr (sx_W vw_195) S0_ (sm_pI (sm_pI S0_ 10 0 2 c_) 10 0 8 ((S0_.1 10 0 8) + 1)) := ai_fr_tr hF7_ (ai_fr_pI rfl)
        refine sm_T_go 2 (c1 := (107, [some (.inr (.inr (some (10, 0)))), some (.inl c_), some (.inl 0)], [.inl c_], sm_pI (sm_pI S0_ 10 0 2 c_) 10 0 8 ((S0_.1 10 0 8) + 1))) rfl ?_
        refine sm_T_b0 (a := 5) (z := 17) rfl (fun c10_ => ?_) (fun c10_ => ?_)
        · have c10_ : c_ ≤ 0 := of_decide_eq_true c10_
          refine sm_T_go 1 (c1 := (125, [some (.inr (.inr (some (10, 0)))), some (.inl c_), some (.inl 0)], [.inl 0], sm_pI (sm_pI S0_ 10 0 2 c_) 10 0 8 ((S0_.1 10 0 8) + 1))) rfl ?_
          refine sm_T_rz rfl (by omega) ⟨_, _, rfl, _, rfl, hI8_, hF9_, ?_⟩
          have ha_ : ¬ (b_ p_ = 60 ∧ p_ + 1 < n_ ∧ b_ (p_ + 1) = 45) := by rw [← hc_]; omega
          have hs_ : ¬ (b_ p_ = 61 ∧ p_ + 1 < n_ ∧ b_ (p_ + 1) = 61) := by rw [← hc_]; omega
          unfold lx_sk lx_sn
          rw [if_neg ha_, if_neg hs_, if_neg ha_, if_neg hs_, ← hc_]
          (try simp only [rd_eq, rd_ne, rf_eq, rf_nk, rf_nt, rd_fa, rd_af, rd_fl, rd_al, rd_lf, rd_la, rd_leq, rd_lne, rd_fr, rd_ar, ne_eq, Nat.reduceEqDiff, not_false_eq_true])
          by_cases g_ : lx_sg c_
          · rw [if_pos g_]
            have hc0_ : c_ ≠ 0 := by omega
            rw [if_neg hc0_]; refine ⟨by omega, by omega, fun _ => rfl⟩
          · rw [if_neg g_, if_pos rfl]; refine ⟨by omega, by omega, fun h_ => absurd rfl h_⟩
        · have c10_ : ¬ (c_ ≤ 0) := of_decide_eq_false c10_
          have ec_ := i_i2c_s (x := c_) (by omega) (by omega)
          have es_ : lx_sg c_ ↔ 0 ≤ mt_ix mt_sgn (i_i2c c_) 0 := by rw [ec_]; exact lx_sg_ix
          refine sm_T_nt (u := some (.inr (.inr (some (301, 0))))) (S1 := sm_pI (sm_pI S0_ 10 0 2 c_) 10 0 8 ((S0_.1 10 0 8) + 1)) rfl rfl rfl ?_
          refine sm_T_go 2 (c1 := (114, [some (.inr (.inr (some (10, 0)))), some (.inl c_), some (.inl 0)], [.inl (i_i2c c_), .inr (.inr (some (301, 0)))], sm_pI (sm_pI S0_ 10 0 2 c_) 10 0 8 ((S0_.1 10 0 8) + 1))) rfl ?_
          refine sm_T_nt (u := some (.inl (mt_ix mt_sgn (i_i2c c_) 0))) (S1 := sm_pI (sm_pI S0_ 10 0 2 c_) 10 0 8 ((S0_.1 10 0 8) + 1)) rfl rfl (nt_sg (sc := sc_) (by omega) (by omega)) ?_
          refine sm_T_b0 (a := 2) (z := 7) rfl (fun c11_ => ?_) (fun c11_ => ?_)
          · have c11_ : (mt_ix mt_sgn (i_i2c c_) 0) < 0 := of_decide_eq_true c11_
            refine sm_T_go 1 (c1 := (125, [some (.inr (.inr (some (10, 0)))), some (.inl c_), some (.inl 0)], [.inl 0], sm_pI (sm_pI S0_ 10 0 2 c_) 10 0 8 ((S0_.1 10 0 8) + 1))) rfl ?_
            refine sm_T_rz rfl (by omega) ⟨_, _, rfl, _, rfl, hI8_, hF9_, ?_⟩
            have ha_ : ¬ (b_ p_ = 60 ∧ p_ + 1 < n_ ∧ b_ (p_ + 1) = 45) := by rw [← hc_]; omega
            have hs_ : ¬ (b_ p_ = 61 ∧ p_ + 1 < n_ ∧ b_ (p_ + 1) = 61) := by rw [← hc_]; omega
            unfold lx_sk lx_sn
            rw [if_neg ha_, if_neg hs_, if_neg ha_, if_neg hs_, ← hc_]
            (try simp only [rd_eq, rd_ne, rf_eq, rf_nk, rf_nt, rd_fa, rd_af, rd_fl, rd_al, rd_lf, rd_la, rd_leq, rd_lne, rd_fr, rd_ar, ne_eq, Nat.reduceEqDiff, not_false_eq_true])
            by_cases g_ : lx_sg c_
            · rw [if_pos g_]
              have hc0_ : c_ ≠ 0 := by omega
              rw [if_neg hc0_]; refine ⟨by omega, by omega, fun _ => rfl⟩
            · rw [if_neg g_, if_pos rfl]; refine ⟨by omega, by omega, fun h_ => absurd rfl h_⟩
          · have c11_ : ¬ ((mt_ix mt_sgn (i_i2c c_) 0) < 0) := of_decide_eq_false c11_
            refine sm_T_go 2 (c1 := (125, [some (.inr (.inr (some (10, 0)))), some (.inl c_), some (.inl 0)], [.inl 1], sm_pI (sm_pI S0_ 10 0 2 c_) 10 0 8 ((S0_.1 10 0 8) + 1))) rfl ?_
            refine sm_T_rz rfl (by omega) ⟨_, _, rfl, _, rfl, hI8_, hF9_, ?_⟩
            have ha_ : ¬ (b_ p_ = 60 ∧ p_ + 1 < n_ ∧ b_ (p_ + 1) = 45) := by rw [← hc_]; omega
            have hs_ : ¬ (b_ p_ = 61 ∧ p_ + 1 < n_ ∧ b_ (p_ + 1) = 61) := by rw [← hc_]; omega
            unfold lx_sk lx_sn
            rw [if_neg ha_, if_neg hs_, if_neg ha_, if_neg hs_, ← hc_]
            (try simp only [rd_eq, rd_ne, rf_eq, rf_nk, rf_nt, rd_fa, rd_af, rd_fl, rd_al, rd_lf, rd_la, rd_leq, rd_lne, rd_fr, rd_ar, ne_eq, Nat.reduceEqDiff, not_false_eq_true])
            by_cases g_ : lx_sg c_
            · rw [if_pos g_]
              have hc0_ : c_ ≠ 0 := by omega
              rw [if_neg hc0_]; refine ⟨by omega, by omega, fun _ => rfl⟩
            · rw [if_neg g_, if_pos rfl]; refine ⟨by omega, by omega, fun h_ => absurd rfl h_⟩
      · have c5_ : ¬ (c_ ≠ 61) := of_decide_eq_false c5_
        have hI12_ : gi (sm_pI S0_ 10 0 2 c_) := gi_pI hI_ (show (-128) ≤ c_ ∧ c_ ≤ 257 from ⟨by omega, by omega⟩)
        have hF13_ : ai_fr (sx_W vw_195) S0_ (sm_pI S0_ 10 0 2 c_) := ai_fr_tr hF_ (ai_fr_pI rfl)
        refine sm_T_go 10 (c1 := (102, [some (.inr (.inr (some (10, 0)))), some (.inl c_), some (.inl 0)], [.inl 1, .inl (S0_.1 10 0 8), .inr (.inr (some (10, 0)))], sm_pI S0_ 10 0 2 c_)) rfl ?_
        refine sm_T_bin (w := (S0_.1 10 0 8) + 1) rfl (bi_add (by omega) (by omega) (by omega)) ?_
        have hI14_ : gi (sm_pI (sm_pI S0_ 10 0 2 c_) 10 0 8 ((S0_.1 10 0 8) + 1)) := gi_pI hI12_ (show 0 ≤ (S0_.1 10 0 8) + 1 ∧ (S0_.1 10 0 8) + 1 ≤ 1280 from ⟨by omega, by omega⟩)
        have hF15_ : ai_fr (sx_W vw_195) S0_ (sm_pI (sm_pI S0_ 10 0 2 c_) 10 0 8 ((S0_.1 10 0 8) + 1)) := ai_fr_tr hF13_ (ai_fr_pI rfl)
        refine sm_T_go 2 (c1 := (107, [some (.inr (.inr (some (10, 0)))), some (.inl c_), some (.inl 0)], [.inl c_], sm_pI (sm_pI S0_ 10 0 2 c_) 10 0 8 ((S0_.1 10 0 8) + 1))) rfl ?_
        refine sm_T_b0 (a := 5) (z := 17) rfl (fun c16_ => ?_) (fun c16_ => ?_)
        · have c16_ : c_ ≤ 0 := of_decide_eq_true c16_
          exfalso; omega
        · have c16_ : ¬ (c_ ≤ 0) := of_decide_eq_false c16_
          have ec_ := i_i2c_s (x := c_) (by omega) (by omega)
          have es_ : lx_sg c_ ↔ 0 ≤ mt_ix mt_sgn (i_i2c c_) 0 := by rw [ec_]; exact lx_sg_ix
          refine sm_T_nt (u := some (.inr (.inr (some (301, 0))))) (S1 := sm_pI (sm_pI S0_ 10 0 2 c_) 10 0 8 ((S0_.1 10 0 8) + 1)) rfl rfl rfl ?_
          refine sm_T_go 2 (c1 := (114, [some (.inr (.inr (some (10, 0)))), some (.inl c_), some (.inl 0)], [.inl (i_i2c c_), .inr (.inr (some (301, 0)))], sm_pI (sm_pI S0_ 10 0 2 c_) 10 0 8 ((S0_.1 10 0 8) + 1))) rfl ?_
          refine sm_T_nt (u := some (.inl (mt_ix mt_sgn (i_i2c c_) 0))) (S1 := sm_pI (sm_pI S0_ 10 0 2 c_) 10 0 8 ((S0_.1 10 0 8) + 1)) rfl rfl (nt_sg (sc := sc_) (by omega) (by omega)) ?_
          refine sm_T_b0 (a := 2) (z := 7) rfl (fun c17_ => ?_) (fun c17_ => ?_)
          · have c17_ : (mt_ix mt_sgn (i_i2c c_) 0) < 0 := of_decide_eq_true c17_
            refine sm_T_go 1 (c1 := (125, [some (.inr (.inr (some (10, 0)))), some (.inl c_), some (.inl 0)], [.inl 0], sm_pI (sm_pI S0_ 10 0 2 c_) 10 0 8 ((S0_.1 10 0 8) + 1))) rfl ?_
            refine sm_T_rz rfl (by omega) ⟨_, _, rfl, _, rfl, hI14_, hF15_, ?_⟩
            have ha_ : ¬ (b_ p_ = 60 ∧ p_ + 1 < n_ ∧ b_ (p_ + 1) = 45) := by rw [← hc_]; omega
            have hs_ : ¬ (b_ p_ = 61 ∧ p_ + 1 < n_ ∧ b_ (p_ + 1) = 61) := by rw [← hc_]; omega
            unfold lx_sk lx_sn
            rw [if_neg ha_, if_neg hs_, if_neg ha_, if_neg hs_, ← hc_]
            (try simp only [rd_eq, rd_ne, rf_eq, rf_nk, rf_nt, rd_fa, rd_af, rd_fl, rd_al, rd_lf, rd_la, rd_leq, rd_lne, rd_fr, rd_ar, ne_eq, Nat.reduceEqDiff, not_false_eq_true])
            by_cases g_ : lx_sg c_
            · rw [if_pos g_]
              have hc0_ : c_ ≠ 0 := by omega
              rw [if_neg hc0_]; refine ⟨by omega, by omega, fun _ => rfl⟩
            · rw [if_neg g_, if_pos rfl]; refine ⟨by omega, by omega, fun h_ => absurd rfl h_⟩
          · have c17_ : ¬ ((mt_ix mt_sgn (i_i2c c_) 0) < 0) := of_decide_eq_false c17_
            refine sm_T_go 2 (c1 := (125, [some (.inr (.inr (some (10, 0)))), some (.inl c_), some (.inl 0)], [.inl 1], sm_pI (sm_pI S0_ 10 0 2 c_) 10 0 8 ((S0_.1 10 0 8) + 1))) rfl ?_
            refine sm_T_rz rfl (by omega) ⟨_, _, rfl, _, rfl, hI14_, hF15_, ?_⟩
            have ha_ : ¬ (b_ p_ = 60 ∧ p_ + 1 < n_ ∧ b_ (p_ + 1) = 45) := by rw [← hc_]; omega
            have hs_ : ¬ (b_ p_ = 61 ∧ p_ + 1 < n_ ∧ b_ (p_ + 1) = 61) := by rw [← hc_]; omega
            unfold lx_sk lx_sn
            rw [if_neg ha_, if_neg hs_, if_neg ha_, if_neg hs_, ← hc_]
            (try simp only [rd_eq, rd_ne, rf_eq, rf_nk, rf_nt, rd_fa, rd_af, rd_fl, rd_al, rd_lf, rd_la, rd_leq, rd_lne, rd_fr, rd_ar, ne_eq, Nat.reduceEqDiff, not_false_eq_true])
            by_cases g_ : lx_sg c_
            · rw [if_pos g_]
              have hc0_ : c_ ≠ 0 := by omega
              rw [if_neg hc0_]; refine ⟨by omega, by omega, fun _ => rfl⟩
            · rw [if_neg g_, if_pos rfl]; refine ⟨by omega, by omega, fun h_ => absurd rfl h_⟩
    · have c4_ : ¬ (c_ ≠ 60) := of_decide_eq_false c4_
      refine sm_T_go 5 (c1 := (63, [some (.inr (.inr (some (10, 0)))), some (.inl c_), some (.inl 0)], [.inl 61, .inl c_], S0_)) rfl ?_
      refine sm_T_br (a := 1) (z := 28) rfl (fun c18_ => ?_) (fun c18_ => ?_)
      · have c18_ : c_ ≠ 61 := of_decide_eq_true c18_
        have hI19_ : gi (sm_pI S0_ 10 0 2 c_) := gi_pI hI_ (show (-128) ≤ c_ ∧ c_ ≤ 257 from ⟨by omega, by omega⟩)
        have hF20_ : ai_fr (sx_W vw_195) S0_ (sm_pI S0_ 10 0 2 c_) := ai_fr_tr hF_ (ai_fr_pI rfl)
        refine sm_T_go 7 (c1 := (102, [some (.inr (.inr (some (10, 0)))), some (.inl c_), some (.inl 0)], [.inl 1, .inl (S0_.1 10 0 8), .inr (.inr (some (10, 0)))], sm_pI S0_ 10 0 2 c_)) rfl ?_
        refine sm_T_bin (w := (S0_.1 10 0 8) + 1) rfl (bi_add (by omega) (by omega) (by omega)) ?_
        have hI21_ : gi (sm_pI (sm_pI S0_ 10 0 2 c_) 10 0 8 ((S0_.1 10 0 8) + 1)) := gi_pI hI19_ (show 0 ≤ (S0_.1 10 0 8) + 1 ∧ (S0_.1 10 0 8) + 1 ≤ 1280 from ⟨by omega, by omega⟩)
        have hF22_ : ai_fr (sx_W vw_195) S0_ (sm_pI (sm_pI S0_ 10 0 2 c_) 10 0 8 ((S0_.1 10 0 8) + 1)) := ai_fr_tr hF20_ (ai_fr_pI rfl)
        refine sm_T_go 2 (c1 := (107, [some (.inr (.inr (some (10, 0)))), some (.inl c_), some (.inl 0)], [.inl c_], sm_pI (sm_pI S0_ 10 0 2 c_) 10 0 8 ((S0_.1 10 0 8) + 1))) rfl ?_
        refine sm_T_b0 (a := 5) (z := 17) rfl (fun c23_ => ?_) (fun c23_ => ?_)
        · have c23_ : c_ ≤ 0 := of_decide_eq_true c23_
          exfalso; omega
        · have c23_ : ¬ (c_ ≤ 0) := of_decide_eq_false c23_
          have ec_ := i_i2c_s (x := c_) (by omega) (by omega)
          have es_ : lx_sg c_ ↔ 0 ≤ mt_ix mt_sgn (i_i2c c_) 0 := by rw [ec_]; exact lx_sg_ix
          refine sm_T_nt (u := some (.inr (.inr (some (301, 0))))) (S1 := sm_pI (sm_pI S0_ 10 0 2 c_) 10 0 8 ((S0_.1 10 0 8) + 1)) rfl rfl rfl ?_
          refine sm_T_go 2 (c1 := (114, [some (.inr (.inr (some (10, 0)))), some (.inl c_), some (.inl 0)], [.inl (i_i2c c_), .inr (.inr (some (301, 0)))], sm_pI (sm_pI S0_ 10 0 2 c_) 10 0 8 ((S0_.1 10 0 8) + 1))) rfl ?_
          refine sm_T_nt (u := some (.inl (mt_ix mt_sgn (i_i2c c_) 0))) (S1 := sm_pI (sm_pI S0_ 10 0 2 c_) 10 0 8 ((S0_.1 10 0 8) + 1)) rfl rfl (nt_sg (sc := sc_) (by omega) (by omega)) ?_
          refine sm_T_b0 (a := 2) (z := 7) rfl (fun c24_ => ?_) (fun c24_ => ?_)
          · have c24_ : (mt_ix mt_sgn (i_i2c c_) 0) < 0 := of_decide_eq_true c24_
            refine sm_T_go 1 (c1 := (125, [some (.inr (.inr (some (10, 0)))), some (.inl c_), some (.inl 0)], [.inl 0], sm_pI (sm_pI S0_ 10 0 2 c_) 10 0 8 ((S0_.1 10 0 8) + 1))) rfl ?_
            refine sm_T_rz rfl (by omega) ⟨_, _, rfl, _, rfl, hI21_, hF22_, ?_⟩
            have ha_ : ¬ (b_ p_ = 60 ∧ p_ + 1 < n_ ∧ b_ (p_ + 1) = 45) := by rw [← hc_]; omega
            have hs_ : ¬ (b_ p_ = 61 ∧ p_ + 1 < n_ ∧ b_ (p_ + 1) = 61) := by rw [← hc_]; omega
            unfold lx_sk lx_sn
            rw [if_neg ha_, if_neg hs_, if_neg ha_, if_neg hs_, ← hc_]
            (try simp only [rd_eq, rd_ne, rf_eq, rf_nk, rf_nt, rd_fa, rd_af, rd_fl, rd_al, rd_lf, rd_la, rd_leq, rd_lne, rd_fr, rd_ar, ne_eq, Nat.reduceEqDiff, not_false_eq_true])
            by_cases g_ : lx_sg c_
            · rw [if_pos g_]
              have hc0_ : c_ ≠ 0 := by omega
              rw [if_neg hc0_]; refine ⟨by omega, by omega, fun _ => rfl⟩
            · rw [if_neg g_, if_pos rfl]; refine ⟨by omega, by omega, fun h_ => absurd rfl h_⟩
          · have c24_ : ¬ ((mt_ix mt_sgn (i_i2c c_) 0) < 0) := of_decide_eq_false c24_
            refine sm_T_go 2 (c1 := (125, [some (.inr (.inr (some (10, 0)))), some (.inl c_), some (.inl 0)], [.inl 1], sm_pI (sm_pI S0_ 10 0 2 c_) 10 0 8 ((S0_.1 10 0 8) + 1))) rfl ?_
            refine sm_T_rz rfl (by omega) ⟨_, _, rfl, _, rfl, hI21_, hF22_, ?_⟩
            have ha_ : ¬ (b_ p_ = 60 ∧ p_ + 1 < n_ ∧ b_ (p_ + 1) = 45) := by rw [← hc_]; omega
            have hs_ : ¬ (b_ p_ = 61 ∧ p_ + 1 < n_ ∧ b_ (p_ + 1) = 61) := by rw [← hc_]; omega
            unfold lx_sk lx_sn
            rw [if_neg ha_, if_neg hs_, if_neg ha_, if_neg hs_, ← hc_]
            (try simp only [rd_eq, rd_ne, rf_eq, rf_nk, rf_nt, rd_fa, rd_af, rd_fl, rd_al, rd_lf, rd_la, rd_leq, rd_lne, rd_fr, rd_ar, ne_eq, Nat.reduceEqDiff, not_false_eq_true])
            by_cases g_ : lx_sg c_
            · rw [if_pos g_]
              have hc0_ : c_ ≠ 0 := by omega
              rw [if_neg hc0_]; refine ⟨by omega, by omega, fun _ => rfl⟩
            · rw [if_neg g_, if_pos rfl]; refine ⟨by omega, by omega, fun h_ => absurd rfl h_⟩
      · have c18_ : ¬ (c_ ≠ 61) := of_decide_eq_false c18_
        exfalso; omega
  · have c3_ : ¬ ((S0_.1 10 0 1) ≤ (S0_.1 10 0 8) + 1) := of_decide_eq_false c3_
    refine sm_T_go 5 (c1 := (22, [some (.inr (.inr (some (10, 0)))), some (.inl c_), none], [.inl 1, .inl (S0_.1 10 0 8), .inr (.inr (some (98, 0)))], S0_)) rfl ?_
    refine sm_T_bin (w := (S0_.1 10 0 8) + 1) rfl (bi_add (by omega) (by omega) (by omega)) ?_
    refine sm_T_bald (n := 65536) rfl rfl (by omega) (by omega) ?_
    have b25_ : (-128) ≤ S0_.2.2.1 98 0 ((S0_.1 10 0 8) + 1).toNat ∧ S0_.2.2.1 98 0 ((S0_.1 10 0 8) + 1).toNat ≤ 127 := hI_.2 98 0 _
    refine sm_T_go 4 (c1 := (32, [some (.inr (.inr (some (10, 0)))), some (.inl c_), some (.inl (S0_.2.2.1 98 0 ((S0_.1 10 0 8) + 1).toNat))], [.inl 60, .inl c_], S0_)) rfl ?_
    refine sm_T_br (a := 1) (z := 28) rfl (fun c26_ => ?_) (fun c26_ => ?_)
    · have c26_ : c_ ≠ 60 := of_decide_eq_true c26_
      refine sm_T_go 2 (c1 := (63, [some (.inr (.inr (some (10, 0)))), some (.inl c_), some (.inl (S0_.2.2.1 98 0 ((S0_.1 10 0 8) + 1).toNat))], [.inl 61, .inl c_], S0_)) rfl ?_
      refine sm_T_br (a := 1) (z := 28) rfl (fun c27_ => ?_) (fun c27_ => ?_)
      · have c27_ : c_ ≠ 61 := of_decide_eq_true c27_
        have hI28_ : gi (sm_pI S0_ 10 0 2 c_) := gi_pI hI_ (show (-128) ≤ c_ ∧ c_ ≤ 257 from ⟨by omega, by omega⟩)
        have hF29_ : ai_fr (sx_W vw_195) S0_ (sm_pI S0_ 10 0 2 c_) := ai_fr_tr hF_ (ai_fr_pI rfl)
        refine sm_T_go 7 (c1 := (102, [some (.inr (.inr (some (10, 0)))), some (.inl c_), some (.inl (S0_.2.2.1 98 0 ((S0_.1 10 0 8) + 1).toNat))], [.inl 1, .inl (S0_.1 10 0 8), .inr (.inr (some (10, 0)))], sm_pI S0_ 10 0 2 c_)) rfl ?_
        refine sm_T_bin (w := (S0_.1 10 0 8) + 1) rfl (bi_add (by omega) (by omega) (by omega)) ?_
        have hI30_ : gi (sm_pI (sm_pI S0_ 10 0 2 c_) 10 0 8 ((S0_.1 10 0 8) + 1)) := gi_pI hI28_ (show 0 ≤ (S0_.1 10 0 8) + 1 ∧ (S0_.1 10 0 8) + 1 ≤ 1280 from ⟨by omega, by omega⟩)
        have hF31_ : ai_fr (sx_W vw_195) S0_ (sm_pI (sm_pI S0_ 10 0 2 c_) 10 0 8 ((S0_.1 10 0 8) + 1)) := ai_fr_tr hF29_ (ai_fr_pI rfl)
        refine sm_T_go 2 (c1 := (107, [some (.inr (.inr (some (10, 0)))), some (.inl c_), some (.inl (S0_.2.2.1 98 0 ((S0_.1 10 0 8) + 1).toNat))], [.inl c_], sm_pI (sm_pI S0_ 10 0 2 c_) 10 0 8 ((S0_.1 10 0 8) + 1))) rfl ?_
        refine sm_T_b0 (a := 5) (z := 17) rfl (fun c32_ => ?_) (fun c32_ => ?_)
        · have c32_ : c_ ≤ 0 := of_decide_eq_true c32_
          refine sm_T_go 1 (c1 := (125, [some (.inr (.inr (some (10, 0)))), some (.inl c_), some (.inl (S0_.2.2.1 98 0 ((S0_.1 10 0 8) + 1).toNat))], [.inl 0], sm_pI (sm_pI S0_ 10 0 2 c_) 10 0 8 ((S0_.1 10 0 8) + 1))) rfl ?_
          refine sm_T_rz rfl (by omega) ⟨_, _, rfl, _, rfl, hI30_, hF31_, ?_⟩
          have ha_ : ¬ (b_ p_ = 60 ∧ p_ + 1 < n_ ∧ b_ (p_ + 1) = 45) := by rw [← hc_]; omega
          have hs_ : ¬ (b_ p_ = 61 ∧ p_ + 1 < n_ ∧ b_ (p_ + 1) = 61) := by rw [← hc_]; omega
          unfold lx_sk lx_sn
          rw [if_neg ha_, if_neg hs_, if_neg ha_, if_neg hs_, ← hc_]
          (try simp only [rd_eq, rd_ne, rf_eq, rf_nk, rf_nt, rd_fa, rd_af, rd_fl, rd_al, rd_lf, rd_la, rd_leq, rd_lne, rd_fr, rd_ar, ne_eq, Nat.reduceEqDiff, not_false_eq_true])
          by_cases g_ : lx_sg c_
          · rw [if_pos g_]
            have hc0_ : c_ ≠ 0 := by omega
            rw [if_neg hc0_]; refine ⟨by omega, by omega, fun _ => rfl⟩
          · rw [if_neg g_, if_pos rfl]; refine ⟨by omega, by omega, fun h_ => absurd rfl h_⟩
        · have c32_ : ¬ (c_ ≤ 0) := of_decide_eq_false c32_
          have ec_ := i_i2c_s (x := c_) (by omega) (by omega)
          have es_ : lx_sg c_ ↔ 0 ≤ mt_ix mt_sgn (i_i2c c_) 0 := by rw [ec_]; exact lx_sg_ix
          refine sm_T_nt (u := some (.inr (.inr (some (301, 0))))) (S1 := sm_pI (sm_pI S0_ 10 0 2 c_) 10 0 8 ((S0_.1 10 0 8) + 1)) rfl rfl rfl ?_
          refine sm_T_go 2 (c1 := (114, [some (.inr (.inr (some (10, 0)))), some (.inl c_), some (.inl (S0_.2.2.1 98 0 ((S0_.1 10 0 8) + 1).toNat))], [.inl (i_i2c c_), .inr (.inr (some (301, 0)))], sm_pI (sm_pI S0_ 10 0 2 c_) 10 0 8 ((S0_.1 10 0 8) + 1))) rfl ?_
          refine sm_T_nt (u := some (.inl (mt_ix mt_sgn (i_i2c c_) 0))) (S1 := sm_pI (sm_pI S0_ 10 0 2 c_) 10 0 8 ((S0_.1 10 0 8) + 1)) rfl rfl (nt_sg (sc := sc_) (by omega) (by omega)) ?_
          refine sm_T_b0 (a := 2) (z := 7) rfl (fun c33_ => ?_) (fun c33_ => ?_)
          · have c33_ : (mt_ix mt_sgn (i_i2c c_) 0) < 0 := of_decide_eq_true c33_
            refine sm_T_go 1 (c1 := (125, [some (.inr (.inr (some (10, 0)))), some (.inl c_), some (.inl (S0_.2.2.1 98 0 ((S0_.1 10 0 8) + 1).toNat))], [.inl 0], sm_pI (sm_pI S0_ 10 0 2 c_) 10 0 8 ((S0_.1 10 0 8) + 1))) rfl ?_
            refine sm_T_rz rfl (by omega) ⟨_, _, rfl, _, rfl, hI30_, hF31_, ?_⟩
            have ha_ : ¬ (b_ p_ = 60 ∧ p_ + 1 < n_ ∧ b_ (p_ + 1) = 45) := by rw [← hc_]; omega
            have hs_ : ¬ (b_ p_ = 61 ∧ p_ + 1 < n_ ∧ b_ (p_ + 1) = 61) := by rw [← hc_]; omega
            unfold lx_sk lx_sn
            rw [if_neg ha_, if_neg hs_, if_neg ha_, if_neg hs_, ← hc_]
            (try simp only [rd_eq, rd_ne, rf_eq, rf_nk, rf_nt, rd_fa, rd_af, rd_fl, rd_al, rd_lf, rd_la, rd_leq, rd_lne, rd_fr, rd_ar, ne_eq, Nat.reduceEqDiff, not_false_eq_true])
            by_cases g_ : lx_sg c_
            · rw [if_pos g_]
              have hc0_ : c_ ≠ 0 := by omega
              rw [if_neg hc0_]; refine ⟨by omega, by omega, fun _ => rfl⟩
            · rw [if_neg g_, if_pos rfl]; refine ⟨by omega, by omega, fun h_ => absurd rfl h_⟩
          · have c33_ : ¬ ((mt_ix mt_sgn (i_i2c c_) 0) < 0) := of_decide_eq_false c33_
            refine sm_T_go 2 (c1 := (125, [some (.inr (.inr (some (10, 0)))), some (.inl c_), some (.inl (S0_.2.2.1 98 0 ((S0_.1 10 0 8) + 1).toNat))], [.inl 1], sm_pI (sm_pI S0_ 10 0 2 c_) 10 0 8 ((S0_.1 10 0 8) + 1))) rfl ?_
            refine sm_T_rz rfl (by omega) ⟨_, _, rfl, _, rfl, hI30_, hF31_, ?_⟩
            have ha_ : ¬ (b_ p_ = 60 ∧ p_ + 1 < n_ ∧ b_ (p_ + 1) = 45) := by rw [← hc_]; omega
            have hs_ : ¬ (b_ p_ = 61 ∧ p_ + 1 < n_ ∧ b_ (p_ + 1) = 61) := by rw [← hc_]; omega
            unfold lx_sk lx_sn
            rw [if_neg ha_, if_neg hs_, if_neg ha_, if_neg hs_, ← hc_]
            (try simp only [rd_eq, rd_ne, rf_eq, rf_nk, rf_nt, rd_fa, rd_af, rd_fl, rd_al, rd_lf, rd_la, rd_leq, rd_lne, rd_fr, rd_ar, ne_eq, Nat.reduceEqDiff, not_false_eq_true])
            by_cases g_ : lx_sg c_
            · rw [if_pos g_]
              have hc0_ : c_ ≠ 0 := by omega
              rw [if_neg hc0_]; refine ⟨by omega, by omega, fun _ => rfl⟩
            · rw [if_neg g_, if_pos rfl]; refine ⟨by omega, by omega, fun h_ => absurd rfl h_⟩
      · have c27_ : ¬ (c_ ≠ 61) := of_decide_eq_false c27_
        refine sm_T_go 2 (c1 := (69, [some (.inr (.inr (some (10, 0)))), some (.inl c_), some (.inl (S0_.2.2.1 98 0 ((S0_.1 10 0 8) + 1).toNat))], [.inl 61, .inl (S0_.2.2.1 98 0 ((S0_.1 10 0 8) + 1).toNat)], S0_)) rfl ?_
        refine sm_T_br (a := 1) (z := 22) rfl (fun c34_ => ?_) (fun c34_ => ?_)
        · have c34_ : (S0_.2.2.1 98 0 ((S0_.1 10 0 8) + 1).toNat) ≠ 61 := of_decide_eq_true c34_
          have hI35_ : gi (sm_pI S0_ 10 0 2 c_) := gi_pI hI_ (show (-128) ≤ c_ ∧ c_ ≤ 257 from ⟨by omega, by omega⟩)
          have hF36_ : ai_fr (sx_W vw_195) S0_ (sm_pI S0_ 10 0 2 c_) := ai_fr_tr hF_ (ai_fr_pI rfl)
          refine sm_T_go 7 (c1 := (102, [some (.inr (.inr (some (10, 0)))), some (.inl c_), some (.inl (S0_.2.2.1 98 0 ((S0_.1 10 0 8) + 1).toNat))], [.inl 1, .inl (S0_.1 10 0 8), .inr (.inr (some (10, 0)))], sm_pI S0_ 10 0 2 c_)) rfl ?_
          refine sm_T_bin (w := (S0_.1 10 0 8) + 1) rfl (bi_add (by omega) (by omega) (by omega)) ?_
          have hI37_ : gi (sm_pI (sm_pI S0_ 10 0 2 c_) 10 0 8 ((S0_.1 10 0 8) + 1)) := gi_pI hI35_ (show 0 ≤ (S0_.1 10 0 8) + 1 ∧ (S0_.1 10 0 8) + 1 ≤ 1280 from ⟨by omega, by omega⟩)
          have hF38_ : ai_fr (sx_W vw_195) S0_ (sm_pI (sm_pI S0_ 10 0 2 c_) 10 0 8 ((S0_.1 10 0 8) + 1)) := ai_fr_tr hF36_ (ai_fr_pI rfl)
          refine sm_T_go 2 (c1 := (107, [some (.inr (.inr (some (10, 0)))), some (.inl c_), some (.inl (S0_.2.2.1 98 0 ((S0_.1 10 0 8) + 1).toNat))], [.inl c_], sm_pI (sm_pI S0_ 10 0 2 c_) 10 0 8 ((S0_.1 10 0 8) + 1))) rfl ?_
          refine sm_T_b0 (a := 5) (z := 17) rfl (fun c39_ => ?_) (fun c39_ => ?_)
          · have c39_ : c_ ≤ 0 := of_decide_eq_true c39_
            exfalso; omega
          · have c39_ : ¬ (c_ ≤ 0) := of_decide_eq_false c39_
            have ec_ := i_i2c_s (x := c_) (by omega) (by omega)
            have es_ : lx_sg c_ ↔ 0 ≤ mt_ix mt_sgn (i_i2c c_) 0 := by rw [ec_]; exact lx_sg_ix
            refine sm_T_nt (u := some (.inr (.inr (some (301, 0))))) (S1 := sm_pI (sm_pI S0_ 10 0 2 c_) 10 0 8 ((S0_.1 10 0 8) + 1)) rfl rfl rfl ?_
            refine sm_T_go 2 (c1 := (114, [some (.inr (.inr (some (10, 0)))), some (.inl c_), some (.inl (S0_.2.2.1 98 0 ((S0_.1 10 0 8) + 1).toNat))], [.inl (i_i2c c_), .inr (.inr (some (301, 0)))], sm_pI (sm_pI S0_ 10 0 2 c_) 10 0 8 ((S0_.1 10 0 8) + 1))) rfl ?_
            refine sm_T_nt (u := some (.inl (mt_ix mt_sgn (i_i2c c_) 0))) (S1 := sm_pI (sm_pI S0_ 10 0 2 c_) 10 0 8 ((S0_.1 10 0 8) + 1)) rfl rfl (nt_sg (sc := sc_) (by omega) (by omega)) ?_
            refine sm_T_b0 (a := 2) (z := 7) rfl (fun c40_ => ?_) (fun c40_ => ?_)
            · have c40_ : (mt_ix mt_sgn (i_i2c c_) 0) < 0 := of_decide_eq_true c40_
              refine sm_T_go 1 (c1 := (125, [some (.inr (.inr (some (10, 0)))), some (.inl c_), some (.inl (S0_.2.2.1 98 0 ((S0_.1 10 0 8) + 1).toNat))], [.inl 0], sm_pI (sm_pI S0_ 10 0 2 c_) 10 0 8 ((S0_.1 10 0 8) + 1))) rfl ?_
              refine sm_T_rz rfl (by omega) ⟨_, _, rfl, _, rfl, hI37_, hF38_, ?_⟩
              have ha_ : ¬ (b_ p_ = 60 ∧ p_ + 1 < n_ ∧ b_ (p_ + 1) = 45) := by rw [← hc_]; omega
              have hs_ : ¬ (b_ p_ = 61 ∧ p_ + 1 < n_ ∧ b_ (p_ + 1) = 61) := by rw [← hc_]; omega
              unfold lx_sk lx_sn
              rw [if_neg ha_, if_neg hs_, if_neg ha_, if_neg hs_, ← hc_]
              (try simp only [rd_eq, rd_ne, rf_eq, rf_nk, rf_nt, rd_fa, rd_af, rd_fl, rd_al, rd_lf, rd_la, rd_leq, rd_lne, rd_fr, rd_ar, ne_eq, Nat.reduceEqDiff, not_false_eq_true])
              by_cases g_ : lx_sg c_
              · rw [if_pos g_]
                have hc0_ : c_ ≠ 0 := by omega
                rw [if_neg hc0_]; refine ⟨by omega, by omega, fun _ => rfl⟩
              · rw [if_neg g_, if_pos rfl]; refine ⟨by omega, by omega, fun h_ => absurd rfl h_⟩
            · have c40_ : ¬ ((mt_ix mt_sgn (i_i2c c_) 0) < 0) := of_decide_eq_false c40_
              refine sm_T_go 2 (c1 := (125, [some (.inr (.inr (some (10, 0)))), some (.inl c_), some (.inl (S0_.2.2.1 98 0 ((S0_.1 10 0 8) + 1).toNat))], [.inl 1], sm_pI (sm_pI S0_ 10 0 2 c_) 10 0 8 ((S0_.1 10 0 8) + 1))) rfl ?_
              refine sm_T_rz rfl (by omega) ⟨_, _, rfl, _, rfl, hI37_, hF38_, ?_⟩
              have ha_ : ¬ (b_ p_ = 60 ∧ p_ + 1 < n_ ∧ b_ (p_ + 1) = 45) := by rw [← hc_]; omega
              have hs_ : ¬ (b_ p_ = 61 ∧ p_ + 1 < n_ ∧ b_ (p_ + 1) = 61) := by rw [← hc_]; omega
              unfold lx_sk lx_sn
              rw [if_neg ha_, if_neg hs_, if_neg ha_, if_neg hs_, ← hc_]
              (try simp only [rd_eq, rd_ne, rf_eq, rf_nk, rf_nt, rd_fa, rd_af, rd_fl, rd_al, rd_lf, rd_la, rd_leq, rd_lne, rd_fr, rd_ar, ne_eq, Nat.reduceEqDiff, not_false_eq_true])
              by_cases g_ : lx_sg c_
              · rw [if_pos g_]
                have hc0_ : c_ ≠ 0 := by omega
                rw [if_neg hc0_]; refine ⟨by omega, by omega, fun _ => rfl⟩
              · rw [if_neg g_, if_pos rfl]; refine ⟨by omega, by omega, fun h_ => absurd rfl h_⟩
        · have c34_ : ¬ ((S0_.2.2.1 98 0 ((S0_.1 10 0 8) + 1).toNat) ≠ 61) := of_decide_eq_false c34_
          have hI41_ : gi (sm_pI S0_ 10 0 2 257) := gi_pI hI_ (show (-128) ≤ 257 ∧ 257 ≤ 257 from ⟨by omega, by omega⟩)
          have hF42_ : ai_fr (sx_W vw_195) S0_ (sm_pI S0_ 10 0 2 257) := ai_fr_tr hF_ (ai_fr_pI rfl)
          refine sm_T_go 7 (c1 := (85, [some (.inr (.inr (some (10, 0)))), some (.inl c_), some (.inl (S0_.2.2.1 98 0 ((S0_.1 10 0 8) + 1).toNat))], [.inl 2, .inl (S0_.1 10 0 8), .inr (.inr (some (10, 0)))], sm_pI S0_ 10 0 2 257)) rfl ?_
          refine sm_T_bin (w := (S0_.1 10 0 8) + 2) rfl (bi_add (by omega) (by omega) (by omega)) ?_
          have hI43_ : gi (sm_pI (sm_pI S0_ 10 0 2 257) 10 0 8 ((S0_.1 10 0 8) + 2)) := gi_pI hI41_ (show 0 ≤ (S0_.1 10 0 8) + 2 ∧ (S0_.1 10 0 8) + 2 ≤ 1280 from ⟨by omega, by omega⟩)
          have hF44_ : ai_fr (sx_W vw_195) S0_ (sm_pI (sm_pI S0_ 10 0 2 257) 10 0 8 ((S0_.1 10 0 8) + 2)) := ai_fr_tr hF42_ (ai_fr_pI rfl)
          refine sm_T_go 2 (c1 := (90, [some (.inr (.inr (some (10, 0)))), some (.inl c_), some (.inl (S0_.2.2.1 98 0 ((S0_.1 10 0 8) + 1).toNat))], [.inl 1], sm_pI (sm_pI S0_ 10 0 2 257) 10 0 8 ((S0_.1 10 0 8) + 2))) rfl ?_
          refine sm_T_rz rfl (by omega) ⟨_, _, rfl, _, rfl, hI43_, hF44_, ?_⟩
          have ha_ : ¬ (b_ p_ = 60 ∧ p_ + 1 < n_ ∧ b_ (p_ + 1) = 45) := by rw [← hc_]; omega
          have hs_ : (b_ p_ = 61 ∧ p_ + 1 < n_ ∧ b_ (p_ + 1) = 61) := by rw [← hc_]; omega
          unfold lx_sk lx_sn; rw [if_neg ha_, if_pos hs_, if_neg ha_, if_pos hs_]
          (try simp only [rd_eq, rd_ne, rf_eq, rf_nk, rf_nt, rd_fa, rd_af, rd_fl, rd_al, rd_lf, rd_la, rd_leq, rd_lne, rd_fr, rd_ar, ne_eq, Nat.reduceEqDiff, not_false_eq_true])
          exact ⟨rfl, by omega, fun _ => by first | rfl | trivial⟩
    · have c26_ : ¬ (c_ ≠ 60) := of_decide_eq_false c26_
      refine sm_T_go 2 (c1 := (38, [some (.inr (.inr (some (10, 0)))), some (.inl c_), some (.inl (S0_.2.2.1 98 0 ((S0_.1 10 0 8) + 1).toNat))], [.inl 45, .inl (S0_.2.2.1 98 0 ((S0_.1 10 0 8) + 1).toNat)], S0_)) rfl ?_
      refine sm_T_br (a := 1) (z := 22) rfl (fun c45_ => ?_) (fun c45_ => ?_)
      · have c45_ : (S0_.2.2.1 98 0 ((S0_.1 10 0 8) + 1).toNat) ≠ 45 := of_decide_eq_true c45_
        refine sm_T_go 2 (c1 := (63, [some (.inr (.inr (some (10, 0)))), some (.inl c_), some (.inl (S0_.2.2.1 98 0 ((S0_.1 10 0 8) + 1).toNat))], [.inl 61, .inl c_], S0_)) rfl ?_
        refine sm_T_br (a := 1) (z := 28) rfl (fun c46_ => ?_) (fun c46_ => ?_)
        · have c46_ : c_ ≠ 61 := of_decide_eq_true c46_
          have hI47_ : gi (sm_pI S0_ 10 0 2 c_) := gi_pI hI_ (show (-128) ≤ c_ ∧ c_ ≤ 257 from ⟨by omega, by omega⟩)
          have hF48_ : ai_fr (sx_W vw_195) S0_ (sm_pI S0_ 10 0 2 c_) := ai_fr_tr hF_ (ai_fr_pI rfl)
          refine sm_T_go 7 (c1 := (102, [some (.inr (.inr (some (10, 0)))), some (.inl c_), some (.inl (S0_.2.2.1 98 0 ((S0_.1 10 0 8) + 1).toNat))], [.inl 1, .inl (S0_.1 10 0 8), .inr (.inr (some (10, 0)))], sm_pI S0_ 10 0 2 c_)) rfl ?_
          refine sm_T_bin (w := (S0_.1 10 0 8) + 1) rfl (bi_add (by omega) (by omega) (by omega)) ?_
          have hI49_ : gi (sm_pI (sm_pI S0_ 10 0 2 c_) 10 0 8 ((S0_.1 10 0 8) + 1)) := gi_pI hI47_ (show 0 ≤ (S0_.1 10 0 8) + 1 ∧ (S0_.1 10 0 8) + 1 ≤ 1280 from ⟨by omega, by omega⟩)
          have hF50_ : ai_fr (sx_W vw_195) S0_ (sm_pI (sm_pI S0_ 10 0 2 c_) 10 0 8 ((S0_.1 10 0 8) + 1)) := ai_fr_tr hF48_ (ai_fr_pI rfl)
          refine sm_T_go 2 (c1 := (107, [some (.inr (.inr (some (10, 0)))), some (.inl c_), some (.inl (S0_.2.2.1 98 0 ((S0_.1 10 0 8) + 1).toNat))], [.inl c_], sm_pI (sm_pI S0_ 10 0 2 c_) 10 0 8 ((S0_.1 10 0 8) + 1))) rfl ?_
          refine sm_T_b0 (a := 5) (z := 17) rfl (fun c51_ => ?_) (fun c51_ => ?_)
          · have c51_ : c_ ≤ 0 := of_decide_eq_true c51_
            exfalso; omega
          · have c51_ : ¬ (c_ ≤ 0) := of_decide_eq_false c51_
            have ec_ := i_i2c_s (x := c_) (by omega) (by omega)
            have es_ : lx_sg c_ ↔ 0 ≤ mt_ix mt_sgn (i_i2c c_) 0 := by rw [ec_]; exact lx_sg_ix
            refine sm_T_nt (u := some (.inr (.inr (some (301, 0))))) (S1 := sm_pI (sm_pI S0_ 10 0 2 c_) 10 0 8 ((S0_.1 10 0 8) + 1)) rfl rfl rfl ?_
            refine sm_T_go 2 (c1 := (114, [some (.inr (.inr (some (10, 0)))), some (.inl c_), some (.inl (S0_.2.2.1 98 0 ((S0_.1 10 0 8) + 1).toNat))], [.inl (i_i2c c_), .inr (.inr (some (301, 0)))], sm_pI (sm_pI S0_ 10 0 2 c_) 10 0 8 ((S0_.1 10 0 8) + 1))) rfl ?_
            refine sm_T_nt (u := some (.inl (mt_ix mt_sgn (i_i2c c_) 0))) (S1 := sm_pI (sm_pI S0_ 10 0 2 c_) 10 0 8 ((S0_.1 10 0 8) + 1)) rfl rfl (nt_sg (sc := sc_) (by omega) (by omega)) ?_
            refine sm_T_b0 (a := 2) (z := 7) rfl (fun c52_ => ?_) (fun c52_ => ?_)
            · have c52_ : (mt_ix mt_sgn (i_i2c c_) 0) < 0 := of_decide_eq_true c52_
              refine sm_T_go 1 (c1 := (125, [some (.inr (.inr (some (10, 0)))), some (.inl c_), some (.inl (S0_.2.2.1 98 0 ((S0_.1 10 0 8) + 1).toNat))], [.inl 0], sm_pI (sm_pI S0_ 10 0 2 c_) 10 0 8 ((S0_.1 10 0 8) + 1))) rfl ?_
              refine sm_T_rz rfl (by omega) ⟨_, _, rfl, _, rfl, hI49_, hF50_, ?_⟩
              have ha_ : ¬ (b_ p_ = 60 ∧ p_ + 1 < n_ ∧ b_ (p_ + 1) = 45) := by rw [← hc_]; omega
              have hs_ : ¬ (b_ p_ = 61 ∧ p_ + 1 < n_ ∧ b_ (p_ + 1) = 61) := by rw [← hc_]; omega
              unfold lx_sk lx_sn
              rw [if_neg ha_, if_neg hs_, if_neg ha_, if_neg hs_, ← hc_]
              (try simp only [rd_eq, rd_ne, rf_eq, rf_nk, rf_nt, rd_fa, rd_af, rd_fl, rd_al, rd_lf, rd_la, rd_leq, rd_lne, rd_fr, rd_ar, ne_eq, Nat.reduceEqDiff, not_false_eq_true])
              by_cases g_ : lx_sg c_
              · rw [if_pos g_]
                have hc0_ : c_ ≠ 0 := by omega
                rw [if_neg hc0_]; refine ⟨by omega, by omega, fun _ => rfl⟩
              · rw [if_neg g_, if_pos rfl]; refine ⟨by omega, by omega, fun h_ => absurd rfl h_⟩
            · have c52_ : ¬ ((mt_ix mt_sgn (i_i2c c_) 0) < 0) := of_decide_eq_false c52_
              refine sm_T_go 2 (c1 := (125, [some (.inr (.inr (some (10, 0)))), some (.inl c_), some (.inl (S0_.2.2.1 98 0 ((S0_.1 10 0 8) + 1).toNat))], [.inl 1], sm_pI (sm_pI S0_ 10 0 2 c_) 10 0 8 ((S0_.1 10 0 8) + 1))) rfl ?_
              refine sm_T_rz rfl (by omega) ⟨_, _, rfl, _, rfl, hI49_, hF50_, ?_⟩
              have ha_ : ¬ (b_ p_ = 60 ∧ p_ + 1 < n_ ∧ b_ (p_ + 1) = 45) := by rw [← hc_]; omega
              have hs_ : ¬ (b_ p_ = 61 ∧ p_ + 1 < n_ ∧ b_ (p_ + 1) = 61) := by rw [← hc_]; omega
              unfold lx_sk lx_sn
              rw [if_neg ha_, if_neg hs_, if_neg ha_, if_neg hs_, ← hc_]
              (try simp only [rd_eq, rd_ne, rf_eq, rf_nk, rf_nt, rd_fa, rd_af, rd_fl, rd_al, rd_lf, rd_la, rd_leq, rd_lne, rd_fr, rd_ar, ne_eq, Nat.reduceEqDiff, not_false_eq_true])
              by_cases g_ : lx_sg c_
              · rw [if_pos g_]
                have hc0_ : c_ ≠ 0 := by omega
                rw [if_neg hc0_]; refine ⟨by omega, by omega, fun _ => rfl⟩
              · rw [if_neg g_, if_pos rfl]; refine ⟨by omega, by omega, fun h_ => absurd rfl h_⟩
        · have c46_ : ¬ (c_ ≠ 61) := of_decide_eq_false c46_
          exfalso; omega
      · have c45_ : ¬ ((S0_.2.2.1 98 0 ((S0_.1 10 0 8) + 1).toNat) ≠ 45) := of_decide_eq_false c45_
        have hI53_ : gi (sm_pI S0_ 10 0 2 256) := gi_pI hI_ (show (-128) ≤ 256 ∧ 256 ≤ 257 from ⟨by omega, by omega⟩)
        have hF54_ : ai_fr (sx_W vw_195) S0_ (sm_pI S0_ 10 0 2 256) := ai_fr_tr hF_ (ai_fr_pI rfl)
        refine sm_T_go 7 (c1 := (54, [some (.inr (.inr (some (10, 0)))), some (.inl c_), some (.inl (S0_.2.2.1 98 0 ((S0_.1 10 0 8) + 1).toNat))], [.inl 2, .inl (S0_.1 10 0 8), .inr (.inr (some (10, 0)))], sm_pI S0_ 10 0 2 256)) rfl ?_
        refine sm_T_bin (w := (S0_.1 10 0 8) + 2) rfl (bi_add (by omega) (by omega) (by omega)) ?_
        have hI55_ : gi (sm_pI (sm_pI S0_ 10 0 2 256) 10 0 8 ((S0_.1 10 0 8) + 2)) := gi_pI hI53_ (show 0 ≤ (S0_.1 10 0 8) + 2 ∧ (S0_.1 10 0 8) + 2 ≤ 1280 from ⟨by omega, by omega⟩)
        have hF56_ : ai_fr (sx_W vw_195) S0_ (sm_pI (sm_pI S0_ 10 0 2 256) 10 0 8 ((S0_.1 10 0 8) + 2)) := ai_fr_tr hF54_ (ai_fr_pI rfl)
        refine sm_T_go 2 (c1 := (59, [some (.inr (.inr (some (10, 0)))), some (.inl c_), some (.inl (S0_.2.2.1 98 0 ((S0_.1 10 0 8) + 1).toNat))], [.inl 1], sm_pI (sm_pI S0_ 10 0 2 256) 10 0 8 ((S0_.1 10 0 8) + 2))) rfl ?_
        refine sm_T_rz rfl (by omega) ⟨_, _, rfl, _, rfl, hI55_, hF56_, ?_⟩
        have ha_ : (b_ p_ = 60 ∧ p_ + 1 < n_ ∧ b_ (p_ + 1) = 45) := by rw [← hc_]; omega
        unfold lx_sk lx_sn; rw [if_pos ha_, if_pos ha_]
        (try simp only [rd_eq, rd_ne, rf_eq, rf_nk, rf_nt, rd_fa, rd_af, rd_fl, rd_al, rd_lf, rd_la, rd_leq, rd_lne, rd_fr, rd_ar, ne_eq, Nat.reduceEqDiff, not_false_eq_true])
        exact ⟨rfl, by omega, fun _ => by first | rfl | trivial⟩
