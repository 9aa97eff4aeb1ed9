/-! the class: signs; written by wip/p55/gen/vg -/
/-! Text.readSign -/
def vw_195 : sx_Wl := ([(10, 2), (10, 8)], [], [])
def vq_195 (c : Int) (b : Nat → Int) (n : Nat) (p : Nat) (S0 : sm_S) (u : Option sm_V) (S1 : sm_S) : Prop := ∃ v : Int, u = some (.inl v) ∧ gi S1 ∧ ai_fr (sx_W vw_195) S0 S1 ∧ ((v = if lx_sk b n p = 0 then 0 else 1) ∧ (S1.1 10 0 8) = (lx_sn b n p : Nat) ∧ (lx_sk b n p ≠ 0 → (S1.1 10 0 2) = lx_sk b n p))
theorem vc_195 {sc : Nat × (Nat → Int)} (c : Int) (b : Nat → Int) (n : Nat) (p : Nat) (S0 : sm_S) (hI : gi S0) (hb : S0.2.2.1 98 0 = b) (hn : (S0.1 10 0 1) = (n : Int)) (hn1 : n ≤ 1280) (hp : (S0.1 10 0 8) = (p : Int)) (hpn : p < n) (hc : c = b p) : sm_T (mt_P sc) 0 195 (0, [some (.inr (.inr (some (10, 0)))), some (.inl c), none], [], S0) (fun r => ∃ u S1, r = (.inl u, S1, 0) ∧ vq_195 c b n p S0 u S1) := by
  have hF : ai_fr (sx_W vw_195) S0 S0 := ai_fr_rf
  have eb : S0.2.2.1 98 0 (S0.1 10 0 8 + 1).toNat = b (p + 1) := by rw [hb]; congr 1; omega
  have hc1 : -128 ≤ c ∧ c ≤ 127 := by rw [hc, ← hb]; exact hI.2 98 0 p
  have b1 : 0 ≤ S0.1 10 0 8 ∧ S0.1 10 0 8 ≤ 1280 := hI.1 10 0 8 rfl
  refine sm_T_go 3 (c1 := (5, [some (.inr (.inr (some (10, 0)))), some (.inl c), none], [.inl 1, .inl (S0.1 10 0 8)], S0)) rfl ?_
  refine sm_T_bin (w := (S0.1 10 0 8) + 1) rfl (bi_add (by omega) (by omega) (by omega)) ?_
  have b2 : 0 ≤ S0.1 10 0 1 ∧ S0.1 10 0 1 ≤ 1280 := hI.1 10 0 1 rfl
  refine sm_T_go 2 (c1 := (10, [some (.inr (.inr (some (10, 0)))), some (.inl c), none], [.inl (S0.1 10 0 1), .inl ((S0.1 10 0 8) + 1)], S0)) rfl ?_
  refine sm_T_br (a := 3) (z := 17) rfl (fun c3 => ?_) (fun c3 => ?_)
  · have c3 : (S0.1 10 0 1) ≤ (S0.1 10 0 8) + 1 := of_decide_eq_true c3
    refine sm_T_go 4 (c1 := (32, [some (.inr (.inr (some (10, 0)))), some (.inl c), some (.inl 0)], [.inl 60, .inl c], S0)) rfl ?_
    refine sm_T_br (a := 1) (z := 28) rfl (fun c4 => ?_) (fun c4 => ?_)
    · have c4 : c ≠ 60 := of_decide_eq_true c4
      refine sm_T_go 2 (c1 := (63, [some (.inr (.inr (some (10, 0)))), some (.inl c), some (.inl 0)], [.inl 61, .inl c], S0)) rfl ?_
      refine sm_T_br (a := 1) (z := 28) rfl (fun c5 => ?_) (fun c5 => ?_)
      · have c5 : c ≠ 61 := of_decide_eq_true c5
        have hI6 : gi (sm_pI S0 10 0 2 c) := gi_pI hI (show (-128) ≤ c ∧ c ≤ 257 from ⟨by omega, by omega⟩)
        have hF7 : ai_fr (sx_W vw_195) S0 (sm_pI S0 10 0 2 c) := ai_fr_tr hF (ai_fr_pI rfl)
        refine sm_T_go 7 (c1 := (102, [some (.inr (.inr (some (10, 0)))), some (.inl c), some (.inl 0)], [.inl 1, .inl (S0.1 10 0 8), .inr (.inr (some (10, 0)))], sm_pI S0 10 0 2 c)) rfl ?_
        refine sm_T_bin (w := (S0.1 10 0 8) + 1) rfl (bi_add (by omega) (by omega) (by omega)) ?_
        have hI8 : gi (sm_pI (sm_pI S0 10 0 2 c) 10 0 8 ((S0.1 10 0 8) + 1)) := gi_pI hI6 (show 0 ≤ (S0.1 10 0 8) + 1 ∧ (S0.1 10 0 8) + 1 ≤ 1280 from ⟨by omega, by omega⟩)
        have hF9 : ai_fr (sx_W vw_195) S0 (sm_pI (sm_pI S0 10 0 2 c) 10 0 8 ((S0.1 10 0 8) + 1)) := ai_fr_tr hF7 (ai_fr_pI rfl)
        refine sm_T_go 2 (c1 := (107, [some (.inr (.inr (some (10, 0)))), some (.inl c), some (.inl 0)], [.inl c], sm_pI (sm_pI S0 10 0 2 c) 10 0 8 ((S0.1 10 0 8) + 1))) rfl ?_
        refine sm_T_b0 (a := 5) (z := 17) rfl (fun c10 => ?_) (fun c10 => ?_)
        · have c10 : c ≤ 0 := of_decide_eq_true c10
          refine sm_T_go 1 (c1 := (125, [some (.inr (.inr (some (10, 0)))), some (.inl c), some (.inl 0)], [.inl 0], sm_pI (sm_pI S0 10 0 2 c) 10 0 8 ((S0.1 10 0 8) + 1))) rfl ?_
          refine sm_T_rz rfl (by omega) ⟨_, _, rfl, _, rfl, hI8, hF9, ?_⟩
          have ha : ¬ (b p = 60 ∧ p + 1 < n ∧ b (p + 1) = 45) := by rw [← hc]; omega
          have hs : ¬ (b p = 61 ∧ p + 1 < n ∧ b (p + 1) = 61) := by rw [← hc]; omega
          unfold lx_sk lx_sn
          rw [if_neg ha, if_neg hs, if_neg ha, if_neg hs, ← hc]
          (try simp only [rd_eq, rd_ne, rf_eq, rf_nk, rf_nt, rd_fa, rd_af, rd_fl, rd_al, rd_lf, rd_la, rd_leq, rd_lne, rd_fr, rd_ar, ne_eq, Nat.reduceEqDiff, not_false_eq_true])
          by_cases g : lx_sg c
          · rw [if_pos g]
            have hc0 : c ≠ 0 := by omega
            rw [if_neg hc0]; refine ⟨by omega, by omega, fun _ => rfl⟩
          · rw [if_neg g, if_pos rfl]; refine ⟨by omega, by omega, fun h => absurd rfl h⟩
        · have c10 : ¬ (c ≤ 0) := of_decide_eq_false c10
          have ec := i_i2c_s (x := c) (by omega) (by omega)
          have es : lx_sg c ↔ 0 ≤ mt_ix mt_sgn (i_i2c c) 0 := by rw [ec]; exact lx_sg_ix
          refine sm_T_nt (u := some (.inr (.inr (some (301, 0))))) (S1 := sm_pI (sm_pI S0 10 0 2 c) 10 0 8 ((S0.1 10 0 8) + 1)) rfl rfl rfl ?_
          refine sm_T_go 2 (c1 := (114, [some (.inr (.inr (some (10, 0)))), some (.inl c), some (.inl 0)], [.inl (i_i2c c), .inr (.inr (some (301, 0)))], sm_pI (sm_pI S0 10 0 2 c) 10 0 8 ((S0.1 10 0 8) + 1))) rfl ?_
          refine sm_T_nt (u := some (.inl (mt_ix mt_sgn (i_i2c c) 0))) (S1 := sm_pI (sm_pI S0 10 0 2 c) 10 0 8 ((S0.1 10 0 8) + 1)) rfl rfl (nt_sg (sc := sc) (by omega) (by omega)) ?_
          refine sm_T_b0 (a := 2) (z := 7) rfl (fun c11 => ?_) (fun c11 => ?_)
          · have c11 : (mt_ix mt_sgn (i_i2c c) 0) < 0 := of_decide_eq_true c11
            refine sm_T_go 1 (c1 := (125, [some (.inr (.inr (some (10, 0)))), some (.inl c), some (.inl 0)], [.inl 0], sm_pI (sm_pI S0 10 0 2 c) 10 0 8 ((S0.1 10 0 8) + 1))) rfl ?_
            refine sm_T_rz rfl (by omega) ⟨_, _, rfl, _, rfl, hI8, hF9, ?_⟩
            have ha : ¬ (b p = 60 ∧ p + 1 < n ∧ b (p + 1) = 45) := by rw [← hc]; omega
            have hs : ¬ (b p = 61 ∧ p + 1 < n ∧ b (p + 1) = 61) := by rw [← hc]; omega
            unfold lx_sk lx_sn
            rw [if_neg ha, if_neg hs, if_neg ha, if_neg hs, ← hc]
            (try simp only [rd_eq, rd_ne, rf_eq, rf_nk, rf_nt, rd_fa, rd_af, rd_fl, rd_al, rd_lf, rd_la, rd_leq, rd_lne, rd_fr, rd_ar, ne_eq, Nat.reduceEqDiff, not_false_eq_true])
            by_cases g : lx_sg c
            · rw [if_pos g]
              have hc0 : c ≠ 0 := by omega
              rw [if_neg hc0]; refine ⟨by omega, by omega, fun _ => rfl⟩
            · rw [if_neg g, if_pos rfl]; refine ⟨by omega, by omega, fun h => absurd rfl h⟩
          · have c11 : ¬ ((mt_ix mt_sgn (i_i2c c) 0) < 0) := of_decide_eq_false c11
            refine sm_T_go 2 (c1 := (125, [some (.inr (.inr (some (10, 0)))), some (.inl c), some (.inl 0)], [.inl 1], sm_pI (sm_pI S0 10 0 2 c) 10 0 8 ((S0.1 10 0 8) + 1))) rfl ?_
            refine sm_T_rz rfl (by omega) ⟨_, _, rfl, _, rfl, hI8, hF9, ?_⟩
            have ha : ¬ (b p = 60 ∧ p + 1 < n ∧ b (p + 1) = 45) := by rw [← hc]; omega
            have hs : ¬ (b p = 61 ∧ p + 1 < n ∧ b (p + 1) = 61) := by rw [← hc]; omega
            unfold lx_sk lx_sn
            rw [if_neg ha, if_neg hs, if_neg ha, if_neg hs, ← hc]
            (try simp only [rd_eq, rd_ne, rf_eq, rf_nk, rf_nt, rd_fa, rd_af, rd_fl, rd_al, rd_lf, rd_la, rd_leq, rd_lne, rd_fr, rd_ar, ne_eq, Nat.reduceEqDiff, not_false_eq_true])
            by_cases g : lx_sg c
            · rw [if_pos g]
              have hc0 : c ≠ 0 := by omega
              rw [if_neg hc0]; refine ⟨by omega, by omega, fun _ => rfl⟩
            · rw [if_neg g, if_pos rfl]; refine ⟨by omega, by omega, fun h => absurd rfl h⟩
      · have c5 : ¬ (c ≠ 61) := of_decide_eq_false c5
        have hI12 : gi (sm_pI S0 10 0 2 c) := gi_pI hI (show (-128) ≤ c ∧ c ≤ 257 from ⟨by omega, by omega⟩)
        have hF13 : ai_fr (sx_W vw_195) S0 (sm_pI S0 10 0 2 c) := ai_fr_tr hF (ai_fr_pI rfl)
        refine sm_T_go 10 (c1 := (102, [some (.inr (.inr (some (10, 0)))), some (.inl c), some (.inl 0)], [.inl 1, .inl (S0.1 10 0 8), .inr (.inr (some (10, 0)))], sm_pI S0 10 0 2 c)) rfl ?_
        refine sm_T_bin (w := (S0.1 10 0 8) + 1) rfl (bi_add (by omega) (by omega) (by omega)) ?_
        have hI14 : gi (sm_pI (sm_pI S0 10 0 2 c) 10 0 8 ((S0.1 10 0 8) + 1)) := gi_pI hI12 (show 0 ≤ (S0.1 10 0 8) + 1 ∧ (S0.1 10 0 8) + 1 ≤ 1280 from ⟨by omega, by omega⟩)
        have hF15 : ai_fr (sx_W vw_195) S0 (sm_pI (sm_pI S0 10 0 2 c) 10 0 8 ((S0.1 10 0 8) + 1)) := ai_fr_tr hF13 (ai_fr_pI rfl)
        refine sm_T_go 2 (c1 := (107, [some (.inr (.inr (some (10, 0)))), some (.inl c), some (.inl 0)], [.inl c], sm_pI (sm_pI S0 10 0 2 c) 10 0 8 ((S0.1 10 0 8) + 1))) rfl ?_
        refine sm_T_b0 (a := 5) (z := 17) rfl (fun c16 => ?_) (fun c16 => ?_)
        · have c16 : c ≤ 0 := of_decide_eq_true c16
          exfalso; omega
        · have c16 : ¬ (c ≤ 0) := of_decide_eq_false c16
          have ec := i_i2c_s (x := c) (by omega) (by omega)
          have es : lx_sg c ↔ 0 ≤ mt_ix mt_sgn (i_i2c c) 0 := by rw [ec]; exact lx_sg_ix
          refine sm_T_nt (u := some (.inr (.inr (some (301, 0))))) (S1 := sm_pI (sm_pI S0 10 0 2 c) 10 0 8 ((S0.1 10 0 8) + 1)) rfl rfl rfl ?_
          refine sm_T_go 2 (c1 := (114, [some (.inr (.inr (some (10, 0)))), some (.inl c), some (.inl 0)], [.inl (i_i2c c), .inr (.inr (some (301, 0)))], sm_pI (sm_pI S0 10 0 2 c) 10 0 8 ((S0.1 10 0 8) + 1))) rfl ?_
          refine sm_T_nt (u := some (.inl (mt_ix mt_sgn (i_i2c c) 0))) (S1 := sm_pI (sm_pI S0 10 0 2 c) 10 0 8 ((S0.1 10 0 8) + 1)) rfl rfl (nt_sg (sc := sc) (by omega) (by omega)) ?_
          refine sm_T_b0 (a := 2) (z := 7) rfl (fun c17 => ?_) (fun c17 => ?_)
          · have c17 : (mt_ix mt_sgn (i_i2c c) 0) < 0 := of_decide_eq_true c17
            refine sm_T_go 1 (c1 := (125, [some (.inr (.inr (some (10, 0)))), some (.inl c), some (.inl 0)], [.inl 0], sm_pI (sm_pI S0 10 0 2 c) 10 0 8 ((S0.1 10 0 8) + 1))) rfl ?_
            refine sm_T_rz rfl (by omega) ⟨_, _, rfl, _, rfl, hI14, hF15, ?_⟩
            have ha : ¬ (b p = 60 ∧ p + 1 < n ∧ b (p + 1) = 45) := by rw [← hc]; omega
            have hs : ¬ (b p = 61 ∧ p + 1 < n ∧ b (p + 1) = 61) := by rw [← hc]; omega
            unfold lx_sk lx_sn
            rw [if_neg ha, if_neg hs, if_neg ha, if_neg hs, ← hc]
            (try simp only [rd_eq, rd_ne, rf_eq, rf_nk, rf_nt, rd_fa, rd_af, rd_fl, rd_al, rd_lf, rd_la, rd_leq, rd_lne, rd_fr, rd_ar, ne_eq, Nat.reduceEqDiff, not_false_eq_true])
            by_cases g : lx_sg c
            · rw [if_pos g]
              have hc0 : c ≠ 0 := by omega
              rw [if_neg hc0]; refine ⟨by omega, by omega, fun _ => rfl⟩
            · rw [if_neg g, if_pos rfl]; refine ⟨by omega, by omega, fun h => absurd rfl h⟩
          · have c17 : ¬ ((mt_ix mt_sgn (i_i2c c) 0) < 0) := of_decide_eq_false c17
            refine sm_T_go 2 (c1 := (125, [some (.inr (.inr (some (10, 0)))), some (.inl c), some (.inl 0)], [.inl 1], sm_pI (sm_pI S0 10 0 2 c) 10 0 8 ((S0.1 10 0 8) + 1))) rfl ?_
            refine sm_T_rz rfl (by omega) ⟨_, _, rfl, _, rfl, hI14, hF15, ?_⟩
            have ha : ¬ (b p = 60 ∧ p + 1 < n ∧ b (p + 1) = 45) := by rw [← hc]; omega
            have hs : ¬ (b p = 61 ∧ p + 1 < n ∧ b (p + 1) = 61) := by rw [← hc]; omega
            unfold lx_sk lx_sn
            rw [if_neg ha, if_neg hs, if_neg ha, if_neg hs, ← hc]
            (try simp only [rd_eq, rd_ne, rf_eq, rf_nk, rf_nt, rd_fa, rd_af, rd_fl, rd_al, rd_lf, rd_la, rd_leq, rd_lne, rd_fr, rd_ar, ne_eq, Nat.reduceEqDiff, not_false_eq_true])
            by_cases g : lx_sg c
            · rw [if_pos g]
              have hc0 : c ≠ 0 := by omega
              rw [if_neg hc0]; refine ⟨by omega, by omega, fun _ => rfl⟩
            · rw [if_neg g, if_pos rfl]; refine ⟨by omega, by omega, fun h => absurd rfl h⟩
    · have c4 : ¬ (c ≠ 60) := of_decide_eq_false c4
      refine sm_T_go 5 (c1 := (63, [some (.inr (.inr (some (10, 0)))), some (.inl c), some (.inl 0)], [.inl 61, .inl c], S0)) rfl ?_
      refine sm_T_br (a := 1) (z := 28) rfl (fun c18 => ?_) (fun c18 => ?_)
      · have c18 : c ≠ 61 := of_decide_eq_true c18
        have hI19 : gi (sm_pI S0 10 0 2 c) := gi_pI hI (show (-128) ≤ c ∧ c ≤ 257 from ⟨by omega, by omega⟩)
        have hF20 : ai_fr (sx_W vw_195) S0 (sm_pI S0 10 0 2 c) := ai_fr_tr hF (ai_fr_pI rfl)
        refine sm_T_go 7 (c1 := (102, [some (.inr (.inr (some (10, 0)))), some (.inl c), some (.inl 0)], [.inl 1, .inl (S0.1 10 0 8), .inr (.inr (some (10, 0)))], sm_pI S0 10 0 2 c)) rfl ?_
        refine sm_T_bin (w := (S0.1 10 0 8) + 1) rfl (bi_add (by omega) (by omega) (by omega)) ?_
        have hI21 : gi (sm_pI (sm_pI S0 10 0 2 c) 10 0 8 ((S0.1 10 0 8) + 1)) := gi_pI hI19 (show 0 ≤ (S0.1 10 0 8) + 1 ∧ (S0.1 10 0 8) + 1 ≤ 1280 from ⟨by omega, by omega⟩)
        have hF22 : ai_fr (sx_W vw_195) S0 (sm_pI (sm_pI S0 10 0 2 c) 10 0 8 ((S0.1 10 0 8) + 1)) := ai_fr_tr hF20 (ai_fr_pI rfl)
        refine sm_T_go 2 (c1 := (107, [some (.inr (.inr (some (10, 0)))), some (.inl c), some (.inl 0)], [.inl c], sm_pI (sm_pI S0 10 0 2 c) 10 0 8 ((S0.1 10 0 8) + 1))) rfl ?_
        refine sm_T_b0 (a := 5) (z := 17) rfl (fun c23 => ?_) (fun c23 => ?_)
        · have c23 : c ≤ 0 := of_decide_eq_true c23
          exfalso; omega
        · have c23 : ¬ (c ≤ 0) := of_decide_eq_false c23
          have ec := i_i2c_s (x := c) (by omega) (by omega)
          have es : lx_sg c ↔ 0 ≤ mt_ix mt_sgn (i_i2c c) 0 := by rw [ec]; exact lx_sg_ix
          refine sm_T_nt (u := some (.inr (.inr (some (301, 0))))) (S1 := sm_pI (sm_pI S0 10 0 2 c) 10 0 8 ((S0.1 10 0 8) + 1)) rfl rfl rfl ?_
          refine sm_T_go 2 (c1 := (114, [some (.inr (.inr (some (10, 0)))), some (.inl c), some (.inl 0)], [.inl (i_i2c c), .inr (.inr (some (301, 0)))], sm_pI (sm_pI S0 10 0 2 c) 10 0 8 ((S0.1 10 0 8) + 1))) rfl ?_
          refine sm_T_nt (u := some (.inl (mt_ix mt_sgn (i_i2c c) 0))) (S1 := sm_pI (sm_pI S0 10 0 2 c) 10 0 8 ((S0.1 10 0 8) + 1)) rfl rfl (nt_sg (sc := sc) (by omega) (by omega)) ?_
          refine sm_T_b0 (a := 2) (z := 7) rfl (fun c24 => ?_) (fun c24 => ?_)
          · have c24 : (mt_ix mt_sgn (i_i2c c) 0) < 0 := of_decide_eq_true c24
            refine sm_T_go 1 (c1 := (125, [some (.inr (.inr (some (10, 0)))), some (.inl c), some (.inl 0)], [.inl 0], sm_pI (sm_pI S0 10 0 2 c) 10 0 8 ((S0.1 10 0 8) + 1))) rfl ?_
            refine sm_T_rz rfl (by omega) ⟨_, _, rfl, _, rfl, hI21, hF22, ?_⟩
            have ha : ¬ (b p = 60 ∧ p + 1 < n ∧ b (p + 1) = 45) := by rw [← hc]; omega
            have hs : ¬ (b p = 61 ∧ p + 1 < n ∧ b (p + 1) = 61) := by rw [← hc]; omega
            unfold lx_sk lx_sn
            rw [if_neg ha, if_neg hs, if_neg ha, if_neg hs, ← hc]
            (try simp only [rd_eq, rd_ne, rf_eq, rf_nk, rf_nt, rd_fa, rd_af, rd_fl, rd_al, rd_lf, rd_la, rd_leq, rd_lne, rd_fr, rd_ar, ne_eq, Nat.reduceEqDiff, not_false_eq_true])
            by_cases g : lx_sg c
            · rw [if_pos g]
              have hc0 : c ≠ 0 := by omega
              rw [if_neg hc0]; refine ⟨by omega, by omega, fun _ => rfl⟩
            · rw [if_neg g, if_pos rfl]; refine ⟨by omega, by omega, fun h => absurd rfl h⟩
          · have c24 : ¬ ((mt_ix mt_sgn (i_i2c c) 0) < 0) := of_decide_eq_false c24
            refine sm_T_go 2 (c1 := (125, [some (.inr (.inr (some (10, 0)))), some (.inl c), some (.inl 0)], [.inl 1], sm_pI (sm_pI S0 10 0 2 c) 10 0 8 ((S0.1 10 0 8) + 1))) rfl ?_
            refine sm_T_rz rfl (by omega) ⟨_, _, rfl, _, rfl, hI21, hF22, ?_⟩
            have ha : ¬ (b p = 60 ∧ p + 1 < n ∧ b (p + 1) = 45) := by rw [← hc]; omega
            have hs : ¬ (b p = 61 ∧ p + 1 < n ∧ b (p + 1) = 61) := by rw [← hc]; omega
            unfold lx_sk lx_sn
            rw [if_neg ha, if_neg hs, if_neg ha, if_neg hs, ← hc]
            (try simp only [rd_eq, rd_ne, rf_eq, rf_nk, rf_nt, rd_fa, rd_af, rd_fl, rd_al, rd_lf, rd_la, rd_leq, rd_lne, rd_fr, rd_ar, ne_eq, Nat.reduceEqDiff, not_false_eq_true])
            by_cases g : lx_sg c
            · rw [if_pos g]
              have hc0 : c ≠ 0 := by omega
              rw [if_neg hc0]; refine ⟨by omega, by omega, fun _ => rfl⟩
            · rw [if_neg g, if_pos rfl]; refine ⟨by omega, by omega, fun h => absurd rfl h⟩
      · have c18 : ¬ (c ≠ 61) := of_decide_eq_false c18
        exfalso; omega
  · have c3 : ¬ ((S0.1 10 0 1) ≤ (S0.1 10 0 8) + 1) := of_decide_eq_false c3
    refine sm_T_go 5 (c1 := (22, [some (.inr (.inr (some (10, 0)))), some (.inl c), none], [.inl 1, .inl (S0.1 10 0 8), .inr (.inr (some (98, 0)))], S0)) rfl ?_
    refine sm_T_bin (w := (S0.1 10 0 8) + 1) rfl (bi_add (by omega) (by omega) (by omega)) ?_
    refine sm_T_bald (n := 65536) rfl rfl (by omega) (by omega) ?_
    have b25 : (-128) ≤ S0.2.2.1 98 0 ((S0.1 10 0 8) + 1).toNat ∧ S0.2.2.1 98 0 ((S0.1 10 0 8) + 1).toNat ≤ 127 := hI.2 98 0 _
    refine sm_T_go 4 (c1 := (32, [some (.inr (.inr (some (10, 0)))), some (.inl c), some (.inl (S0.2.2.1 98 0 ((S0.1 10 0 8) + 1).toNat))], [.inl 60, .inl c], S0)) rfl ?_
    refine sm_T_br (a := 1) (z := 28) rfl (fun c26 => ?_) (fun c26 => ?_)
    · have c26 : c ≠ 60 := of_decide_eq_true c26
      refine sm_T_go 2 (c1 := (63, [some (.inr (.inr (some (10, 0)))), some (.inl c), some (.inl (S0.2.2.1 98 0 ((S0.1 10 0 8) + 1).toNat))], [.inl 61, .inl c], S0)) rfl ?_
      refine sm_T_br (a := 1) (z := 28) rfl (fun c27 => ?_) (fun c27 => ?_)
      · have c27 : c ≠ 61 := of_decide_eq_true c27
        have hI28 : gi (sm_pI S0 10 0 2 c) := gi_pI hI (show (-128) ≤ c ∧ c ≤ 257 from ⟨by omega, by omega⟩)
        have hF29 : ai_fr (sx_W vw_195) S0 (sm_pI S0 10 0 2 c) := ai_fr_tr hF (ai_fr_pI rfl)
        refine sm_T_go 7 (c1 := (102, [some (.inr (.inr (some (10, 0)))), some (.inl c), some (.inl (S0.2.2.1 98 0 ((S0.1 10 0 8) + 1).toNat))], [.inl 1, .inl (S0.1 10 0 8), .inr (.inr (some (10, 0)))], sm_pI S0 10 0 2 c)) rfl ?_
        refine sm_T_bin (w := (S0.1 10 0 8) + 1) rfl (bi_add (by omega) (by omega) (by omega)) ?_
        have hI30 : gi (sm_pI (sm_pI S0 10 0 2 c) 10 0 8 ((S0.1 10 0 8) + 1)) := gi_pI hI28 (show 0 ≤ (S0.1 10 0 8) + 1 ∧ (S0.1 10 0 8) + 1 ≤ 1280 from ⟨by omega, by omega⟩)
        have hF31 : ai_fr (sx_W vw_195) S0 (sm_pI (sm_pI S0 10 0 2 c) 10 0 8 ((S0.1 10 0 8) + 1)) := ai_fr_tr hF29 (ai_fr_pI rfl)
        refine sm_T_go 2 (c1 := (107, [some (.inr (.inr (some (10, 0)))), some (.inl c), some (.inl (S0.2.2.1 98 0 ((S0.1 10 0 8) + 1).toNat))], [.inl c], sm_pI (sm_pI S0 10 0 2 c) 10 0 8 ((S0.1 10 0 8) + 1))) rfl ?_
        refine sm_T_b0 (a := 5) (z := 17) rfl (fun c32 => ?_) (fun c32 => ?_)
        · have c32 : c ≤ 0 := of_decide_eq_true c32
          refine sm_T_go 1 (c1 := (125, [some (.inr (.inr (some (10, 0)))), some (.inl c), some (.inl (S0.2.2.1 98 0 ((S0.1 10 0 8) + 1).toNat))], [.inl 0], sm_pI (sm_pI S0 10 0 2 c) 10 0 8 ((S0.1 10 0 8) + 1))) rfl ?_
          refine sm_T_rz rfl (by omega) ⟨_, _, rfl, _, rfl, hI30, hF31, ?_⟩
          have ha : ¬ (b p = 60 ∧ p + 1 < n ∧ b (p + 1) = 45) := by rw [← hc]; omega
          have hs : ¬ (b p = 61 ∧ p + 1 < n ∧ b (p + 1) = 61) := by rw [← hc]; omega
          unfold lx_sk lx_sn
          rw [if_neg ha, if_neg hs, if_neg ha, if_neg hs, ← hc]
          (try simp only [rd_eq, rd_ne, rf_eq, rf_nk, rf_nt, rd_fa, rd_af, rd_fl, rd_al, rd_lf, rd_la, rd_leq, rd_lne, rd_fr, rd_ar, ne_eq, Nat.reduceEqDiff, not_false_eq_true])
          by_cases g : lx_sg c
          · rw [if_pos g]
            have hc0 : c ≠ 0 := by omega
            rw [if_neg hc0]; refine ⟨by omega, by omega, fun _ => rfl⟩
          · rw [if_neg g, if_pos rfl]; refine ⟨by omega, by omega, fun h => absurd rfl h⟩
        · have c32 : ¬ (c ≤ 0) := of_decide_eq_false c32
          have ec := i_i2c_s (x := c) (by omega) (by omega)
          have es : lx_sg c ↔ 0 ≤ mt_ix mt_sgn (i_i2c c) 0 := by rw [ec]; exact lx_sg_ix
          refine sm_T_nt (u := some (.inr (.inr (some (301, 0))))) (S1 := sm_pI (sm_pI S0 10 0 2 c) 10 0 8 ((S0.1 10 0 8) + 1)) rfl rfl rfl ?_
          refine sm_T_go 2 (c1 := (114, [some (.inr (.inr (some (10, 0)))), some (.inl c), some (.inl (S0.2.2.1 98 0 ((S0.1 10 0 8) + 1).toNat))], [.inl (i_i2c c), .inr (.inr (some (301, 0)))], sm_pI (sm_pI S0 10 0 2 c) 10 0 8 ((S0.1 10 0 8) + 1))) rfl ?_
          refine sm_T_nt (u := some (.inl (mt_ix mt_sgn (i_i2c c) 0))) (S1 := sm_pI (sm_pI S0 10 0 2 c) 10 0 8 ((S0.1 10 0 8) + 1)) rfl rfl (nt_sg (sc := sc) (by omega) (by omega)) ?_
          refine sm_T_b0 (a := 2) (z := 7) rfl (fun c33 => ?_) (fun c33 => ?_)
          · have c33 : (mt_ix mt_sgn (i_i2c c) 0) < 0 := of_decide_eq_true c33
            refine sm_T_go 1 (c1 := (125, [some (.inr (.inr (some (10, 0)))), some (.inl c), some (.inl (S0.2.2.1 98 0 ((S0.1 10 0 8) + 1).toNat))], [.inl 0], sm_pI (sm_pI S0 10 0 2 c) 10 0 8 ((S0.1 10 0 8) + 1))) rfl ?_
            refine sm_T_rz rfl (by omega) ⟨_, _, rfl, _, rfl, hI30, hF31, ?_⟩
            have ha : ¬ (b p = 60 ∧ p + 1 < n ∧ b (p + 1) = 45) := by rw [← hc]; omega
            have hs : ¬ (b p = 61 ∧ p + 1 < n ∧ b (p + 1) = 61) := by rw [← hc]; omega
            unfold lx_sk lx_sn
            rw [if_neg ha, if_neg hs, if_neg ha, if_neg hs, ← hc]
            (try simp only [rd_eq, rd_ne, rf_eq, rf_nk, rf_nt, rd_fa, rd_af, rd_fl, rd_al, rd_lf, rd_la, rd_leq, rd_lne, rd_fr, rd_ar, ne_eq, Nat.reduceEqDiff, not_false_eq_true])
            by_cases g : lx_sg c
            · rw [if_pos g]
              have hc0 : c ≠ 0 := by omega
              rw [if_neg hc0]; refine ⟨by omega, by omega, fun _ => rfl⟩
            · rw [if_neg g, if_pos rfl]; refine ⟨by omega, by omega, fun h => absurd rfl h⟩
          · have c33 : ¬ ((mt_ix mt_sgn (i_i2c c) 0) < 0) := of_decide_eq_false c33
            refine sm_T_go 2 (c1 := (125, [some (.inr (.inr (some (10, 0)))), some (.inl c), some (.inl (S0.2.2.1 98 0 ((S0.1 10 0 8) + 1).toNat))], [.inl 1], sm_pI (sm_pI S0 10 0 2 c) 10 0 8 ((S0.1 10 0 8) + 1))) rfl ?_
            refine sm_T_rz rfl (by omega) ⟨_, _, rfl, _, rfl, hI30, hF31, ?_⟩
            have ha : ¬ (b p = 60 ∧ p + 1 < n ∧ b (p + 1) = 45) := by rw [← hc]; omega
            have hs : ¬ (b p = 61 ∧ p + 1 < n ∧ b (p + 1) = 61) := by rw [← hc]; omega
            unfold lx_sk lx_sn
            rw [if_neg ha, if_neg hs, if_neg ha, if_neg hs, ← hc]
            (try simp only [rd_eq, rd_ne, rf_eq, rf_nk, rf_nt, rd_fa, rd_af, rd_fl, rd_al, rd_lf, rd_la, rd_leq, rd_lne, rd_fr, rd_ar, ne_eq, Nat.reduceEqDiff, not_false_eq_true])
            by_cases g : lx_sg c
            · rw [if_pos g]
              have hc0 : c ≠ 0 := by omega
              rw [if_neg hc0]; refine ⟨by omega, by omega, fun _ => rfl⟩
            · rw [if_neg g, if_pos rfl]; refine ⟨by omega, by omega, fun h => absurd rfl h⟩
      · have c27 : ¬ (c ≠ 61) := of_decide_eq_false c27
        refine sm_T_go 2 (c1 := (69, [some (.inr (.inr (some (10, 0)))), some (.inl c), some (.inl (S0.2.2.1 98 0 ((S0.1 10 0 8) + 1).toNat))], [.inl 61, .inl (S0.2.2.1 98 0 ((S0.1 10 0 8) + 1).toNat)], S0)) rfl ?_
        refine sm_T_br (a := 1) (z := 22) rfl (fun c34 => ?_) (fun c34 => ?_)
        · have c34 : (S0.2.2.1 98 0 ((S0.1 10 0 8) + 1).toNat) ≠ 61 := of_decide_eq_true c34
          have hI35 : gi (sm_pI S0 10 0 2 c) := gi_pI hI (show (-128) ≤ c ∧ c ≤ 257 from ⟨by omega, by omega⟩)
          have hF36 : ai_fr (sx_W vw_195) S0 (sm_pI S0 10 0 2 c) := ai_fr_tr hF (ai_fr_pI rfl)
          refine sm_T_go 7 (c1 := (102, [some (.inr (.inr (some (10, 0)))), some (.inl c), some (.inl (S0.2.2.1 98 0 ((S0.1 10 0 8) + 1).toNat))], [.inl 1, .inl (S0.1 10 0 8), .inr (.inr (some (10, 0)))], sm_pI S0 10 0 2 c)) rfl ?_
          refine sm_T_bin (w := (S0.1 10 0 8) + 1) rfl (bi_add (by omega) (by omega) (by omega)) ?_
          have hI37 : gi (sm_pI (sm_pI S0 10 0 2 c) 10 0 8 ((S0.1 10 0 8) + 1)) := gi_pI hI35 (show 0 ≤ (S0.1 10 0 8) + 1 ∧ (S0.1 10 0 8) + 1 ≤ 1280 from ⟨by omega, by omega⟩)
          have hF38 : ai_fr (sx_W vw_195) S0 (sm_pI (sm_pI S0 10 0 2 c) 10 0 8 ((S0.1 10 0 8) + 1)) := ai_fr_tr hF36 (ai_fr_pI rfl)
          refine sm_T_go 2 (c1 := (107, [some (.inr (.inr (some (10, 0)))), some (.inl c), some (.inl (S0.2.2.1 98 0 ((S0.1 10 0 8) + 1).toNat))], [.inl c], sm_pI (sm_pI S0 10 0 2 c) 10 0 8 ((S0.1 10 0 8) + 1))) rfl ?_
          refine sm_T_b0 (a := 5) (z := 17) rfl (fun c39 => ?_) (fun c39 => ?_)
          · have c39 : c ≤ 0 := of_decide_eq_true c39
            exfalso; omega
          · have c39 : ¬ (c ≤ 0) := of_decide_eq_false c39
            have ec := i_i2c_s (x := c) (by omega) (by omega)
            have es : lx_sg c ↔ 0 ≤ mt_ix mt_sgn (i_i2c c) 0 := by rw [ec]; exact lx_sg_ix
            refine sm_T_nt (u := some (.inr (.inr (some (301, 0))))) (S1 := sm_pI (sm_pI S0 10 0 2 c) 10 0 8 ((S0.1 10 0 8) + 1)) rfl rfl rfl ?_
            refine sm_T_go 2 (c1 := (114, [some (.inr (.inr (some (10, 0)))), some (.inl c), some (.inl (S0.2.2.1 98 0 ((S0.1 10 0 8) + 1).toNat))], [.inl (i_i2c c), .inr (.inr (some (301, 0)))], sm_pI (sm_pI S0 10 0 2 c) 10 0 8 ((S0.1 10 0 8) + 1))) rfl ?_
            refine sm_T_nt (u := some (.inl (mt_ix mt_sgn (i_i2c c) 0))) (S1 := sm_pI (sm_pI S0 10 0 2 c) 10 0 8 ((S0.1 10 0 8) + 1)) rfl rfl (nt_sg (sc := sc) (by omega) (by omega)) ?_
            refine sm_T_b0 (a := 2) (z := 7) rfl (fun c40 => ?_) (fun c40 => ?_)
            · have c40 : (mt_ix mt_sgn (i_i2c c) 0) < 0 := of_decide_eq_true c40
              refine sm_T_go 1 (c1 := (125, [some (.inr (.inr (some (10, 0)))), some (.inl c), some (.inl (S0.2.2.1 98 0 ((S0.1 10 0 8) + 1).toNat))], [.inl 0], sm_pI (sm_pI S0 10 0 2 c) 10 0 8 ((S0.1 10 0 8) + 1))) rfl ?_
              refine sm_T_rz rfl (by omega) ⟨_, _, rfl, _, rfl, hI37, hF38, ?_⟩
              have ha : ¬ (b p = 60 ∧ p + 1 < n ∧ b (p + 1) = 45) := by rw [← hc]; omega
              have hs : ¬ (b p = 61 ∧ p + 1 < n ∧ b (p + 1) = 61) := by rw [← hc]; omega
              unfold lx_sk lx_sn
              rw [if_neg ha, if_neg hs, if_neg ha, if_neg hs, ← hc]
              (try simp only [rd_eq, rd_ne, rf_eq, rf_nk, rf_nt, rd_fa, rd_af, rd_fl, rd_al, rd_lf, rd_la, rd_leq, rd_lne, rd_fr, rd_ar, ne_eq, Nat.reduceEqDiff, not_false_eq_true])
              by_cases g : lx_sg c
              · rw [if_pos g]
                have hc0 : c ≠ 0 := by omega
                rw [if_neg hc0]; refine ⟨by omega, by omega, fun _ => rfl⟩
              · rw [if_neg g, if_pos rfl]; refine ⟨by omega, by omega, fun h => absurd rfl h⟩
            · have c40 : ¬ ((mt_ix mt_sgn (i_i2c c) 0) < 0) := of_decide_eq_false c40
              refine sm_T_go 2 (c1 := (125, [some (.inr (.inr (some (10, 0)))), some (.inl c), some (.inl (S0.2.2.1 98 0 ((S0.1 10 0 8) + 1).toNat))], [.inl 1], sm_pI (sm_pI S0 10 0 2 c) 10 0 8 ((S0.1 10 0 8) + 1))) rfl ?_
              refine sm_T_rz rfl (by omega) ⟨_, _, rfl, _, rfl, hI37, hF38, ?_⟩
              have ha : ¬ (b p = 60 ∧ p + 1 < n ∧ b (p + 1) = 45) := by rw [← hc]; omega
              have hs : ¬ (b p = 61 ∧ p + 1 < n ∧ b (p + 1) = 61) := by rw [← hc]; omega
              unfold lx_sk lx_sn
              rw [if_neg ha, if_neg hs, if_neg ha, if_neg hs, ← hc]
              (try simp only [rd_eq, rd_ne, rf_eq, rf_nk, rf_nt, rd_fa, rd_af, rd_fl, rd_al, rd_lf, rd_la, rd_leq, rd_lne, rd_fr, rd_ar, ne_eq, Nat.reduceEqDiff, not_false_eq_true])
              by_cases g : lx_sg c
              · rw [if_pos g]
                have hc0 : c ≠ 0 := by omega
                rw [if_neg hc0]; refine ⟨by omega, by omega, fun _ => rfl⟩
              · rw [if_neg g, if_pos rfl]; refine ⟨by omega, by omega, fun h => absurd rfl h⟩
        · have c34 : ¬ ((S0.2.2.1 98 0 ((S0.1 10 0 8) + 1).toNat) ≠ 61) := of_decide_eq_false c34
          have hI41 : gi (sm_pI S0 10 0 2 257) := gi_pI hI (show (-128) ≤ 257 ∧ 257 ≤ 257 from ⟨by omega, by omega⟩)
          have hF42 : ai_fr (sx_W vw_195) S0 (sm_pI S0 10 0 2 257) := ai_fr_tr hF (ai_fr_pI rfl)
          refine sm_T_go 7 (c1 := (85, [some (.inr (.inr (some (10, 0)))), some (.inl c), some (.inl (S0.2.2.1 98 0 ((S0.1 10 0 8) + 1).toNat))], [.inl 2, .inl (S0.1 10 0 8), .inr (.inr (some (10, 0)))], sm_pI S0 10 0 2 257)) rfl ?_
          refine sm_T_bin (w := (S0.1 10 0 8) + 2) rfl (bi_add (by omega) (by omega) (by omega)) ?_
          have hI43 : gi (sm_pI (sm_pI S0 10 0 2 257) 10 0 8 ((S0.1 10 0 8) + 2)) := gi_pI hI41 (show 0 ≤ (S0.1 10 0 8) + 2 ∧ (S0.1 10 0 8) + 2 ≤ 1280 from ⟨by omega, by omega⟩)
          have hF44 : ai_fr (sx_W vw_195) S0 (sm_pI (sm_pI S0 10 0 2 257) 10 0 8 ((S0.1 10 0 8) + 2)) := ai_fr_tr hF42 (ai_fr_pI rfl)
          refine sm_T_go 2 (c1 := (90, [some (.inr (.inr (some (10, 0)))), some (.inl c), some (.inl (S0.2.2.1 98 0 ((S0.1 10 0 8) + 1).toNat))], [.inl 1], sm_pI (sm_pI S0 10 0 2 257) 10 0 8 ((S0.1 10 0 8) + 2))) rfl ?_
          refine sm_T_rz rfl (by omega) ⟨_, _, rfl, _, rfl, hI43, hF44, ?_⟩
          have ha : ¬ (b p = 60 ∧ p + 1 < n ∧ b (p + 1) = 45) := by rw [← hc]; omega
          have hs : (b p = 61 ∧ p + 1 < n ∧ b (p + 1) = 61) := by rw [← hc]; omega
          unfold lx_sk lx_sn; rw [if_neg ha, if_pos hs, if_neg ha, if_pos hs]
          (try simp only [rd_eq, rd_ne, rf_eq, rf_nk, rf_nt, rd_fa, rd_af, rd_fl, rd_al, rd_lf, rd_la, rd_leq, rd_lne, rd_fr, rd_ar, ne_eq, Nat.reduceEqDiff, not_false_eq_true])
          exact ⟨rfl, by omega, fun _ => by first | rfl | trivial⟩
    · have c26 : ¬ (c ≠ 60) := of_decide_eq_false c26
      refine sm_T_go 2 (c1 := (38, [some (.inr (.inr (some (10, 0)))), some (.inl c), some (.inl (S0.2.2.1 98 0 ((S0.1 10 0 8) + 1).toNat))], [.inl 45, .inl (S0.2.2.1 98 0 ((S0.1 10 0 8) + 1).toNat)], S0)) rfl ?_
      refine sm_T_br (a := 1) (z := 22) rfl (fun c45 => ?_) (fun c45 => ?_)
      · have c45 : (S0.2.2.1 98 0 ((S0.1 10 0 8) + 1).toNat) ≠ 45 := of_decide_eq_true c45
        refine sm_T_go 2 (c1 := (63, [some (.inr (.inr (some (10, 0)))), some (.inl c), some (.inl (S0.2.2.1 98 0 ((S0.1 10 0 8) + 1).toNat))], [.inl 61, .inl c], S0)) rfl ?_
        refine sm_T_br (a := 1) (z := 28) rfl (fun c46 => ?_) (fun c46 => ?_)
        · have c46 : c ≠ 61 := of_decide_eq_true c46
          have hI47 : gi (sm_pI S0 10 0 2 c) := gi_pI hI (show (-128) ≤ c ∧ c ≤ 257 from ⟨by omega, by omega⟩)
          have hF48 : ai_fr (sx_W vw_195) S0 (sm_pI S0 10 0 2 c) := ai_fr_tr hF (ai_fr_pI rfl)
          refine sm_T_go 7 (c1 := (102, [some (.inr (.inr (some (10, 0)))), some (.inl c), some (.inl (S0.2.2.1 98 0 ((S0.1 10 0 8) + 1).toNat))], [.inl 1, .inl (S0.1 10 0 8), .inr (.inr (some (10, 0)))], sm_pI S0 10 0 2 c)) rfl ?_
          refine sm_T_bin (w := (S0.1 10 0 8) + 1) rfl (bi_add (by omega) (by omega) (by omega)) ?_
          have hI49 : gi (sm_pI (sm_pI S0 10 0 2 c) 10 0 8 ((S0.1 10 0 8) + 1)) := gi_pI hI47 (show 0 ≤ (S0.1 10 0 8) + 1 ∧ (S0.1 10 0 8) + 1 ≤ 1280 from ⟨by omega, by omega⟩)
          have hF50 : ai_fr (sx_W vw_195) S0 (sm_pI (sm_pI S0 10 0 2 c) 10 0 8 ((S0.1 10 0 8) + 1)) := ai_fr_tr hF48 (ai_fr_pI rfl)
          refine sm_T_go 2 (c1 := (107, [some (.inr (.inr (some (10, 0)))), some (.inl c), some (.inl (S0.2.2.1 98 0 ((S0.1 10 0 8) + 1).toNat))], [.inl c], sm_pI (sm_pI S0 10 0 2 c) 10 0 8 ((S0.1 10 0 8) + 1))) rfl ?_
          refine sm_T_b0 (a := 5) (z := 17) rfl (fun c51 => ?_) (fun c51 => ?_)
          · have c51 : c ≤ 0 := of_decide_eq_true c51
            exfalso; omega
          · have c51 : ¬ (c ≤ 0) := of_decide_eq_false c51
            have ec := i_i2c_s (x := c) (by omega) (by omega)
            have es : lx_sg c ↔ 0 ≤ mt_ix mt_sgn (i_i2c c) 0 := by rw [ec]; exact lx_sg_ix
            refine sm_T_nt (u := some (.inr (.inr (some (301, 0))))) (S1 := sm_pI (sm_pI S0 10 0 2 c) 10 0 8 ((S0.1 10 0 8) + 1)) rfl rfl rfl ?_
            refine sm_T_go 2 (c1 := (114, [some (.inr (.inr (some (10, 0)))), some (.inl c), some (.inl (S0.2.2.1 98 0 ((S0.1 10 0 8) + 1).toNat))], [.inl (i_i2c c), .inr (.inr (some (301, 0)))], sm_pI (sm_pI S0 10 0 2 c) 10 0 8 ((S0.1 10 0 8) + 1))) rfl ?_
            refine sm_T_nt (u := some (.inl (mt_ix mt_sgn (i_i2c c) 0))) (S1 := sm_pI (sm_pI S0 10 0 2 c) 10 0 8 ((S0.1 10 0 8) + 1)) rfl rfl (nt_sg (sc := sc) (by omega) (by omega)) ?_
            refine sm_T_b0 (a := 2) (z := 7) rfl (fun c52 => ?_) (fun c52 => ?_)
            · have c52 : (mt_ix mt_sgn (i_i2c c) 0) < 0 := of_decide_eq_true c52
              refine sm_T_go 1 (c1 := (125, [some (.inr (.inr (some (10, 0)))), some (.inl c), some (.inl (S0.2.2.1 98 0 ((S0.1 10 0 8) + 1).toNat))], [.inl 0], sm_pI (sm_pI S0 10 0 2 c) 10 0 8 ((S0.1 10 0 8) + 1))) rfl ?_
              refine sm_T_rz rfl (by omega) ⟨_, _, rfl, _, rfl, hI49, hF50, ?_⟩
              have ha : ¬ (b p = 60 ∧ p + 1 < n ∧ b (p + 1) = 45) := by rw [← hc]; omega
              have hs : ¬ (b p = 61 ∧ p + 1 < n ∧ b (p + 1) = 61) := by rw [← hc]; omega
              unfold lx_sk lx_sn
              rw [if_neg ha, if_neg hs, if_neg ha, if_neg hs, ← hc]
              (try simp only [rd_eq, rd_ne, rf_eq, rf_nk, rf_nt, rd_fa, rd_af, rd_fl, rd_al, rd_lf, rd_la, rd_leq, rd_lne, rd_fr, rd_ar, ne_eq, Nat.reduceEqDiff, not_false_eq_true])
              by_cases g : lx_sg c
              · rw [if_pos g]
                have hc0 : c ≠ 0 := by omega
                rw [if_neg hc0]; refine ⟨by omega, by omega, fun _ => rfl⟩
              · rw [if_neg g, if_pos rfl]; refine ⟨by omega, by omega, fun h => absurd rfl h⟩
            · have c52 : ¬ ((mt_ix mt_sgn (i_i2c c) 0) < 0) := of_decide_eq_false c52
              refine sm_T_go 2 (c1 := (125, [some (.inr (.inr (some (10, 0)))), some (.inl c), some (.inl (S0.2.2.1 98 0 ((S0.1 10 0 8) + 1).toNat))], [.inl 1], sm_pI (sm_pI S0 10 0 2 c) 10 0 8 ((S0.1 10 0 8) + 1))) rfl ?_
              refine sm_T_rz rfl (by omega) ⟨_, _, rfl, _, rfl, hI49, hF50, ?_⟩
              have ha : ¬ (b p = 60 ∧ p + 1 < n ∧ b (p + 1) = 45) := by rw [← hc]; omega
              have hs : ¬ (b p = 61 ∧ p + 1 < n ∧ b (p + 1) = 61) := by rw [← hc]; omega
              unfold lx_sk lx_sn
              rw [if_neg ha, if_neg hs, if_neg ha, if_neg hs, ← hc]
              (try simp only [rd_eq, rd_ne, rf_eq, rf_nk, rf_nt, rd_fa, rd_af, rd_fl, rd_al, rd_lf, rd_la, rd_leq, rd_lne, rd_fr, rd_ar, ne_eq, Nat.reduceEqDiff, not_false_eq_true])
              by_cases g : lx_sg c
              · rw [if_pos g]
                have hc0 : c ≠ 0 := by omega
                rw [if_neg hc0]; refine ⟨by omega, by omega, fun _ => rfl⟩
              · rw [if_neg g, if_pos rfl]; refine ⟨by omega, by omega, fun h => absurd rfl h⟩
        · have c46 : ¬ (c ≠ 61) := of_decide_eq_false c46
          exfalso; omega
      · have c45 : ¬ ((S0.2.2.1 98 0 ((S0.1 10 0 8) + 1).toNat) ≠ 45) := of_decide_eq_false c45
        have hI53 : gi (sm_pI S0 10 0 2 256) := gi_pI hI (show (-128) ≤ 256 ∧ 256 ≤ 257 from ⟨by omega, by omega⟩)
        have hF54 : ai_fr (sx_W vw_195) S0 (sm_pI S0 10 0 2 256) := ai_fr_tr hF (ai_fr_pI rfl)
        refine sm_T_go 7 (c1 := (54, [some (.inr (.inr (some (10, 0)))), some (.inl c), some (.inl (S0.2.2.1 98 0 ((S0.1 10 0 8) + 1).toNat))], [.inl 2, .inl (S0.1 10 0 8), .inr (.inr (some (10, 0)))], sm_pI S0 10 0 2 256)) rfl ?_
        refine sm_T_bin (w := (S0.1 10 0 8) + 2) rfl (bi_add (by omega) (by omega) (by omega)) ?_
        have hI55 : gi (sm_pI (sm_pI S0 10 0 2 256) 10 0 8 ((S0.1 10 0 8) + 2)) := gi_pI hI53 (show 0 ≤ (S0.1 10 0 8) + 2 ∧ (S0.1 10 0 8) + 2 ≤ 1280 from ⟨by omega, by omega⟩)
        have hF56 : ai_fr (sx_W vw_195) S0 (sm_pI (sm_pI S0 10 0 2 256) 10 0 8 ((S0.1 10 0 8) + 2)) := ai_fr_tr hF54 (ai_fr_pI rfl)
        refine sm_T_go 2 (c1 := (59, [some (.inr (.inr (some (10, 0)))), some (.inl c), some (.inl (S0.2.2.1 98 0 ((S0.1 10 0 8) + 1).toNat))], [.inl 1], sm_pI (sm_pI S0 10 0 2 256) 10 0 8 ((S0.1 10 0 8) + 2))) rfl ?_
        refine sm_T_rz rfl (by omega) ⟨_, _, rfl, _, rfl, hI55, hF56, ?_⟩
        have ha : (b p = 60 ∧ p + 1 < n ∧ b (p + 1) = 45) := by rw [← hc]; omega
        unfold lx_sk lx_sn; rw [if_pos ha, if_pos ha]
        (try simp only [rd_eq, rd_ne, rf_eq, rf_nk, rf_nt, rd_fa, rd_af, rd_fl, rd_al, rd_lf, rd_la, rd_leq, rd_lne, rd_fr, rd_ar, ne_eq, Nat.reduceEqDiff, not_false_eq_true])
        exact ⟨rfl, by omega, fun _ => by first | rfl | trivial⟩
