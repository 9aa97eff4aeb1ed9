/-! the class: names, numbers; written by wip/p55/gen/vg -/
/-! Text.skipBlanks -/
def vw_192 : sx_Wl := ([(10, 8)], [], [])
def vq_192 (b : Nat → Int) (n : Nat) (p : Nat) (S0 : sm_S) (u : Option sm_V) (S1 : sm_S) : Prop := u = none ∧ gi S1 ∧ ai_fr (sx_W vw_192) S0 S1 ∧ ((S1.1 10 0 8) = (lx_k b n p : Nat))
theorem vl_192 {sc : Nat × (Nat → Int)} (b : Nat → Int) (n : Nat) (p : Nat) (S0 : sm_S) (hb : S0.2.2.1 98 0 = b) (hn : (S0.1 10 0 1) = (n : Int)) (hn1 : n ≤ 1280) (hp : (S0.1 10 0 8) = (p : Int)) (hpn : p ≤ n) : ∀ nn : Nat, (∀ (c : Int) (S : sm_S), gi S → ai_fr (sx_W vw_192) S0 S → ((c = 0 ∨ c = 1) ∧ (∃ q : Nat, (S.1 10 0 8) = (q : Int) ∧ q ≤ n ∧ lx_s b n (n - q) (decide (c = 1)) q = lx_k b n p) ∧ True) → (1300 - (S.1 10 0 8).toNat) < nn → sm_T (mt_P sc) 0 192 (2, [some (.inr (.inr (some (10, 0)))), some (.inl c), none], [], S) (fun r => ∃ u S1, r = (.inl u, S1, 0) ∧ vq_192 b n p S0 u S1)) := by
  intro nn
  induction nn with
  | zero => exact fun _ _ _ _ _ h => absurd h (Nat.not_lt_zero _)
  | succ nn ih =>
    rintro c S hI hF ⟨h0, h1, -⟩ hm
    have hb1 : S.2.2.1 98 0 = b := (fr_arr hF rfl).trans hb
    have hn2 : (S.1 10 0 1) = (n : Int) := (hF.1 10 0 1 rfl).trans hn
    obtain ⟨q, hq, hqn, h2⟩ := h1
    have b1 : 0 ≤ S.1 10 0 8 ∧ S.1 10 0 8 ≤ 1280 := hI.1 10 0 8 rfl
    have b2 : 0 ≤ S.1 10 0 1 ∧ S.1 10 0 1 ≤ 1280 := hI.1 10 0 1 rfl
    refine sm_T_go 4 (c1 := (10, [some (.inr (.inr (some (10, 0)))), some (.inl c), none], [.inl (S.1 10 0 1), .inl (S.1 10 0 8)], S)) rfl ?_
    refine sm_T_br (a := 3) (z := 71) rfl (fun c3 => ?_) (fun c3 => ?_)
    · have c3 : (S.1 10 0 1) ≤ (S.1 10 0 8) := of_decide_eq_true c3
      refine sm_T_rv rfl ⟨_, _, rfl, rfl, hI, hF, ?_⟩
      rw [lx_s_end (by omega)] at h2
      rw [← h2]; exact hq
    · have c3 : ¬ ((S.1 10 0 1) ≤ (S.1 10 0 8)) := of_decide_eq_false c3
      refine sm_T_go 4 (c1 := (21, [some (.inr (.inr (some (10, 0)))), some (.inl c), none], [.inl (S.1 10 0 8), .inr (.inr (some (98, 0)))], S)) rfl ?_
      refine sm_T_bald (n := 65536) rfl rfl (by omega) (by omega) ?_
      have b4 : (-128) ≤ S.2.2.1 98 0 (S.1 10 0 8).toNat ∧ S.2.2.1 98 0 (S.1 10 0 8).toNat ≤ 127 := hI.2 98 0 _
      refine sm_T_go 3 (c1 := (26, [some (.inr (.inr (some (10, 0)))), some (.inl c), some (.inl (S.2.2.1 98 0 (S.1 10 0 8).toNat))], [.inl 35, .inl (S.2.2.1 98 0 (S.1 10 0 8).toNat)], S)) rfl ?_
      refine sm_T_br (a := 1) (z := 8) rfl (fun c5 => ?_) (fun c5 => ?_)
      · have c5 : (S.2.2.1 98 0 (S.1 10 0 8).toNat) ≠ 35 := of_decide_eq_true c5
        refine sm_T_go 2 (c1 := (37, [some (.inr (.inr (some (10, 0)))), some (.inl c), some (.inl (S.2.2.1 98 0 (S.1 10 0 8).toNat))], [.inl 10, .inl (S.2.2.1 98 0 (S.1 10 0 8).toNat)], S)) rfl ?_
        refine sm_T_br (a := 1) (z := 8) rfl (fun c6 => ?_) (fun c6 => ?_)
        · have c6 : (S.2.2.1 98 0 (S.1 10 0 8).toNat) ≠ 10 := of_decide_eq_true c6
          refine sm_T_go 1 (c1 := (46, [some (.inr (.inr (some (10, 0)))), some (.inl c), some (.inl (S.2.2.1 98 0 (S.1 10 0 8).toNat))], [.inl c], S)) rfl ?_
          refine sm_T_b0 (a := 1) (z := 22) rfl (fun c7 => ?_) (fun c7 => ?_)
          · have c7 : c ≠ 0 := of_decide_eq_true c7
            refine sm_T_go 4 (c1 := (74, [some (.inr (.inr (some (10, 0)))), some (.inl c), some (.inl (S.2.2.1 98 0 (S.1 10 0 8).toNat))], [.inl 1, .inl (S.1 10 0 8), .inr (.inr (some (10, 0)))], S)) rfl ?_
            refine sm_T_bin (w := (S.1 10 0 8) + 1) rfl (bi_add (by omega) (by omega) (by omega)) ?_
            have hI8 : gi (sm_pI S 10 0 8 ((S.1 10 0 8) + 1)) := gi_pI hI (show 0 ≤ (S.1 10 0 8) + 1 ∧ (S.1 10 0 8) + 1 ≤ 1280 from ⟨by omega, by omega⟩)
            have hF9 : ai_fr (sx_W vw_192) S0 (sm_pI S 10 0 8 ((S.1 10 0 8) + 1)) := ai_fr_tr hF (ai_fr_pI rfl)
            refine sm_T_go 2 (c1 := (2, [some (.inr (.inr (some (10, 0)))), some (.inl c), some (.inl (S.2.2.1 98 0 (S.1 10 0 8).toNat))], [], sm_pI S 10 0 8 ((S.1 10 0 8) + 1))) rfl ?_
            refine sm_T_wk [some (.inr (.inr (some (10, 0)))), some (.inl c), none] (by exact ⟨rfl, rfl, trivial⟩) ?_
            refine ih c (sm_pI S 10 0 8 ((S.1 10 0 8) + 1)) hI8 hF9 ⟨?_, ?_, trivial⟩ ?_
            · omega
            · refine ⟨q + 1, ?_, by omega, ?_⟩
              · (try simp only [rd_eq, rd_ne, rf_eq, rf_nk, rf_nt, rd_fa, rd_af, rd_fl, rd_al, rd_lf, rd_la, rd_leq, rd_lne, rd_fr, rd_ar, ne_eq, Nat.reduceEqDiff, not_false_eq_true]); push_cast; omega
              · rw [lx_s_go (by omega)] at h2
                have e : (S.1 10 0 8).toNat = q := by omega
                rw [e, hb1] at *
                simp_all
            · (try simp only [rd_eq, rd_ne, rf_eq, rf_nk, rf_nt, rd_fa, rd_af, rd_fl, rd_al, rd_lf, rd_la, rd_leq, rd_lne, rd_fr, rd_ar, ne_eq, Nat.reduceEqDiff, not_false_eq_true]); omega
          · have c7 : ¬ (c ≠ 0) := of_decide_eq_false c7
            refine sm_T_go 2 (c1 := (52, [some (.inr (.inr (some (10, 0)))), some (.inl c), some (.inl (S.2.2.1 98 0 (S.1 10 0 8).toNat))], [.inl 9, .inl (S.2.2.1 98 0 (S.1 10 0 8).toNat)], S)) rfl ?_
            refine sm_T_br (a := 0) (z := 16) rfl (fun c10 => ?_) (fun c10 => ?_)
            · have c10 : (S.2.2.1 98 0 (S.1 10 0 8).toNat) = 9 := of_decide_eq_true c10
              refine sm_T_go 4 (c1 := (74, [some (.inr (.inr (some (10, 0)))), some (.inl c), some (.inl (S.2.2.1 98 0 (S.1 10 0 8).toNat))], [.inl 1, .inl (S.1 10 0 8), .inr (.inr (some (10, 0)))], S)) rfl ?_
              refine sm_T_bin (w := (S.1 10 0 8) + 1) rfl (bi_add (by omega) (by omega) (by omega)) ?_
              have hI11 : gi (sm_pI S 10 0 8 ((S.1 10 0 8) + 1)) := gi_pI hI (show 0 ≤ (S.1 10 0 8) + 1 ∧ (S.1 10 0 8) + 1 ≤ 1280 from ⟨by omega, by omega⟩)
              have hF12 : ai_fr (sx_W vw_192) S0 (sm_pI S 10 0 8 ((S.1 10 0 8) + 1)) := ai_fr_tr hF (ai_fr_pI rfl)
              refine sm_T_go 2 (c1 := (2, [some (.inr (.inr (some (10, 0)))), some (.inl c), some (.inl (S.2.2.1 98 0 (S.1 10 0 8).toNat))], [], sm_pI S 10 0 8 ((S.1 10 0 8) + 1))) rfl ?_
              refine sm_T_wk [some (.inr (.inr (some (10, 0)))), some (.inl c), none] (by exact ⟨rfl, rfl, trivial⟩) ?_
              refine ih c (sm_pI S 10 0 8 ((S.1 10 0 8) + 1)) hI11 hF12 ⟨?_, ?_, trivial⟩ ?_
              · omega
              · refine ⟨q + 1, ?_, by omega, ?_⟩
                · (try simp only [rd_eq, rd_ne, rf_eq, rf_nk, rf_nt, rd_fa, rd_af, rd_fl, rd_al, rd_lf, rd_la, rd_leq, rd_lne, rd_fr, rd_ar, ne_eq, Nat.reduceEqDiff, not_false_eq_true]); push_cast; omega
                · rw [lx_s_go (by omega)] at h2
                  have e : (S.1 10 0 8).toNat = q := by omega
                  rw [e, hb1] at *
                  simp_all
              · (try simp only [rd_eq, rd_ne, rf_eq, rf_nk, rf_nt, rd_fa, rd_af, rd_fl, rd_al, rd_lf, rd_la, rd_leq, rd_lne, rd_fr, rd_ar, ne_eq, Nat.reduceEqDiff, not_false_eq_true]); omega
            · have c10 : ¬ ((S.2.2.1 98 0 (S.1 10 0 8).toNat) = 9) := of_decide_eq_false c10
              refine sm_T_go 2 (c1 := (58, [some (.inr (.inr (some (10, 0)))), some (.inl c), some (.inl (S.2.2.1 98 0 (S.1 10 0 8).toNat))], [.inl 13, .inl (S.2.2.1 98 0 (S.1 10 0 8).toNat)], S)) rfl ?_
              refine sm_T_br (a := 0) (z := 10) rfl (fun c13 => ?_) (fun c13 => ?_)
              · have c13 : (S.2.2.1 98 0 (S.1 10 0 8).toNat) = 13 := of_decide_eq_true c13
                refine sm_T_go 4 (c1 := (74, [some (.inr (.inr (some (10, 0)))), some (.inl c), some (.inl (S.2.2.1 98 0 (S.1 10 0 8).toNat))], [.inl 1, .inl (S.1 10 0 8), .inr (.inr (some (10, 0)))], S)) rfl ?_
                refine sm_T_bin (w := (S.1 10 0 8) + 1) rfl (bi_add (by omega) (by omega) (by omega)) ?_
                have hI14 : gi (sm_pI S 10 0 8 ((S.1 10 0 8) + 1)) := gi_pI hI (show 0 ≤ (S.1 10 0 8) + 1 ∧ (S.1 10 0 8) + 1 ≤ 1280 from ⟨by omega, by omega⟩)
                have hF15 : ai_fr (sx_W vw_192) S0 (sm_pI S 10 0 8 ((S.1 10 0 8) + 1)) := ai_fr_tr hF (ai_fr_pI rfl)
                refine sm_T_go 2 (c1 := (2, [some (.inr (.inr (some (10, 0)))), some (.inl c), some (.inl (S.2.2.1 98 0 (S.1 10 0 8).toNat))], [], sm_pI S 10 0 8 ((S.1 10 0 8) + 1))) rfl ?_
                refine sm_T_wk [some (.inr (.inr (some (10, 0)))), some (.inl c), none] (by exact ⟨rfl, rfl, trivial⟩) ?_
                refine ih c (sm_pI S 10 0 8 ((S.1 10 0 8) + 1)) hI14 hF15 ⟨?_, ?_, trivial⟩ ?_
                · omega
                · refine ⟨q + 1, ?_, by omega, ?_⟩
                  · (try simp only [rd_eq, rd_ne, rf_eq, rf_nk, rf_nt, rd_fa, rd_af, rd_fl, rd_al, rd_lf, rd_la, rd_leq, rd_lne, rd_fr, rd_ar, ne_eq, Nat.reduceEqDiff, not_false_eq_true]); push_cast; omega
                  · rw [lx_s_go (by omega)] at h2
                    have e : (S.1 10 0 8).toNat = q := by omega
                    rw [e, hb1] at *
                    simp_all
                · (try simp only [rd_eq, rd_ne, rf_eq, rf_nk, rf_nt, rd_fa, rd_af, rd_fl, rd_al, rd_lf, rd_la, rd_leq, rd_lne, rd_fr, rd_ar, ne_eq, Nat.reduceEqDiff, not_false_eq_true]); omega
              · have c13 : ¬ ((S.2.2.1 98 0 (S.1 10 0 8).toNat) = 13) := of_decide_eq_false c13
                refine sm_T_go 2 (c1 := (64, [some (.inr (.inr (some (10, 0)))), some (.inl c), some (.inl (S.2.2.1 98 0 (S.1 10 0 8).toNat))], [.inl 32, .inl (S.2.2.1 98 0 (S.1 10 0 8).toNat)], S)) rfl ?_
                refine sm_T_br (a := 0) (z := 4) rfl (fun c16 => ?_) (fun c16 => ?_)
                · have c16 : (S.2.2.1 98 0 (S.1 10 0 8).toNat) = 32 := of_decide_eq_true c16
                  refine sm_T_go 4 (c1 := (74, [some (.inr (.inr (some (10, 0)))), some (.inl c), some (.inl (S.2.2.1 98 0 (S.1 10 0 8).toNat))], [.inl 1, .inl (S.1 10 0 8), .inr (.inr (some (10, 0)))], S)) rfl ?_
                  refine sm_T_bin (w := (S.1 10 0 8) + 1) rfl (bi_add (by omega) (by omega) (by omega)) ?_
                  have hI17 : gi (sm_pI S 10 0 8 ((S.1 10 0 8) + 1)) := gi_pI hI (show 0 ≤ (S.1 10 0 8) + 1 ∧ (S.1 10 0 8) + 1 ≤ 1280 from ⟨by omega, by omega⟩)
                  have hF18 : ai_fr (sx_W vw_192) S0 (sm_pI S 10 0 8 ((S.1 10 0 8) + 1)) := ai_fr_tr hF (ai_fr_pI rfl)
                  refine sm_T_go 2 (c1 := (2, [some (.inr (.inr (some (10, 0)))), some (.inl c), some (.inl (S.2.2.1 98 0 (S.1 10 0 8).toNat))], [], sm_pI S 10 0 8 ((S.1 10 0 8) + 1))) rfl ?_
                  refine sm_T_wk [some (.inr (.inr (some (10, 0)))), some (.inl c), none] (by exact ⟨rfl, rfl, trivial⟩) ?_
                  refine ih c (sm_pI S 10 0 8 ((S.1 10 0 8) + 1)) hI17 hF18 ⟨?_, ?_, trivial⟩ ?_
                  · omega
                  · refine ⟨q + 1, ?_, by omega, ?_⟩
                    · (try simp only [rd_eq, rd_ne, rf_eq, rf_nk, rf_nt, rd_fa, rd_af, rd_fl, rd_al, rd_lf, rd_la, rd_leq, rd_lne, rd_fr, rd_ar, ne_eq, Nat.reduceEqDiff, not_false_eq_true]); push_cast; omega
                    · rw [lx_s_go (by omega)] at h2
                      have e : (S.1 10 0 8).toNat = q := by omega
                      rw [e, hb1] at *
                      simp_all
                  · (try simp only [rd_eq, rd_ne, rf_eq, rf_nk, rf_nt, rd_fa, rd_af, rd_fl, rd_al, rd_lf, rd_la, rd_leq, rd_lne, rd_fr, rd_ar, ne_eq, Nat.reduceEqDiff, not_false_eq_true]); omega
                · have c16 : ¬ ((S.2.2.1 98 0 (S.1 10 0 8).toNat) = 32) := of_decide_eq_false c16
                  refine sm_T_rv rfl ⟨_, _, rfl, rfl, hI, hF, ?_⟩
                  have e : (S.1 10 0 8).toNat = q := by omega
                  rw [e, hb1] at *
                  rw [lx_s_go (by omega)] at h2
                  simp_all
        · have c6 : ¬ ((S.2.2.1 98 0 (S.1 10 0 8).toNat) ≠ 10) := of_decide_eq_false c6
          refine sm_T_go 7 (c1 := (74, [some (.inr (.inr (some (10, 0)))), some (.inl 0), some (.inl (S.2.2.1 98 0 (S.1 10 0 8).toNat))], [.inl 1, .inl (S.1 10 0 8), .inr (.inr (some (10, 0)))], S)) rfl ?_
          refine sm_T_bin (w := (S.1 10 0 8) + 1) rfl (bi_add (by omega) (by omega) (by omega)) ?_
          have hI19 : gi (sm_pI S 10 0 8 ((S.1 10 0 8) + 1)) := gi_pI hI (show 0 ≤ (S.1 10 0 8) + 1 ∧ (S.1 10 0 8) + 1 ≤ 1280 from ⟨by omega, by omega⟩)
          have hF20 : ai_fr (sx_W vw_192) S0 (sm_pI S 10 0 8 ((S.1 10 0 8) + 1)) := ai_fr_tr hF (ai_fr_pI rfl)
          refine sm_T_go 2 (c1 := (2, [some (.inr (.inr (some (10, 0)))), some (.inl 0), some (.inl (S.2.2.1 98 0 (S.1 10 0 8).toNat))], [], sm_pI S 10 0 8 ((S.1 10 0 8) + 1))) rfl ?_
          refine sm_T_wk [some (.inr (.inr (some (10, 0)))), some (.inl 0), none] (by exact ⟨rfl, rfl, trivial⟩) ?_
          refine ih 0 (sm_pI S 10 0 8 ((S.1 10 0 8) + 1)) hI19 hF20 ⟨?_, ?_, trivial⟩ ?_
          · omega
          · refine ⟨q + 1, ?_, by omega, ?_⟩
            · (try simp only [rd_eq, rd_ne, rf_eq, rf_nk, rf_nt, rd_fa, rd_af, rd_fl, rd_al, rd_lf, rd_la, rd_leq, rd_lne, rd_fr, rd_ar, ne_eq, Nat.reduceEqDiff, not_false_eq_true]); push_cast; omega
            · rw [lx_s_go (by omega)] at h2
              have e : (S.1 10 0 8).toNat = q := by omega
              rw [e, hb1] at *
              simp_all
          · (try simp only [rd_eq, rd_ne, rf_eq, rf_nk, rf_nt, rd_fa, rd_af, rd_fl, rd_al, rd_lf, rd_la, rd_leq, rd_lne, rd_fr, rd_ar, ne_eq, Nat.reduceEqDiff, not_false_eq_true]); omega
      · have c5 : ¬ ((S.2.2.1 98 0 (S.1 10 0 8).toNat) ≠ 35) := of_decide_eq_false c5
        refine sm_T_go 7 (c1 := (74, [some (.inr (.inr (some (10, 0)))), some (.inl 1), some (.inl (S.2.2.1 98 0 (S.1 10 0 8).toNat))], [.inl 1, .inl (S.1 10 0 8), .inr (.inr (some (10, 0)))], S)) rfl ?_
        refine sm_T_bin (w := (S.1 10 0 8) + 1) rfl (bi_add (by omega) (by omega) (by omega)) ?_
        have hI21 : gi (sm_pI S 10 0 8 ((S.1 10 0 8) + 1)) := gi_pI hI (show 0 ≤ (S.1 10 0 8) + 1 ∧ (S.1 10 0 8) + 1 ≤ 1280 from ⟨by omega, by omega⟩)
        have hF22 : ai_fr (sx_W vw_192) S0 (sm_pI S 10 0 8 ((S.1 10 0 8) + 1)) := ai_fr_tr hF (ai_fr_pI rfl)
        refine sm_T_go 2 (c1 := (2, [some (.inr (.inr (some (10, 0)))), some (.inl 1), some (.inl (S.2.2.1 98 0 (S.1 10 0 8).toNat))], [], sm_pI S 10 0 8 ((S.1 10 0 8) + 1))) rfl ?_
        refine sm_T_wk [some (.inr (.inr (some (10, 0)))), some (.inl 1), none] (by exact ⟨rfl, rfl, trivial⟩) ?_
        refine ih 1 (sm_pI S 10 0 8 ((S.1 10 0 8) + 1)) hI21 hF22 ⟨?_, ?_, trivial⟩ ?_
        · omega
        · refine ⟨q + 1, ?_, by omega, ?_⟩
          · (try simp only [rd_eq, rd_ne, rf_eq, rf_nk, rf_nt, rd_fa, rd_af, rd_fl, rd_al, rd_lf, rd_la, rd_leq, rd_lne, rd_fr, rd_ar, ne_eq, Nat.reduceEqDiff, not_false_eq_true]); push_cast; omega
          · rw [lx_s_go (by omega)] at h2
            have e : (S.1 10 0 8).toNat = q := by omega
            rw [e, hb1] at *
            simp_all
        · (try simp only [rd_eq, rd_ne, rf_eq, rf_nk, rf_nt, rd_fa, rd_af, rd_fl, rd_al, rd_lf, rd_la, rd_leq, rd_lne, rd_fr, rd_ar, ne_eq, Nat.reduceEqDiff, not_false_eq_true]); omega
theorem vc_192 {sc : Nat × (Nat → Int)} (b : Nat → Int) (n : Nat) (p : Nat) (S0 : sm_S) (hI : gi S0) (hb : S0.2.2.1 98 0 = b) (hn : (S0.1 10 0 1) = (n : Int)) (hn1 : n ≤ 1280) (hp : (S0.1 10 0 8) = (p : Int)) (hpn : p ≤ n) : sm_T (mt_P sc) 0 192 (0, [some (.inr (.inr (some (10, 0)))), none, none], [], S0) (fun r => ∃ u S1, r = (.inl u, S1, 0) ∧ vq_192 b n p S0 u S1) := by
  have hF : ai_fr (sx_W vw_192) S0 S0 := ai_fr_rf
  refine sm_T_go 2 (c1 := (2, [some (.inr (.inr (some (10, 0)))), some (.inl 0), none], [], S0)) rfl ?_
  refine (vl_192 b n p S0 hb hn hn1 hp hpn _) 0 S0 hI hF ⟨?_, ?_, trivial⟩ (Nat.lt_succ_self _)
  · omega
  · exact ⟨p, hp, hpn, rfl⟩
/-! Text.readName -/
def vw_193 : sx_Wl := ([(10, 2), (10, 4), (10, 8)], [], [])
def vq_193 (b : Nat → Int) (n : Nat) (p : Nat) (S0 : sm_S) (u : Option sm_V) (S1 : sm_S) : Prop := ∃ v : Int, u = some (.inl v) ∧ gi S1 ∧ ai_fr (sx_W vw_193) S0 S1 ∧ ((v = if lx_ne b n p - p ≤ 12 then 1 else 0) ∧ (S1.1 10 0 8) = (lx_ne b n p : Nat) ∧ (S1.1 10 0 4) = (lx_ne b n p - p : Nat) ∧ (S1.1 10 0 2) = lx_wk (lx_pk b p (lx_ne b n p - p)) 7)
theorem vl_193 {sc : Nat × (Nat → Int)} (b : Nat → Int) (n : Nat) (p : Nat) (S0 : sm_S) (hb : S0.2.2.1 98 0 = b) (hn : (S0.1 10 0 1) = (n : Int)) (hn1 : n ≤ 1280) (hp : (S0.1 10 0 8) = (p : Int)) (hpn : p ≤ n) (hz : (S0.1 10 0 4) = 0) : ∀ nn : Nat, (∀ (x : Int) (S : sm_S), gi S → ai_fr (sx_W vw_193) S0 S → ((∃ k : Nat, (S.1 10 0 8) = ((p + k : Nat) : Int) ∧ (S.1 10 0 4) = (k : Int) ∧ p + k ≤ n ∧ lx_ne b n (p + k) = lx_ne b n p ∧ x = lx_pk b p k) ∧ True) → (1400 - (S.1 10 0 8).toNat) < nn → sm_T (mt_P sc) 0 193 (2, [some (.inr (.inr (some (10, 0)))), some (.inr (.inl x)), none, none, none], [], S) (fun r => ∃ u S1, r = (.inl u, S1, 0) ∧ vq_193 b n p S0 u S1)) ∧ (∀ (x : Int) (k : Int) (S : sm_S), gi S → ai_fr (sx_W vw_193) S0 S → ((0 ≤ k ∧ k ≤ 7) ∧ ((S.1 10 0 8) = (lx_ne b n p : Nat) ∧ (S.1 10 0 4) = (lx_ne b n p - p : Nat) ∧ x = lx_pk b p (lx_ne b n p - p)) ∧ ((S.1 10 0 2) = lx_wk x k.toNat) ∧ True) → ((7 - k).toNat) < nn → sm_T (mt_P sc) 0 193 (125, [some (.inr (.inr (some (10, 0)))), some (.inr (.inl x)), none, some (.inl k), none], [], S) (fun r => ∃ u S1, r = (.inl u, S1, 0) ∧ vq_193 b n p S0 u S1)) := by
  intro nn
  induction nn with
  | zero => exact ⟨fun _ _ _ _ _ h => absurd h (Nat.not_lt_zero _), fun _ _ _ _ _ _ h => absurd h (Nat.not_lt_zero _)⟩
  | succ nn ih =>
    refine ⟨?_, ?_⟩
    · rintro x S hI hF ⟨h1, -⟩ hm
      have hb1 : S.2.2.1 98 0 = b := (fr_arr hF rfl).trans hb
      have hn2 : (S.1 10 0 1) = (n : Int) := (hF.1 10 0 1 rfl).trans hn
      obtain ⟨k, hq, hs, hqn, h2, h3⟩ := h1
      have e : (S.1 10 0 8).toNat = p + k := by omega
      have e9 : S.2.2.1 98 0 (S.1 10 0 8).toNat = b (p + k) := by rw [e, hb1]
      have b1 : 0 ≤ S.1 10 0 8 ∧ S.1 10 0 8 ≤ 1280 := hI.1 10 0 8 rfl
      have b2 : 0 ≤ S.1 10 0 1 ∧ S.1 10 0 1 ≤ 1280 := hI.1 10 0 1 rfl
      refine sm_T_go 4 (c1 := (10, [some (.inr (.inr (some (10, 0)))), some (.inr (.inl x)), none, none, none], [.inl (S.1 10 0 1), .inl (S.1 10 0 8)], S)) rfl ?_
      refine sm_T_br (a := 3) (z := 108) rfl (fun c3 => ?_) (fun c3 => ?_)
      · have c3 : (S.1 10 0 1) ≤ (S.1 10 0 8) := of_decide_eq_true c3
        have hI4 : gi (sm_pI S 10 0 2 1) := gi_pI hI (show (-128) ≤ 1 ∧ 1 ≤ 257 from ⟨by omega, by omega⟩)
        have hF5 : ai_fr (sx_W vw_193) S0 (sm_pI S 10 0 2 1) := ai_fr_tr hF (ai_fr_pI rfl)
        refine sm_T_go 5 (c1 := (125, [some (.inr (.inr (some (10, 0)))), some (.inr (.inl x)), none, some (.inl 0), none], [], sm_pI S 10 0 2 1)) rfl ?_
        refine ih.2 x 0 (sm_pI S 10 0 2 1) hI4 hF5 ⟨?_, ?_, ?_, trivial⟩ ?_
        · omega
        · have e4 : lx_ne b n p = p + k := by rw [← h2, lx_e_go]; exact if_neg (by omega)
          rw [e4]
          (try simp only [rd_eq, rd_ne, rf_eq, rf_nk, rf_nt, rd_fa, rd_af, rd_fl, rd_al, rd_lf, rd_la, rd_leq, rd_lne, rd_fr, rd_ar, ne_eq, Nat.reduceEqDiff, not_false_eq_true])
          refine ⟨by omega, by omega, ?_⟩
          rw [h3]; congr 1; omega
        · (try simp only [rd_eq, rd_ne, rf_eq, rf_nk, rf_nt, rd_fa, rd_af, rd_fl, rd_al, rd_lf, rd_la, rd_leq, rd_lne, rd_fr, rd_ar, ne_eq, Nat.reduceEqDiff, not_false_eq_true]); rfl
        · (try simp only [rd_eq, rd_ne, rf_eq, rf_nk, rf_nt, rd_fa, rd_af, rd_fl, rd_al, rd_lf, rd_la, rd_leq, rd_lne, rd_fr, rd_ar, ne_eq, Nat.reduceEqDiff, not_false_eq_true]); omega
      · have c3 : ¬ ((S.1 10 0 1) ≤ (S.1 10 0 8)) := of_decide_eq_false c3
        refine sm_T_go 4 (c1 := (21, [some (.inr (.inr (some (10, 0)))), some (.inr (.inl x)), none, none, none], [.inl (S.1 10 0 8), .inr (.inr (some (98, 0)))], S)) rfl ?_
        refine sm_T_bald (n := 65536) rfl rfl (by omega) (by omega) ?_
        have b6 : (-128) ≤ S.2.2.1 98 0 (S.1 10 0 8).toNat ∧ S.2.2.1 98 0 (S.1 10 0 8).toNat ≤ 127 := hI.2 98 0 _
        refine sm_T_go 3 (c1 := (26, [some (.inr (.inr (some (10, 0)))), some (.inr (.inl x)), none, some (.inl (S.2.2.1 98 0 (S.1 10 0 8).toNat)), none], [.inl 32, .inl (S.2.2.1 98 0 (S.1 10 0 8).toNat)], S)) rfl ?_
        refine sm_T_bin (w := (i_or (S.2.2.1 98 0 (S.1 10 0 8).toNat) 32)) rfl rfl ?_
        have b7 := lx_or (x := (S.2.2.1 98 0 (S.1 10 0 8).toNat)) (by omega) (by omega)
        refine sm_T_go 1 (c1 := (29, [some (.inr (.inr (some (10, 0)))), some (.inr (.inl x)), none, some (.inl (S.2.2.1 98 0 (S.1 10 0 8).toNat)), none], [.inl 97, .inl (i_or (S.2.2.1 98 0 (S.1 10 0 8).toNat) 32)], S)) rfl ?_
        refine sm_T_br (a := 2) (z := 12) rfl (fun c8 => ?_) (fun c8 => ?_)
        · have c8 : (i_or (S.2.2.1 98 0 (S.1 10 0 8).toNat) 32) < 97 := of_decide_eq_true c8
          refine sm_T_go 2 (c1 := (44, [some (.inr (.inr (some (10, 0)))), some (.inr (.inl x)), none, some (.inl (S.2.2.1 98 0 (S.1 10 0 8).toNat)), none], [.inl 95, .inl (S.2.2.1 98 0 (S.1 10 0 8).toNat)], S)) rfl ?_
          refine sm_T_br (a := 1) (z := 7) rfl (fun c9 => ?_) (fun c9 => ?_)
          · have c9 : (S.2.2.1 98 0 (S.1 10 0 8).toNat) ≠ 95 := of_decide_eq_true c9
            refine sm_T_go 6 (c1 := (62, [some (.inr (.inr (some (10, 0)))), some (.inr (.inl x)), none, some (.inl (S.2.2.1 98 0 (S.1 10 0 8).toNat)), some (.inl 0)], [.inl 48, .inl (S.2.2.1 98 0 (S.1 10 0 8).toNat)], S)) rfl ?_
            refine sm_T_br (a := 2) (z := 56) rfl (fun c10 => ?_) (fun c10 => ?_)
            · have c10 : (S.2.2.1 98 0 (S.1 10 0 8).toNat) < 48 := of_decide_eq_true c10
              have hI11 : gi (sm_pI S 10 0 2 1) := gi_pI hI (show (-128) ≤ 1 ∧ 1 ≤ 257 from ⟨by omega, by omega⟩)
              have hF12 : ai_fr (sx_W vw_193) S0 (sm_pI S 10 0 2 1) := ai_fr_tr hF (ai_fr_pI rfl)
              refine sm_T_go 5 (c1 := (125, [some (.inr (.inr (some (10, 0)))), some (.inr (.inl x)), none, some (.inl 0), some (.inl 0)], [], sm_pI S 10 0 2 1)) rfl ?_
              refine sm_T_wk [some (.inr (.inr (some (10, 0)))), some (.inr (.inl x)), none, some (.inl 0), none] (by exact ⟨rfl, rfl, rfl, trivial⟩) ?_
              refine ih.2 x 0 (sm_pI S 10 0 2 1) hI11 hF12 ⟨?_, ?_, ?_, trivial⟩ ?_
              · omega
              · have e4 : lx_ne b n p = p + k := by rw [← h2, lx_e_go]; exact if_neg (by omega)
                rw [e4]
                (try simp only [rd_eq, rd_ne, rf_eq, rf_nk, rf_nt, rd_fa, rd_af, rd_fl, rd_al, rd_lf, rd_la, rd_leq, rd_lne, rd_fr, rd_ar, ne_eq, Nat.reduceEqDiff, not_false_eq_true])
                refine ⟨by omega, by omega, ?_⟩
                rw [h3]; congr 1; omega
              · (try simp only [rd_eq, rd_ne, rf_eq, rf_nk, rf_nt, rd_fa, rd_af, rd_fl, rd_al, rd_lf, rd_la, rd_leq, rd_lne, rd_fr, rd_ar, ne_eq, Nat.reduceEqDiff, not_false_eq_true]); rfl
              · (try simp only [rd_eq, rd_ne, rf_eq, rf_nk, rf_nt, rd_fa, rd_af, rd_fl, rd_al, rd_lf, rd_la, rd_leq, rd_lne, rd_fr, rd_ar, ne_eq, Nat.reduceEqDiff, not_false_eq_true]); omega
            · have c10 : ¬ ((S.2.2.1 98 0 (S.1 10 0 8).toNat) < 48) := of_decide_eq_false c10
              refine sm_T_go 2 (c1 := (68, [some (.inr (.inr (some (10, 0)))), some (.inr (.inl x)), none, some (.inl (S.2.2.1 98 0 (S.1 10 0 8).toNat)), some (.inl 0)], [.inl 57, .inl (S.2.2.1 98 0 (S.1 10 0 8).toNat)], S)) rfl ?_
              refine sm_T_br (a := 5) (z := 6) rfl (fun c13 => ?_) (fun c13 => ?_)
              · have c13 : (S.2.2.1 98 0 (S.1 10 0 8).toNat) ≤ 57 := of_decide_eq_true c13
                have b14 : 0 ≤ S.1 10 0 4 ∧ S.1 10 0 4 ≤ 1280 := hI.1 10 0 4 rfl
                refine sm_T_go 3 (c1 := (80, [some (.inr (.inr (some (10, 0)))), some (.inr (.inl x)), none, some (.inl (S.2.2.1 98 0 (S.1 10 0 8).toNat)), some (.inl 0)], [.inl 8, .inl (S.1 10 0 4)], S)) rfl ?_
                refine sm_T_br (a := 3) (z := 13) rfl (fun c15 => ?_) (fun c15 => ?_)
                · have c15 : 8 ≤ (S.1 10 0 4) := of_decide_eq_true c15
                  refine sm_T_go 6 (c1 := (101, [some (.inr (.inr (some (10, 0)))), some (.inr (.inl 0)), none, some (.inl (S.2.2.1 98 0 (S.1 10 0 8).toNat)), some (.inl 0)], [.inl 1, .inl (S.1 10 0 4), .inr (.inr (some (10, 0)))], S)) rfl ?_
                  refine sm_T_bin (w := (S.1 10 0 4) + 1) rfl (bi_add (by omega) (by omega) (by omega)) ?_
                  have hI16 : gi (sm_pI S 10 0 4 ((S.1 10 0 4) + 1)) := gi_pI hI (show 0 ≤ (S.1 10 0 4) + 1 ∧ (S.1 10 0 4) + 1 ≤ 1280 from ⟨by omega, by omega⟩)
                  have hF17 : ai_fr (sx_W vw_193) S0 (sm_pI S 10 0 4 ((S.1 10 0 4) + 1)) := ai_fr_tr hF (ai_fr_pI rfl)
                  refine sm_T_go 5 (c1 := (111, [some (.inr (.inr (some (10, 0)))), some (.inr (.inl 0)), none, some (.inl (S.2.2.1 98 0 (S.1 10 0 8).toNat)), some (.inl 0)], [.inl 1, .inl (S.1 10 0 8), .inr (.inr (some (10, 0)))], sm_pI S 10 0 4 ((S.1 10 0 4) + 1))) rfl ?_
                  refine sm_T_bin (w := (S.1 10 0 8) + 1) rfl (bi_add (by omega) (by omega) (by omega)) ?_
                  have hI18 : gi (sm_pI (sm_pI S 10 0 4 ((S.1 10 0 4) + 1)) 10 0 8 ((S.1 10 0 8) + 1)) := gi_pI hI16 (show 0 ≤ (S.1 10 0 8) + 1 ∧ (S.1 10 0 8) + 1 ≤ 1280 from ⟨by omega, by omega⟩)
                  have hF19 : ai_fr (sx_W vw_193) S0 (sm_pI (sm_pI S 10 0 4 ((S.1 10 0 4) + 1)) 10 0 8 ((S.1 10 0 8) + 1)) := ai_fr_tr hF17 (ai_fr_pI rfl)
                  refine sm_T_go 2 (c1 := (2, [some (.inr (.inr (some (10, 0)))), some (.inr (.inl 0)), none, some (.inl (S.2.2.1 98 0 (S.1 10 0 8).toNat)), some (.inl 0)], [], sm_pI (sm_pI S 10 0 4 ((S.1 10 0 4) + 1)) 10 0 8 ((S.1 10 0 8) + 1))) rfl ?_
                  refine sm_T_wk [some (.inr (.inr (some (10, 0)))), some (.inr (.inl 0)), none, none, none] (by exact ⟨rfl, rfl, trivial⟩) ?_
                  refine ih.1 0 (sm_pI (sm_pI S 10 0 4 ((S.1 10 0 4) + 1)) 10 0 8 ((S.1 10 0 8) + 1)) hI18 hF19 ⟨?_, trivial⟩ ?_
                  · refine ⟨k + 1, ?_, ?_, by omega, ?_, ?_⟩
                    · (try simp only [rd_eq, rd_ne, rf_eq, rf_nk, rf_nt, rd_fa, rd_af, rd_fl, rd_al, rd_lf, rd_la, rd_leq, rd_lne, rd_fr, rd_ar, ne_eq, Nat.reduceEqDiff, not_false_eq_true]); push_cast; omega
                    · (try simp only [rd_eq, rd_ne, rf_eq, rf_nk, rf_nt, rd_fa, rd_af, rd_fl, rd_al, rd_lf, rd_la, rd_leq, rd_lne, rd_fr, rd_ar, ne_eq, Nat.reduceEqDiff, not_false_eq_true]); push_cast; omega
                    · rw [← h2, lx_e_go (p := p + k)]
                      rw [if_pos (by constructor; omega; omega)]; rfl
                    · unfold lx_pk; rw [← e9]; first | rw [if_pos (by omega), h3] | rw [if_neg (by omega)]
                  · (try simp only [rd_eq, rd_ne, rf_eq, rf_nk, rf_nt, rd_fa, rd_af, rd_fl, rd_al, rd_lf, rd_la, rd_leq, rd_lne, rd_fr, rd_ar, ne_eq, Nat.reduceEqDiff, not_false_eq_true]); omega
                · have c15 : ¬ (8 ≤ (S.1 10 0 4)) := of_decide_eq_false c15
                  refine sm_T_go 12 (c1 := (101, [some (.inr (.inr (some (10, 0)))), some (.inr (.inl (l_4 ((l_s0 x 7)) ((l_i2l (S.2.2.1 98 0 (S.1 10 0 8).toNat)))))), none, some (.inl (S.2.2.1 98 0 (S.1 10 0 8).toNat)), some (.inl 0)], [.inl 1, .inl (S.1 10 0 4), .inr (.inr (some (10, 0)))], S)) rfl ?_
                  refine sm_T_bin (w := (S.1 10 0 4) + 1) rfl (bi_add (by omega) (by omega) (by omega)) ?_
                  have hI20 : gi (sm_pI S 10 0 4 ((S.1 10 0 4) + 1)) := gi_pI hI (show 0 ≤ (S.1 10 0 4) + 1 ∧ (S.1 10 0 4) + 1 ≤ 1280 from ⟨by omega, by omega⟩)
                  have hF21 : ai_fr (sx_W vw_193) S0 (sm_pI S 10 0 4 ((S.1 10 0 4) + 1)) := ai_fr_tr hF (ai_fr_pI rfl)
                  refine sm_T_go 5 (c1 := (111, [some (.inr (.inr (some (10, 0)))), some (.inr (.inl (l_4 ((l_s0 x 7)) ((l_i2l (S.2.2.1 98 0 (S.1 10 0 8).toNat)))))), none, some (.inl (S.2.2.1 98 0 (S.1 10 0 8).toNat)), some (.inl 0)], [.inl 1, .inl (S.1 10 0 8), .inr (.inr (some (10, 0)))], sm_pI S 10 0 4 ((S.1 10 0 4) + 1))) rfl ?_
                  refine sm_T_bin (w := (S.1 10 0 8) + 1) rfl (bi_add (by omega) (by omega) (by omega)) ?_
                  have hI22 : gi (sm_pI (sm_pI S 10 0 4 ((S.1 10 0 4) + 1)) 10 0 8 ((S.1 10 0 8) + 1)) := gi_pI hI20 (show 0 ≤ (S.1 10 0 8) + 1 ∧ (S.1 10 0 8) + 1 ≤ 1280 from ⟨by omega, by omega⟩)
                  have hF23 : ai_fr (sx_W vw_193) S0 (sm_pI (sm_pI S 10 0 4 ((S.1 10 0 4) + 1)) 10 0 8 ((S.1 10 0 8) + 1)) := ai_fr_tr hF21 (ai_fr_pI rfl)
                  refine sm_T_go 2 (c1 := (2, [some (.inr (.inr (some (10, 0)))), some (.inr (.inl (l_4 ((l_s0 x 7)) ((l_i2l (S.2.2.1 98 0 (S.1 10 0 8).toNat)))))), none, some (.inl (S.2.2.1 98 0 (S.1 10 0 8).toNat)), some (.inl 0)], [], sm_pI (sm_pI S 10 0 4 ((S.1 10 0 4) + 1)) 10 0 8 ((S.1 10 0 8) + 1))) rfl ?_
                  refine sm_T_wk [some (.inr (.inr (some (10, 0)))), some (.inr (.inl (l_4 ((l_s0 x 7)) ((l_i2l (S.2.2.1 98 0 (S.1 10 0 8).toNat)))))), none, none, none] (by exact ⟨rfl, rfl, trivial⟩) ?_
                  refine ih.1 ((l_4 ((l_s0 x 7)) ((l_i2l (S.2.2.1 98 0 (S.1 10 0 8).toNat))))) (sm_pI (sm_pI S 10 0 4 ((S.1 10 0 4) + 1)) 10 0 8 ((S.1 10 0 8) + 1)) hI22 hF23 ⟨?_, trivial⟩ ?_
                  · refine ⟨k + 1, ?_, ?_, by omega, ?_, ?_⟩
                    · (try simp only [rd_eq, rd_ne, rf_eq, rf_nk, rf_nt, rd_fa, rd_af, rd_fl, rd_al, rd_lf, rd_la, rd_leq, rd_lne, rd_fr, rd_ar, ne_eq, Nat.reduceEqDiff, not_false_eq_true]); push_cast; omega
                    · (try simp only [rd_eq, rd_ne, rf_eq, rf_nk, rf_nt, rd_fa, rd_af, rd_fl, rd_al, rd_lf, rd_la, rd_leq, rd_lne, rd_fr, rd_ar, ne_eq, Nat.reduceEqDiff, not_false_eq_true]); push_cast; omega
                    · rw [← h2, lx_e_go (p := p + k)]
                      rw [if_pos (by constructor; omega; omega)]; rfl
                    · unfold lx_pk; rw [← e9]; first | rw [if_pos (by omega), h3] | rw [if_neg (by omega)]
                  · (try simp only [rd_eq, rd_ne, rf_eq, rf_nk, rf_nt, rd_fa, rd_af, rd_fl, rd_al, rd_lf, rd_la, rd_leq, rd_lne, rd_fr, rd_ar, ne_eq, Nat.reduceEqDiff, not_false_eq_true]); omega
              · have c13 : ¬ ((S.2.2.1 98 0 (S.1 10 0 8).toNat) ≤ 57) := of_decide_eq_false c13
                have hI24 : gi (sm_pI S 10 0 2 1) := gi_pI hI (show (-128) ≤ 1 ∧ 1 ≤ 257 from ⟨by omega, by omega⟩)
                have hF25 : ai_fr (sx_W vw_193) S0 (sm_pI S 10 0 2 1) := ai_fr_tr hF (ai_fr_pI rfl)
                refine sm_T_go 6 (c1 := (125, [some (.inr (.inr (some (10, 0)))), some (.inr (.inl x)), none, some (.inl 0), some (.inl 0)], [], sm_pI S 10 0 2 1)) rfl ?_
                refine sm_T_wk [some (.inr (.inr (some (10, 0)))), some (.inr (.inl x)), none, some (.inl 0), none] (by exact ⟨rfl, rfl, rfl, trivial⟩) ?_
                refine ih.2 x 0 (sm_pI S 10 0 2 1) hI24 hF25 ⟨?_, ?_, ?_, trivial⟩ ?_
                · omega
                · have e4 : lx_ne b n p = p + k := by rw [← h2, lx_e_go]; exact if_neg (by omega)
                  rw [e4]
                  (try simp only [rd_eq, rd_ne, rf_eq, rf_nk, rf_nt, rd_fa, rd_af, rd_fl, rd_al, rd_lf, rd_la, rd_leq, rd_lne, rd_fr, rd_ar, ne_eq, Nat.reduceEqDiff, not_false_eq_true])
                  refine ⟨by omega, by omega, ?_⟩
                  rw [h3]; congr 1; omega
                · (try simp only [rd_eq, rd_ne, rf_eq, rf_nk, rf_nt, rd_fa, rd_af, rd_fl, rd_al, rd_lf, rd_la, rd_leq, rd_lne, rd_fr, rd_ar, ne_eq, Nat.reduceEqDiff, not_false_eq_true]); rfl
                · (try simp only [rd_eq, rd_ne, rf_eq, rf_nk, rf_nt, rd_fa, rd_af, rd_fl, rd_al, rd_lf, rd_la, rd_leq, rd_lne, rd_fr, rd_ar, ne_eq, Nat.reduceEqDiff, not_false_eq_true]); omega
          · have c9 : ¬ ((S.2.2.1 98 0 (S.1 10 0 8).toNat) ≠ 95) := of_decide_eq_false c9
            have b26 : 0 ≤ S.1 10 0 4 ∧ S.1 10 0 4 ≤ 1280 := hI.1 10 0 4 rfl
            refine sm_T_go 8 (c1 := (80, [some (.inr (.inr (some (10, 0)))), some (.inr (.inl x)), none, some (.inl (S.2.2.1 98 0 (S.1 10 0 8).toNat)), some (.inl 1)], [.inl 8, .inl (S.1 10 0 4)], S)) rfl ?_
            refine sm_T_br (a := 3) (z := 13) rfl (fun c27 => ?_) (fun c27 => ?_)
            · have c27 : 8 ≤ (S.1 10 0 4) := of_decide_eq_true c27
              refine sm_T_go 6 (c1 := (101, [some (.inr (.inr (some (10, 0)))), some (.inr (.inl 0)), none, some (.inl (S.2.2.1 98 0 (S.1 10 0 8).toNat)), some (.inl 1)], [.inl 1, .inl (S.1 10 0 4), .inr (.inr (some (10, 0)))], S)) rfl ?_
              refine sm_T_bin (w := (S.1 10 0 4) + 1) rfl (bi_add (by omega) (by omega) (by omega)) ?_
              have hI28 : gi (sm_pI S 10 0 4 ((S.1 10 0 4) + 1)) := gi_pI hI (show 0 ≤ (S.1 10 0 4) + 1 ∧ (S.1 10 0 4) + 1 ≤ 1280 from ⟨by omega, by omega⟩)
              have hF29 : ai_fr (sx_W vw_193) S0 (sm_pI S 10 0 4 ((S.1 10 0 4) + 1)) := ai_fr_tr hF (ai_fr_pI rfl)
              refine sm_T_go 5 (c1 := (111, [some (.inr (.inr (some (10, 0)))), some (.inr (.inl 0)), none, some (.inl (S.2.2.1 98 0 (S.1 10 0 8).toNat)), some (.inl 1)], [.inl 1, .inl (S.1 10 0 8), .inr (.inr (some (10, 0)))], sm_pI S 10 0 4 ((S.1 10 0 4) + 1))) rfl ?_
              refine sm_T_bin (w := (S.1 10 0 8) + 1) rfl (bi_add (by omega) (by omega) (by omega)) ?_
              have hI30 : gi (sm_pI (sm_pI S 10 0 4 ((S.1 10 0 4) + 1)) 10 0 8 ((S.1 10 0 8) + 1)) := gi_pI hI28 (show 0 ≤ (S.1 10 0 8) + 1 ∧ (S.1 10 0 8) + 1 ≤ 1280 from ⟨by omega, by omega⟩)
              have hF31 : ai_fr (sx_W vw_193) S0 (sm_pI (sm_pI S 10 0 4 ((S.1 10 0 4) + 1)) 10 0 8 ((S.1 10 0 8) + 1)) := ai_fr_tr hF29 (ai_fr_pI rfl)
              refine sm_T_go 2 (c1 := (2, [some (.inr (.inr (some (10, 0)))), some (.inr (.inl 0)), none, some (.inl (S.2.2.1 98 0 (S.1 10 0 8).toNat)), some (.inl 1)], [], sm_pI (sm_pI S 10 0 4 ((S.1 10 0 4) + 1)) 10 0 8 ((S.1 10 0 8) + 1))) rfl ?_
              refine sm_T_wk [some (.inr (.inr (some (10, 0)))), some (.inr (.inl 0)), none, none, none] (by exact ⟨rfl, rfl, trivial⟩) ?_
              refine ih.1 0 (sm_pI (sm_pI S 10 0 4 ((S.1 10 0 4) + 1)) 10 0 8 ((S.1 10 0 8) + 1)) hI30 hF31 ⟨?_, trivial⟩ ?_
              · refine ⟨k + 1, ?_, ?_, by omega, ?_, ?_⟩
                · (try simp only [rd_eq, rd_ne, rf_eq, rf_nk, rf_nt, rd_fa, rd_af, rd_fl, rd_al, rd_lf, rd_la, rd_leq, rd_lne, rd_fr, rd_ar, ne_eq, Nat.reduceEqDiff, not_false_eq_true]); push_cast; omega
                · (try simp only [rd_eq, rd_ne, rf_eq, rf_nk, rf_nt, rd_fa, rd_af, rd_fl, rd_al, rd_lf, rd_la, rd_leq, rd_lne, rd_fr, rd_ar, ne_eq, Nat.reduceEqDiff, not_false_eq_true]); push_cast; omega
                · rw [← h2, lx_e_go (p := p + k)]
                  rw [if_pos (by constructor; omega; omega)]; rfl
                · unfold lx_pk; rw [← e9]; first | rw [if_pos (by omega), h3] | rw [if_neg (by omega)]
              · (try simp only [rd_eq, rd_ne, rf_eq, rf_nk, rf_nt, rd_fa, rd_af, rd_fl, rd_al, rd_lf, rd_la, rd_leq, rd_lne, rd_fr, rd_ar, ne_eq, Nat.reduceEqDiff, not_false_eq_true]); omega
            · have c27 : ¬ (8 ≤ (S.1 10 0 4)) := of_decide_eq_false c27
              refine sm_T_go 12 (c1 := (101, [some (.inr (.inr (some (10, 0)))), some (.inr (.inl (l_4 ((l_s0 x 7)) ((l_i2l (S.2.2.1 98 0 (S.1 10 0 8).toNat)))))), none, some (.inl (S.2.2.1 98 0 (S.1 10 0 8).toNat)), some (.inl 1)], [.inl 1, .inl (S.1 10 0 4), .inr (.inr (some (10, 0)))], S)) rfl ?_
              refine sm_T_bin (w := (S.1 10 0 4) + 1) rfl (bi_add (by omega) (by omega) (by omega)) ?_
              have hI32 : gi (sm_pI S 10 0 4 ((S.1 10 0 4) + 1)) := gi_pI hI (show 0 ≤ (S.1 10 0 4) + 1 ∧ (S.1 10 0 4) + 1 ≤ 1280 from ⟨by omega, by omega⟩)
              have hF33 : ai_fr (sx_W vw_193) S0 (sm_pI S 10 0 4 ((S.1 10 0 4) + 1)) := ai_fr_tr hF (ai_fr_pI rfl)
              refine sm_T_go 5 (c1 := (111, [some (.inr (.inr (some (10, 0)))), some (.inr (.inl (l_4 ((l_s0 x 7)) ((l_i2l (S.2.2.1 98 0 (S.1 10 0 8).toNat)))))), none, some (.inl (S.2.2.1 98 0 (S.1 10 0 8).toNat)), some (.inl 1)], [.inl 1, .inl (S.1 10 0 8), .inr (.inr (some (10, 0)))], sm_pI S 10 0 4 ((S.1 10 0 4) + 1))) rfl ?_
              refine sm_T_bin (w := (S.1 10 0 8) + 1) rfl (bi_add (by omega) (by omega) (by omega)) ?_
              have hI34 : gi (sm_pI (sm_pI S 10 0 4 ((S.1 10 0 4) + 1)) 10 0 8 ((S.1 10 0 8) + 1)) := gi_pI hI32 (show 0 ≤ (S.1 10 0 8) + 1 ∧ (S.1 10 0 8) + 1 ≤ 1280 from ⟨by omega, by omega⟩)
              have hF35 : ai_fr (sx_W vw_193) S0 (sm_pI (sm_pI S 10 0 4 ((S.1 10 0 4) + 1)) 10 0 8 ((S.1 10 0 8) + 1)) := ai_fr_tr hF33 (ai_fr_pI rfl)
              refine sm_T_go 2 (c1 := (2, [some (.inr (.inr (some (10, 0)))), some (.inr (.inl (l_4 ((l_s0 x 7)) ((l_i2l (S.2.2.1 98 0 (S.1 10 0 8).toNat)))))), none, some (.inl (S.2.2.1 98 0 (S.1 10 0 8).toNat)), some (.inl 1)], [], sm_pI (sm_pI S 10 0 4 ((S.1 10 0 4) + 1)) 10 0 8 ((S.1 10 0 8) + 1))) rfl ?_
              refine sm_T_wk [some (.inr (.inr (some (10, 0)))), some (.inr (.inl (l_4 ((l_s0 x 7)) ((l_i2l (S.2.2.1 98 0 (S.1 10 0 8).toNat)))))), none, none, none] (by exact ⟨rfl, rfl, trivial⟩) ?_
              refine ih.1 ((l_4 ((l_s0 x 7)) ((l_i2l (S.2.2.1 98 0 (S.1 10 0 8).toNat))))) (sm_pI (sm_pI S 10 0 4 ((S.1 10 0 4) + 1)) 10 0 8 ((S.1 10 0 8) + 1)) hI34 hF35 ⟨?_, trivial⟩ ?_
              · refine ⟨k + 1, ?_, ?_, by omega, ?_, ?_⟩
                · (try simp only [rd_eq, rd_ne, rf_eq, rf_nk, rf_nt, rd_fa, rd_af, rd_fl, rd_al, rd_lf, rd_la, rd_leq, rd_lne, rd_fr, rd_ar, ne_eq, Nat.reduceEqDiff, not_false_eq_true]); push_cast; omega
                · (try simp only [rd_eq, rd_ne, rf_eq, rf_nk, rf_nt, rd_fa, rd_af, rd_fl, rd_al, rd_lf, rd_la, rd_leq, rd_lne, rd_fr, rd_ar, ne_eq, Nat.reduceEqDiff, not_false_eq_true]); push_cast; omega
                · rw [← h2, lx_e_go (p := p + k)]
                  rw [if_pos (by constructor; omega; omega)]; rfl
                · unfold lx_pk; rw [← e9]; first | rw [if_pos (by omega), h3] | rw [if_neg (by omega)]
              · (try simp only [rd_eq, rd_ne, rf_eq, rf_nk, rf_nt, rd_fa, rd_af, rd_fl, rd_al, rd_lf, rd_la, rd_leq, rd_lne, rd_fr, rd_ar, ne_eq, Nat.reduceEqDiff, not_false_eq_true]); omega
        · have c8 : ¬ ((i_or (S.2.2.1 98 0 (S.1 10 0 8).toNat) 32) < 97) := of_decide_eq_false c8
          refine sm_T_go 2 (c1 := (35, [some (.inr (.inr (some (10, 0)))), some (.inr (.inl x)), none, some (.inl (S.2.2.1 98 0 (S.1 10 0 8).toNat)), none], [.inl 32, .inl (S.2.2.1 98 0 (S.1 10 0 8).toNat)], S)) rfl ?_
          refine sm_T_bin (w := (i_or (S.2.2.1 98 0 (S.1 10 0 8).toNat) 32)) rfl rfl ?_
          have b36 := lx_or (x := (S.2.2.1 98 0 (S.1 10 0 8).toNat)) (by omega) (by omega)
          refine sm_T_go 1 (c1 := (38, [some (.inr (.inr (some (10, 0)))), some (.inr (.inl x)), none, some (.inl (S.2.2.1 98 0 (S.1 10 0 8).toNat)), none], [.inl 122, .inl (i_or (S.2.2.1 98 0 (S.1 10 0 8).toNat) 32)], S)) rfl ?_
          refine sm_T_br (a := 5) (z := 9) rfl (fun c37 => ?_) (fun c37 => ?_)
          · have c37 : (i_or (S.2.2.1 98 0 (S.1 10 0 8).toNat) 32) ≤ 122 := of_decide_eq_true c37
            have b38 : 0 ≤ S.1 10 0 4 ∧ S.1 10 0 4 ≤ 1280 := hI.1 10 0 4 rfl
            refine sm_T_go 8 (c1 := (80, [some (.inr (.inr (some (10, 0)))), some (.inr (.inl x)), none, some (.inl (S.2.2.1 98 0 (S.1 10 0 8).toNat)), some (.inl 1)], [.inl 8, .inl (S.1 10 0 4)], S)) rfl ?_
            refine sm_T_br (a := 3) (z := 13) rfl (fun c39 => ?_) (fun c39 => ?_)
            · have c39 : 8 ≤ (S.1 10 0 4) := of_decide_eq_true c39
              refine sm_T_go 6 (c1 := (101, [some (.inr (.inr (some (10, 0)))), some (.inr (.inl 0)), none, some (.inl (S.2.2.1 98 0 (S.1 10 0 8).toNat)), some (.inl 1)], [.inl 1, .inl (S.1 10 0 4), .inr (.inr (some (10, 0)))], S)) rfl ?_
              refine sm_T_bin (w := (S.1 10 0 4) + 1) rfl (bi_add (by omega) (by omega) (by omega)) ?_
              have hI40 : gi (sm_pI S 10 0 4 ((S.1 10 0 4) + 1)) := gi_pI hI (show 0 ≤ (S.1 10 0 4) + 1 ∧ (S.1 10 0 4) + 1 ≤ 1280 from ⟨by omega, by omega⟩)
              have hF41 : ai_fr (sx_W vw_193) S0 (sm_pI S 10 0 4 ((S.1 10 0 4) + 1)) := ai_fr_tr hF (ai_fr_pI rfl)
              refine sm_T_go 5 (c1 := (111, [some (.inr (.inr (some (10, 0)))), some (.inr (.inl 0)), none, some (.inl (S.2.2.1 98 0 (S.1 10 0 8).toNat)), some (.inl 1)], [.inl 1, .inl (S.1 10 0 8), .inr (.inr (some (10, 0)))], sm_pI S 10 0 4 ((S.1 10 0 4) + 1))) rfl ?_
              refine sm_T_bin (w := (S.1 10 0 8) + 1) rfl (bi_add (by omega) (by omega) (by omega)) ?_
              have hI42 : gi (sm_pI (sm_pI S 10 0 4 ((S.1 10 0 4) + 1)) 10 0 8 ((S.1 10 0 8) + 1)) := gi_pI hI40 (show 0 ≤ (S.1 10 0 8) + 1 ∧ (S.1 10 0 8) + 1 ≤ 1280 from ⟨by omega, by omega⟩)
              have hF43 : ai_fr (sx_W vw_193) S0 (sm_pI (sm_pI S 10 0 4 ((S.1 10 0 4) + 1)) 10 0 8 ((S.1 10 0 8) + 1)) := ai_fr_tr hF41 (ai_fr_pI rfl)
              refine sm_T_go 2 (c1 := (2, [some (.inr (.inr (some (10, 0)))), some (.inr (.inl 0)), none, some (.inl (S.2.2.1 98 0 (S.1 10 0 8).toNat)), some (.inl 1)], [], sm_pI (sm_pI S 10 0 4 ((S.1 10 0 4) + 1)) 10 0 8 ((S.1 10 0 8) + 1))) rfl ?_
              refine sm_T_wk [some (.inr (.inr (some (10, 0)))), some (.inr (.inl 0)), none, none, none] (by exact ⟨rfl, rfl, trivial⟩) ?_
              refine ih.1 0 (sm_pI (sm_pI S 10 0 4 ((S.1 10 0 4) + 1)) 10 0 8 ((S.1 10 0 8) + 1)) hI42 hF43 ⟨?_, trivial⟩ ?_
              · refine ⟨k + 1, ?_, ?_, by omega, ?_, ?_⟩
                · (try simp only [rd_eq, rd_ne, rf_eq, rf_nk, rf_nt, rd_fa, rd_af, rd_fl, rd_al, rd_lf, rd_la, rd_leq, rd_lne, rd_fr, rd_ar, ne_eq, Nat.reduceEqDiff, not_false_eq_true]); push_cast; omega
                · (try simp only [rd_eq, rd_ne, rf_eq, rf_nk, rf_nt, rd_fa, rd_af, rd_fl, rd_al, rd_lf, rd_la, rd_leq, rd_lne, rd_fr, rd_ar, ne_eq, Nat.reduceEqDiff, not_false_eq_true]); push_cast; omega
                · rw [← h2, lx_e_go (p := p + k)]
                  rw [if_pos (by constructor; omega; omega)]; rfl
                · unfold lx_pk; rw [← e9]; first | rw [if_pos (by omega), h3] | rw [if_neg (by omega)]
              · (try simp only [rd_eq, rd_ne, rf_eq, rf_nk, rf_nt, rd_fa, rd_af, rd_fl, rd_al, rd_lf, rd_la, rd_leq, rd_lne, rd_fr, rd_ar, ne_eq, Nat.reduceEqDiff, not_false_eq_true]); omega
            · have c39 : ¬ (8 ≤ (S.1 10 0 4)) := of_decide_eq_false c39
              refine sm_T_go 12 (c1 := (101, [some (.inr (.inr (some (10, 0)))), some (.inr (.inl (l_4 ((l_s0 x 7)) ((l_i2l (S.2.2.1 98 0 (S.1 10 0 8).toNat)))))), none, some (.inl (S.2.2.1 98 0 (S.1 10 0 8).toNat)), some (.inl 1)], [.inl 1, .inl (S.1 10 0 4), .inr (.inr (some (10, 0)))], S)) rfl ?_
              refine sm_T_bin (w := (S.1 10 0 4) + 1) rfl (bi_add (by omega) (by omega) (by omega)) ?_
              have hI44 : gi (sm_pI S 10 0 4 ((S.1 10 0 4) + 1)) := gi_pI hI (show 0 ≤ (S.1 10 0 4) + 1 ∧ (S.1 10 0 4) + 1 ≤ 1280 from ⟨by omega, by omega⟩)
              have hF45 : ai_fr (sx_W vw_193) S0 (sm_pI S 10 0 4 ((S.1 10 0 4) + 1)) := ai_fr_tr hF (ai_fr_pI rfl)
              refine sm_T_go 5 (c1 := (111, [some (.inr (.inr (some (10, 0)))), some (.inr (.inl (l_4 ((l_s0 x 7)) ((l_i2l (S.2.2.1 98 0 (S.1 10 0 8).toNat)))))), none, some (.inl (S.2.2.1 98 0 (S.1 10 0 8).toNat)), some (.inl 1)], [.inl 1, .inl (S.1 10 0 8), .inr (.inr (some (10, 0)))], sm_pI S 10 0 4 ((S.1 10 0 4) + 1))) rfl ?_
              refine sm_T_bin (w := (S.1 10 0 8) + 1) rfl (bi_add (by omega) (by omega) (by omega)) ?_
              have hI46 : gi (sm_pI (sm_pI S 10 0 4 ((S.1 10 0 4) + 1)) 10 0 8 ((S.1 10 0 8) + 1)) := gi_pI hI44 (show 0 ≤ (S.1 10 0 8) + 1 ∧ (S.1 10 0 8) + 1 ≤ 1280 from ⟨by omega, by omega⟩)
              have hF47 : ai_fr (sx_W vw_193) S0 (sm_pI (sm_pI S 10 0 4 ((S.1 10 0 4) + 1)) 10 0 8 ((S.1 10 0 8) + 1)) := ai_fr_tr hF45 (ai_fr_pI rfl)
              refine sm_T_go 2 (c1 := (2, [some (.inr (.inr (some (10, 0)))), some (.inr (.inl (l_4 ((l_s0 x 7)) ((l_i2l (S.2.2.1 98 0 (S.1 10 0 8).toNat)))))), none, some (.inl (S.2.2.1 98 0 (S.1 10 0 8).toNat)), some (.inl 1)], [], sm_pI (sm_pI S 10 0 4 ((S.1 10 0 4) + 1)) 10 0 8 ((S.1 10 0 8) + 1))) rfl ?_
              refine sm_T_wk [some (.inr (.inr (some (10, 0)))), some (.inr (.inl (l_4 ((l_s0 x 7)) ((l_i2l (S.2.2.1 98 0 (S.1 10 0 8).toNat)))))), none, none, none] (by exact ⟨rfl, rfl, trivial⟩) ?_
              refine ih.1 ((l_4 ((l_s0 x 7)) ((l_i2l (S.2.2.1 98 0 (S.1 10 0 8).toNat))))) (sm_pI (sm_pI S 10 0 4 ((S.1 10 0 4) + 1)) 10 0 8 ((S.1 10 0 8) + 1)) hI46 hF47 ⟨?_, trivial⟩ ?_
              · refine ⟨k + 1, ?_, ?_, by omega, ?_, ?_⟩
                · (try simp only [rd_eq, rd_ne, rf_eq, rf_nk, rf_nt, rd_fa, rd_af, rd_fl, rd_al, rd_lf, rd_la, rd_leq, rd_lne, rd_fr, rd_ar, ne_eq, Nat.reduceEqDiff, not_false_eq_true]); push_cast; omega
                · (try simp only [rd_eq, rd_ne, rf_eq, rf_nk, rf_nt, rd_fa, rd_af, rd_fl, rd_al, rd_lf, rd_la, rd_leq, rd_lne, rd_fr, rd_ar, ne_eq, Nat.reduceEqDiff, not_false_eq_true]); push_cast; omega
                · rw [← h2, lx_e_go (p := p + k)]
                  rw [if_pos (by constructor; omega; omega)]; rfl
                · unfold lx_pk; rw [← e9]; first | rw [if_pos (by omega), h3] | rw [if_neg (by omega)]
              · (try simp only [rd_eq, rd_ne, rf_eq, rf_nk, rf_nt, rd_fa, rd_af, rd_fl, rd_al, rd_lf, rd_la, rd_leq, rd_lne, rd_fr, rd_ar, ne_eq, Nat.reduceEqDiff, not_false_eq_true]); omega
          · have c37 : ¬ ((i_or (S.2.2.1 98 0 (S.1 10 0 8).toNat) 32) ≤ 122) := of_decide_eq_false c37
            refine sm_T_go 2 (c1 := (44, [some (.inr (.inr (some (10, 0)))), some (.inr (.inl x)), none, some (.inl (S.2.2.1 98 0 (S.1 10 0 8).toNat)), none], [.inl 95, .inl (S.2.2.1 98 0 (S.1 10 0 8).toNat)], S)) rfl ?_
            refine sm_T_br (a := 1) (z := 7) rfl (fun c48 => ?_) (fun c48 => ?_)
            · have c48 : (S.2.2.1 98 0 (S.1 10 0 8).toNat) ≠ 95 := of_decide_eq_true c48
              refine sm_T_go 6 (c1 := (62, [some (.inr (.inr (some (10, 0)))), some (.inr (.inl x)), none, some (.inl (S.2.2.1 98 0 (S.1 10 0 8).toNat)), some (.inl 0)], [.inl 48, .inl (S.2.2.1 98 0 (S.1 10 0 8).toNat)], S)) rfl ?_
              refine sm_T_br (a := 2) (z := 56) rfl (fun c49 => ?_) (fun c49 => ?_)
              · have c49 : (S.2.2.1 98 0 (S.1 10 0 8).toNat) < 48 := of_decide_eq_true c49
                have hI50 : gi (sm_pI S 10 0 2 1) := gi_pI hI (show (-128) ≤ 1 ∧ 1 ≤ 257 from ⟨by omega, by omega⟩)
                have hF51 : ai_fr (sx_W vw_193) S0 (sm_pI S 10 0 2 1) := ai_fr_tr hF (ai_fr_pI rfl)
                refine sm_T_go 5 (c1 := (125, [some (.inr (.inr (some (10, 0)))), some (.inr (.inl x)), none, some (.inl 0), some (.inl 0)], [], sm_pI S 10 0 2 1)) rfl ?_
                refine sm_T_wk [some (.inr (.inr (some (10, 0)))), some (.inr (.inl x)), none, some (.inl 0), none] (by exact ⟨rfl, rfl, rfl, trivial⟩) ?_
                refine ih.2 x 0 (sm_pI S 10 0 2 1) hI50 hF51 ⟨?_, ?_, ?_, trivial⟩ ?_
                · omega
                · have e4 : lx_ne b n p = p + k := by rw [← h2, lx_e_go]; exact if_neg (by omega)
                  rw [e4]
                  (try simp only [rd_eq, rd_ne, rf_eq, rf_nk, rf_nt, rd_fa, rd_af, rd_fl, rd_al, rd_lf, rd_la, rd_leq, rd_lne, rd_fr, rd_ar, ne_eq, Nat.reduceEqDiff, not_false_eq_true])
                  refine ⟨by omega, by omega, ?_⟩
                  rw [h3]; congr 1; omega
                · (try simp only [rd_eq, rd_ne, rf_eq, rf_nk, rf_nt, rd_fa, rd_af, rd_fl, rd_al, rd_lf, rd_la, rd_leq, rd_lne, rd_fr, rd_ar, ne_eq, Nat.reduceEqDiff, not_false_eq_true]); rfl
                · (try simp only [rd_eq, rd_ne, rf_eq, rf_nk, rf_nt, rd_fa, rd_af, rd_fl, rd_al, rd_lf, rd_la, rd_leq, rd_lne, rd_fr, rd_ar, ne_eq, Nat.reduceEqDiff, not_false_eq_true]); omega
              · have c49 : ¬ ((S.2.2.1 98 0 (S.1 10 0 8).toNat) < 48) := of_decide_eq_false c49
                refine sm_T_go 2 (c1 := (68, [some (.inr (.inr (some (10, 0)))), some (.inr (.inl x)), none, some (.inl (S.2.2.1 98 0 (S.1 10 0 8).toNat)), some (.inl 0)], [.inl 57, .inl (S.2.2.1 98 0 (S.1 10 0 8).toNat)], S)) rfl ?_
                refine sm_T_br (a := 5) (z := 6) rfl (fun c52 => ?_) (fun c52 => ?_)
                · have c52 : (S.2.2.1 98 0 (S.1 10 0 8).toNat) ≤ 57 := of_decide_eq_true c52
                  have b53 : 0 ≤ S.1 10 0 4 ∧ S.1 10 0 4 ≤ 1280 := hI.1 10 0 4 rfl
                  refine sm_T_go 3 (c1 := (80, [some (.inr (.inr (some (10, 0)))), some (.inr (.inl x)), none, some (.inl (S.2.2.1 98 0 (S.1 10 0 8).toNat)), some (.inl 0)], [.inl 8, .inl (S.1 10 0 4)], S)) rfl ?_
                  refine sm_T_br (a := 3) (z := 13) rfl (fun c54 => ?_) (fun c54 => ?_)
                  · have c54 : 8 ≤ (S.1 10 0 4) := of_decide_eq_true c54
                    refine sm_T_go 6 (c1 := (101, [some (.inr (.inr (some (10, 0)))), some (.inr (.inl 0)), none, some (.inl (S.2.2.1 98 0 (S.1 10 0 8).toNat)), some (.inl 0)], [.inl 1, .inl (S.1 10 0 4), .inr (.inr (some (10, 0)))], S)) rfl ?_
                    refine sm_T_bin (w := (S.1 10 0 4) + 1) rfl (bi_add (by omega) (by omega) (by omega)) ?_
                    have hI55 : gi (sm_pI S 10 0 4 ((S.1 10 0 4) + 1)) := gi_pI hI (show 0 ≤ (S.1 10 0 4) + 1 ∧ (S.1 10 0 4) + 1 ≤ 1280 from ⟨by omega, by omega⟩)
                    have hF56 : ai_fr (sx_W vw_193) S0 (sm_pI S 10 0 4 ((S.1 10 0 4) + 1)) := ai_fr_tr hF (ai_fr_pI rfl)
                    refine sm_T_go 5 (c1 := (111, [some (.inr (.inr (some (10, 0)))), some (.inr (.inl 0)), none, some (.inl (S.2.2.1 98 0 (S.1 10 0 8).toNat)), some (.inl 0)], [.inl 1, .inl (S.1 10 0 8), .inr (.inr (some (10, 0)))], sm_pI S 10 0 4 ((S.1 10 0 4) + 1))) rfl ?_
                    refine sm_T_bin (w := (S.1 10 0 8) + 1) rfl (bi_add (by omega) (by omega) (by omega)) ?_
                    have hI57 : gi (sm_pI (sm_pI S 10 0 4 ((S.1 10 0 4) + 1)) 10 0 8 ((S.1 10 0 8) + 1)) := gi_pI hI55 (show 0 ≤ (S.1 10 0 8) + 1 ∧ (S.1 10 0 8) + 1 ≤ 1280 from ⟨by omega, by omega⟩)
                    have hF58 : ai_fr (sx_W vw_193) S0 (sm_pI (sm_pI S 10 0 4 ((S.1 10 0 4) + 1)) 10 0 8 ((S.1 10 0 8) + 1)) := ai_fr_tr hF56 (ai_fr_pI rfl)
                    refine sm_T_go 2 (c1 := (2, [some (.inr (.inr (some (10, 0)))), some (.inr (.inl 0)), none, some (.inl (S.2.2.1 98 0 (S.1 10 0 8).toNat)), some (.inl 0)], [], sm_pI (sm_pI S 10 0 4 ((S.1 10 0 4) + 1)) 10 0 8 ((S.1 10 0 8) + 1))) rfl ?_
                    refine sm_T_wk [some (.inr (.inr (some (10, 0)))), some (.inr (.inl 0)), none, none, none] (by exact ⟨rfl, rfl, trivial⟩) ?_
                    refine ih.1 0 (sm_pI (sm_pI S 10 0 4 ((S.1 10 0 4) + 1)) 10 0 8 ((S.1 10 0 8) + 1)) hI57 hF58 ⟨?_, trivial⟩ ?_
                    · refine ⟨k + 1, ?_, ?_, by omega, ?_, ?_⟩
                      · (try simp only [rd_eq, rd_ne, rf_eq, rf_nk, rf_nt, rd_fa, rd_af, rd_fl, rd_al, rd_lf, rd_la, rd_leq, rd_lne, rd_fr, rd_ar, ne_eq, Nat.reduceEqDiff, not_false_eq_true]); push_cast; omega
                      · (try simp only [rd_eq, rd_ne, rf_eq, rf_nk, rf_nt, rd_fa, rd_af, rd_fl, rd_al, rd_lf, rd_la, rd_leq, rd_lne, rd_fr, rd_ar, ne_eq, Nat.reduceEqDiff, not_false_eq_true]); push_cast; omega
                      · rw [← h2, lx_e_go (p := p + k)]
                        rw [if_pos (by constructor; omega; omega)]; rfl
                      · unfold lx_pk; rw [← e9]; first | rw [if_pos (by omega), h3] | rw [if_neg (by omega)]
                    · (try simp only [rd_eq, rd_ne, rf_eq, rf_nk, rf_nt, rd_fa, rd_af, rd_fl, rd_al, rd_lf, rd_la, rd_leq, rd_lne, rd_fr, rd_ar, ne_eq, Nat.reduceEqDiff, not_false_eq_true]); omega
                  · have c54 : ¬ (8 ≤ (S.1 10 0 4)) := of_decide_eq_false c54
                    refine sm_T_go 12 (c1 := (101, [some (.inr (.inr (some (10, 0)))), some (.inr (.inl (l_4 ((l_s0 x 7)) ((l_i2l (S.2.2.1 98 0 (S.1 10 0 8).toNat)))))), none, some (.inl (S.2.2.1 98 0 (S.1 10 0 8).toNat)), some (.inl 0)], [.inl 1, .inl (S.1 10 0 4), .inr (.inr (some (10, 0)))], S)) rfl ?_
                    refine sm_T_bin (w := (S.1 10 0 4) + 1) rfl (bi_add (by omega) (by omega) (by omega)) ?_
                    have hI59 : gi (sm_pI S 10 0 4 ((S.1 10 0 4) + 1)) := gi_pI hI (show 0 ≤ (S.1 10 0 4) + 1 ∧ (S.1 10 0 4) + 1 ≤ 1280 from ⟨by omega, by omega⟩)
                    have hF60 : ai_fr (sx_W vw_193) S0 (sm_pI S 10 0 4 ((S.1 10 0 4) + 1)) := ai_fr_tr hF (ai_fr_pI rfl)
                    refine sm_T_go 5 (c1 := (111, [some (.inr (.inr (some (10, 0)))), some (.inr (.inl (l_4 ((l_s0 x 7)) ((l_i2l (S.2.2.1 98 0 (S.1 10 0 8).toNat)))))), none, some (.inl (S.2.2.1 98 0 (S.1 10 0 8).toNat)), some (.inl 0)], [.inl 1, .inl (S.1 10 0 8), .inr (.inr (some (10, 0)))], sm_pI S 10 0 4 ((S.1 10 0 4) + 1))) rfl ?_
                    refine sm_T_bin (w := (S.1 10 0 8) + 1) rfl (bi_add (by omega) (by omega) (by omega)) ?_
                    have hI61 : gi (sm_pI (sm_pI S 10 0 4 ((S.1 10 0 4) + 1)) 10 0 8 ((S.1 10 0 8) + 1)) := gi_pI hI59 (show 0 ≤ (S.1 10 0 8) + 1 ∧ (S.1 10 0 8) + 1 ≤ 1280 from ⟨by omega, by omega⟩)
                    have hF62 : ai_fr (sx_W vw_193) S0 (sm_pI (sm_pI S 10 0 4 ((S.1 10 0 4) + 1)) 10 0 8 ((S.1 10 0 8) + 1)) := ai_fr_tr hF60 (ai_fr_pI rfl)
                    refine sm_T_go 2 (c1 := (2, [some (.inr (.inr (some (10, 0)))), some (.inr (.inl (l_4 ((l_s0 x 7)) ((l_i2l (S.2.2.1 98 0 (S.1 10 0 8).toNat)))))), none, some (.inl (S.2.2.1 98 0 (S.1 10 0 8).toNat)), some (.inl 0)], [], sm_pI (sm_pI S 10 0 4 ((S.1 10 0 4) + 1)) 10 0 8 ((S.1 10 0 8) + 1))) rfl ?_
                    refine sm_T_wk [some (.inr (.inr (some (10, 0)))), some (.inr (.inl (l_4 ((l_s0 x 7)) ((l_i2l (S.2.2.1 98 0 (S.1 10 0 8).toNat)))))), none, none, none] (by exact ⟨rfl, rfl, trivial⟩) ?_
                    refine ih.1 ((l_4 ((l_s0 x 7)) ((l_i2l (S.2.2.1 98 0 (S.1 10 0 8).toNat))))) (sm_pI (sm_pI S 10 0 4 ((S.1 10 0 4) + 1)) 10 0 8 ((S.1 10 0 8) + 1)) hI61 hF62 ⟨?_, trivial⟩ ?_
                    · refine ⟨k + 1, ?_, ?_, by omega, ?_, ?_⟩
                      · (try simp only [rd_eq, rd_ne, rf_eq, rf_nk, rf_nt, rd_fa, rd_af, rd_fl, rd_al, rd_lf, rd_la, rd_leq, rd_lne, rd_fr, rd_ar, ne_eq, Nat.reduceEqDiff, not_false_eq_true]); push_cast; omega
                      · (try simp only [rd_eq, rd_ne, rf_eq, rf_nk, rf_nt, rd_fa, rd_af, rd_fl, rd_al, rd_lf, rd_la, rd_leq, rd_lne, rd_fr, rd_ar, ne_eq, Nat.reduceEqDiff, not_false_eq_true]); push_cast; omega
                      · rw [← h2, lx_e_go (p := p + k)]
                        rw [if_pos (by constructor; omega; omega)]; rfl
                      · unfold lx_pk; rw [← e9]; first | rw [if_pos (by omega), h3] | rw [if_neg (by omega)]
                    · (try simp only [rd_eq, rd_ne, rf_eq, rf_nk, rf_nt, rd_fa, rd_af, rd_fl, rd_al, rd_lf, rd_la, rd_leq, rd_lne, rd_fr, rd_ar, ne_eq, Nat.reduceEqDiff, not_false_eq_true]); omega
                · have c52 : ¬ ((S.2.2.1 98 0 (S.1 10 0 8).toNat) ≤ 57) := of_decide_eq_false c52
                  have hI63 : gi (sm_pI S 10 0 2 1) := gi_pI hI (show (-128) ≤ 1 ∧ 1 ≤ 257 from ⟨by omega, by omega⟩)
                  have hF64 : ai_fr (sx_W vw_193) S0 (sm_pI S 10 0 2 1) := ai_fr_tr hF (ai_fr_pI rfl)
                  refine sm_T_go 6 (c1 := (125, [some (.inr (.inr (some (10, 0)))), some (.inr (.inl x)), none, some (.inl 0), some (.inl 0)], [], sm_pI S 10 0 2 1)) rfl ?_
                  refine sm_T_wk [some (.inr (.inr (some (10, 0)))), some (.inr (.inl x)), none, some (.inl 0), none] (by exact ⟨rfl, rfl, rfl, trivial⟩) ?_
                  refine ih.2 x 0 (sm_pI S 10 0 2 1) hI63 hF64 ⟨?_, ?_, ?_, trivial⟩ ?_
                  · omega
                  · have e4 : lx_ne b n p = p + k := by rw [← h2, lx_e_go]; exact if_neg (by omega)
                    rw [e4]
                    (try simp only [rd_eq, rd_ne, rf_eq, rf_nk, rf_nt, rd_fa, rd_af, rd_fl, rd_al, rd_lf, rd_la, rd_leq, rd_lne, rd_fr, rd_ar, ne_eq, Nat.reduceEqDiff, not_false_eq_true])
                    refine ⟨by omega, by omega, ?_⟩
                    rw [h3]; congr 1; omega
                  · (try simp only [rd_eq, rd_ne, rf_eq, rf_nk, rf_nt, rd_fa, rd_af, rd_fl, rd_al, rd_lf, rd_la, rd_leq, rd_lne, rd_fr, rd_ar, ne_eq, Nat.reduceEqDiff, not_false_eq_true]); rfl
                  · (try simp only [rd_eq, rd_ne, rf_eq, rf_nk, rf_nt, rd_fa, rd_af, rd_fl, rd_al, rd_lf, rd_la, rd_leq, rd_lne, rd_fr, rd_ar, ne_eq, Nat.reduceEqDiff, not_false_eq_true]); omega
            · have c48 : ¬ ((S.2.2.1 98 0 (S.1 10 0 8).toNat) ≠ 95) := of_decide_eq_false c48
              have b65 : 0 ≤ S.1 10 0 4 ∧ S.1 10 0 4 ≤ 1280 := hI.1 10 0 4 rfl
              refine sm_T_go 8 (c1 := (80, [some (.inr (.inr (some (10, 0)))), some (.inr (.inl x)), none, some (.inl (S.2.2.1 98 0 (S.1 10 0 8).toNat)), some (.inl 1)], [.inl 8, .inl (S.1 10 0 4)], S)) rfl ?_
              refine sm_T_br (a := 3) (z := 13) rfl (fun c66 => ?_) (fun c66 => ?_)
              · have c66 : 8 ≤ (S.1 10 0 4) := of_decide_eq_true c66
                refine sm_T_go 6 (c1 := (101, [some (.inr (.inr (some (10, 0)))), some (.inr (.inl 0)), none, some (.inl (S.2.2.1 98 0 (S.1 10 0 8).toNat)), some (.inl 1)], [.inl 1, .inl (S.1 10 0 4), .inr (.inr (some (10, 0)))], S)) rfl ?_
                refine sm_T_bin (w := (S.1 10 0 4) + 1) rfl (bi_add (by omega) (by omega) (by omega)) ?_
                have hI67 : gi (sm_pI S 10 0 4 ((S.1 10 0 4) + 1)) := gi_pI hI (show 0 ≤ (S.1 10 0 4) + 1 ∧ (S.1 10 0 4) + 1 ≤ 1280 from ⟨by omega, by omega⟩)
                have hF68 : ai_fr (sx_W vw_193) S0 (sm_pI S 10 0 4 ((S.1 10 0 4) + 1)) := ai_fr_tr hF (ai_fr_pI rfl)
                refine sm_T_go 5 (c1 := (111, [some (.inr (.inr (some (10, 0)))), some (.inr (.inl 0)), none, some (.inl (S.2.2.1 98 0 (S.1 10 0 8).toNat)), some (.inl 1)], [.inl 1, .inl (S.1 10 0 8), .inr (.inr (some (10, 0)))], sm_pI S 10 0 4 ((S.1 10 0 4) + 1))) rfl ?_
                refine sm_T_bin (w := (S.1 10 0 8) + 1) rfl (bi_add (by omega) (by omega) (by omega)) ?_
                have hI69 : gi (sm_pI (sm_pI S 10 0 4 ((S.1 10 0 4) + 1)) 10 0 8 ((S.1 10 0 8) + 1)) := gi_pI hI67 (show 0 ≤ (S.1 10 0 8) + 1 ∧ (S.1 10 0 8) + 1 ≤ 1280 from ⟨by omega, by omega⟩)
                have hF70 : ai_fr (sx_W vw_193) S0 (sm_pI (sm_pI S 10 0 4 ((S.1 10 0 4) + 1)) 10 0 8 ((S.1 10 0 8) + 1)) := ai_fr_tr hF68 (ai_fr_pI rfl)
                refine sm_T_go 2 (c1 := (2, [some (.inr (.inr (some (10, 0)))), some (.inr (.inl 0)), none, some (.inl (S.2.2.1 98 0 (S.1 10 0 8).toNat)), some (.inl 1)], [], sm_pI (sm_pI S 10 0 4 ((S.1 10 0 4) + 1)) 10 0 8 ((S.1 10 0 8) + 1))) rfl ?_
                refine sm_T_wk [some (.inr (.inr (some (10, 0)))), some (.inr (.inl 0)), none, none, none] (by exact ⟨rfl, rfl, trivial⟩) ?_
                refine ih.1 0 (sm_pI (sm_pI S 10 0 4 ((S.1 10 0 4) + 1)) 10 0 8 ((S.1 10 0 8) + 1)) hI69 hF70 ⟨?_, trivial⟩ ?_
                · refine ⟨k + 1, ?_, ?_, by omega, ?_, ?_⟩
                  · (try simp only [rd_eq, rd_ne, rf_eq, rf_nk, rf_nt, rd_fa, rd_af, rd_fl, rd_al, rd_lf, rd_la, rd_leq, rd_lne, rd_fr, rd_ar, ne_eq, Nat.reduceEqDiff, not_false_eq_true]); push_cast; omega
                  · (try simp only [rd_eq, rd_ne, rf_eq, rf_nk, rf_nt, rd_fa, rd_af, rd_fl, rd_al, rd_lf, rd_la, rd_leq, rd_lne, rd_fr, rd_ar, ne_eq, Nat.reduceEqDiff, not_false_eq_true]); push_cast; omega
                  · rw [← h2, lx_e_go (p := p + k)]
                    rw [if_pos (by constructor; omega; omega)]; rfl
                  · unfold lx_pk; rw [← e9]; first | rw [if_pos (by omega), h3] | rw [if_neg (by omega)]
                · (try simp only [rd_eq, rd_ne, rf_eq, rf_nk, rf_nt, rd_fa, rd_af, rd_fl, rd_al, rd_lf, rd_la, rd_leq, rd_lne, rd_fr, rd_ar, ne_eq, Nat.reduceEqDiff, not_false_eq_true]); omega
              · have c66 : ¬ (8 ≤ (S.1 10 0 4)) := of_decide_eq_false c66
                refine sm_T_go 12 (c1 := (101, [some (.inr (.inr (some (10, 0)))), some (.inr (.inl (l_4 ((l_s0 x 7)) ((l_i2l (S.2.2.1 98 0 (S.1 10 0 8).toNat)))))), none, some (.inl (S.2.2.1 98 0 (S.1 10 0 8).toNat)), some (.inl 1)], [.inl 1, .inl (S.1 10 0 4), .inr (.inr (some (10, 0)))], S)) rfl ?_
                refine sm_T_bin (w := (S.1 10 0 4) + 1) rfl (bi_add (by omega) (by omega) (by omega)) ?_
                have hI71 : gi (sm_pI S 10 0 4 ((S.1 10 0 4) + 1)) := gi_pI hI (show 0 ≤ (S.1 10 0 4) + 1 ∧ (S.1 10 0 4) + 1 ≤ 1280 from ⟨by omega, by omega⟩)
                have hF72 : ai_fr (sx_W vw_193) S0 (sm_pI S 10 0 4 ((S.1 10 0 4) + 1)) := ai_fr_tr hF (ai_fr_pI rfl)
                refine sm_T_go 5 (c1 := (111, [some (.inr (.inr (some (10, 0)))), some (.inr (.inl (l_4 ((l_s0 x 7)) ((l_i2l (S.2.2.1 98 0 (S.1 10 0 8).toNat)))))), none, some (.inl (S.2.2.1 98 0 (S.1 10 0 8).toNat)), some (.inl 1)], [.inl 1, .inl (S.1 10 0 8), .inr (.inr (some (10, 0)))], sm_pI S 10 0 4 ((S.1 10 0 4) + 1))) rfl ?_
                refine sm_T_bin (w := (S.1 10 0 8) + 1) rfl (bi_add (by omega) (by omega) (by omega)) ?_
                have hI73 : gi (sm_pI (sm_pI S 10 0 4 ((S.1 10 0 4) + 1)) 10 0 8 ((S.1 10 0 8) + 1)) := gi_pI hI71 (show 0 ≤ (S.1 10 0 8) + 1 ∧ (S.1 10 0 8) + 1 ≤ 1280 from ⟨by omega, by omega⟩)
                have hF74 : ai_fr (sx_W vw_193) S0 (sm_pI (sm_pI S 10 0 4 ((S.1 10 0 4) + 1)) 10 0 8 ((S.1 10 0 8) + 1)) := ai_fr_tr hF72 (ai_fr_pI rfl)
                refine sm_T_go 2 (c1 := (2, [some (.inr (.inr (some (10, 0)))), some (.inr (.inl (l_4 ((l_s0 x 7)) ((l_i2l (S.2.2.1 98 0 (S.1 10 0 8).toNat)))))), none, some (.inl (S.2.2.1 98 0 (S.1 10 0 8).toNat)), some (.inl 1)], [], sm_pI (sm_pI S 10 0 4 ((S.1 10 0 4) + 1)) 10 0 8 ((S.1 10 0 8) + 1))) rfl ?_
                refine sm_T_wk [some (.inr (.inr (some (10, 0)))), some (.inr (.inl (l_4 ((l_s0 x 7)) ((l_i2l (S.2.2.1 98 0 (S.1 10 0 8).toNat)))))), none, none, none] (by exact ⟨rfl, rfl, trivial⟩) ?_
                refine ih.1 ((l_4 ((l_s0 x 7)) ((l_i2l (S.2.2.1 98 0 (S.1 10 0 8).toNat))))) (sm_pI (sm_pI S 10 0 4 ((S.1 10 0 4) + 1)) 10 0 8 ((S.1 10 0 8) + 1)) hI73 hF74 ⟨?_, trivial⟩ ?_
                · refine ⟨k + 1, ?_, ?_, by omega, ?_, ?_⟩
                  · (try simp only [rd_eq, rd_ne, rf_eq, rf_nk, rf_nt, rd_fa, rd_af, rd_fl, rd_al, rd_lf, rd_la, rd_leq, rd_lne, rd_fr, rd_ar, ne_eq, Nat.reduceEqDiff, not_false_eq_true]); push_cast; omega
                  · (try simp only [rd_eq, rd_ne, rf_eq, rf_nk, rf_nt, rd_fa, rd_af, rd_fl, rd_al, rd_lf, rd_la, rd_leq, rd_lne, rd_fr, rd_ar, ne_eq, Nat.reduceEqDiff, not_false_eq_true]); push_cast; omega
                  · rw [← h2, lx_e_go (p := p + k)]
                    rw [if_pos (by constructor; omega; omega)]; rfl
                  · unfold lx_pk; rw [← e9]; first | rw [if_pos (by omega), h3] | rw [if_neg (by omega)]
                · (try simp only [rd_eq, rd_ne, rf_eq, rf_nk, rf_nt, rd_fa, rd_af, rd_fl, rd_al, rd_lf, rd_la, rd_leq, rd_lne, rd_fr, rd_ar, ne_eq, Nat.reduceEqDiff, not_false_eq_true]); omega
    · rintro x k S hI hF ⟨h0, h1, h2, -⟩ hm
      have hw := lx_wk_b x k.toNat
      refine sm_T_go 1 (c1 := (126, [some (.inr (.inr (some (10, 0)))), some (.inr (.inl x)), none, some (.inl k), none], [.inl k], S)) rfl ?_
      refine sm_T_nt (u := some (.inr (.inr (some (296, 0))))) (S1 := S) rfl rfl rfl ?_
      refine sm_T_nt (u := some (.inl 7)) (S1 := S) rfl rfl rfl ?_
      refine sm_T_br (a := 3) (z := 26) rfl (fun c1 => ?_) (fun c1 => ?_)
      · have c1 : 7 ≤ k := of_decide_eq_true c1
        have b2 : 0 ≤ S.1 10 0 4 ∧ S.1 10 0 4 ≤ 1280 := hI.1 10 0 4 rfl
        refine sm_T_go 3 (c1 := (162, [some (.inr (.inr (some (10, 0)))), some (.inr (.inl x)), none, some (.inl k), none], [.inl 12, .inl (S.1 10 0 4)], S)) rfl ?_
        refine sm_T_br (a := 4) (z := 7) rfl (fun c3 => ?_) (fun c3 => ?_)
        · have c3 : 12 < (S.1 10 0 4) := of_decide_eq_true c3
          refine sm_T_go 1 (c1 := (170, [some (.inr (.inr (some (10, 0)))), some (.inr (.inl x)), none, some (.inl k), none], [.inl 0], S)) rfl ?_
          refine sm_T_rz rfl (by omega) ⟨_, _, rfl, _, rfl, hI, hF, ?_⟩
          have e8 : k = 7 := by omega
          subst e8
          refine ⟨?_, h1.1, h1.2.1, ?_⟩
          · first | rw [if_pos (by omega)] | rw [if_neg (by omega)]
          · rw [h2, h1.2.2]; rfl
        · have c3 : ¬ (12 < (S.1 10 0 4)) := of_decide_eq_false c3
          refine sm_T_go 2 (c1 := (170, [some (.inr (.inr (some (10, 0)))), some (.inr (.inl x)), none, some (.inl k), none], [.inl 1], S)) rfl ?_
          refine sm_T_rz rfl (by omega) ⟨_, _, rfl, _, rfl, hI, hF, ?_⟩
          have e8 : k = 7 := by omega
          subst e8
          refine ⟨?_, h1.1, h1.2.1, ?_⟩
          · first | rw [if_pos (by omega)] | rw [if_neg (by omega)]
          · rw [h2, h1.2.2]; rfl
      · have c1 : ¬ (7 ≤ k) := of_decide_eq_false c1
        refine sm_T_go 1 (c1 := (134, [some (.inr (.inr (some (10, 0)))), some (.inr (.inl x)), none, some (.inl k), none], [.inr (.inl x)], S)) rfl ?_
        refine sm_T_nt (u := some (.inr (.inr (some (296, 0))))) (S1 := S) rfl rfl rfl ?_
        refine sm_T_go 1 (c1 := (138, [some (.inr (.inr (some (10, 0)))), some (.inr (.inl x)), none, some (.inl k), none], [.inl k, .inr (.inr (some (296, 0))), .inr (.inl x)], S)) rfl ?_
        refine sm_T_nt (u := some (.inr (.inl (st_at 0 k)))) (S1 := S) rfl rfl (nt_stl (sc := sc) (j := 0) (n := 7) (by decide) rfl rfl (by omega) (by omega)) ?_
        refine sm_T_go 1 (c1 := (140, [some (.inr (.inr (some (10, 0)))), some (.inr (.inl x)), none, some (.inl k), none], [.inl (sm_lcmp x ((st_at 0 k)))], S)) rfl ?_
        refine sm_T_b0 (a := 1) (z := 10) rfl (fun c4 => ?_) (fun c4 => ?_)
        · have c4 : (sm_lcmp x ((st_at 0 k))) ≠ 0 := of_decide_eq_true c4
          refine sm_T_inc (a := 3) (z := 1) (v := k) (w := k + 1) rfl rfl (by omega) (by omega) (by omega) ?_
          refine sm_T_go 1 (c1 := (125, [some (.inr (.inr (some (10, 0)))), some (.inr (.inl x)), none, some (.inl (k + 1)), none], [], S)) rfl ?_
          refine ih.2 x (k + 1) S hI hF ⟨?_, ?_, ?_, trivial⟩ ?_
          · omega
          · (try simp only [rd_eq, rd_ne, rf_eq, rf_nk, rf_nt, rd_fa, rd_af, rd_fl, rd_al, rd_lf, rd_la, rd_leq, rd_lne, rd_fr, rd_ar, ne_eq, Nat.reduceEqDiff, not_false_eq_true]); exact h1
          · have e5 : (k + 1).toNat = k.toNat + 1 := by omega
            have e6 := st_ws k.toNat (by omega)
            have e7 : ((k.toNat : Nat) : Int) = k := by omega
            rw [e7] at e6
            rw [ne_eq, lcmp0, e6] at c4
            rw [e5]; unfold lx_wk
            (try simp only [rd_eq, rd_ne, rf_eq, rf_nk, rf_nt, rd_fa, rd_af, rd_fl, rd_al, rd_lf, rd_la, rd_leq, rd_lne, rd_fr, rd_ar, ne_eq, Nat.reduceEqDiff, not_false_eq_true])
            first | (rw [if_pos (Decidable.of_not_not c4)]; omega) | (rw [if_neg c4]; exact h2)
          · (try simp only [rd_eq, rd_ne, rf_eq, rf_nk, rf_nt, rd_fa, rd_af, rd_fl, rd_al, rd_lf, rd_la, rd_leq, rd_lne, rd_fr, rd_ar, ne_eq, Nat.reduceEqDiff, not_false_eq_true]); omega
        · have c4 : ¬ ((sm_lcmp x ((st_at 0 k))) ≠ 0) := of_decide_eq_false c4
          refine sm_T_go 3 (c1 := (146, [some (.inr (.inr (some (10, 0)))), some (.inr (.inl x)), none, some (.inl k), none], [.inl k, .inl 3, .inr (.inr (some (10, 0)))], S)) rfl ?_
          refine sm_T_bin (w := k + 3) rfl (bi_add (by omega) (by omega) (by omega)) ?_
          have hI5 : gi (sm_pI S 10 0 2 (k + 3)) := gi_pI hI (show (-128) ≤ k + 3 ∧ k + 3 ≤ 257 from ⟨by omega, by omega⟩)
          have hF6 : ai_fr (sx_W vw_193) S0 (sm_pI S 10 0 2 (k + 3)) := ai_fr_tr hF (ai_fr_pI rfl)
          refine sm_T_go 1 (c1 := (150, [some (.inr (.inr (some (10, 0)))), some (.inr (.inl x)), none, some (.inl k), none], [], sm_pI S 10 0 2 (k + 3))) rfl ?_
          refine sm_T_inc (a := 3) (z := 1) (v := k) (w := k + 1) rfl rfl (by omega) (by omega) (by omega) ?_
          refine sm_T_go 1 (c1 := (125, [some (.inr (.inr (some (10, 0)))), some (.inr (.inl x)), none, some (.inl (k + 1)), none], [], sm_pI S 10 0 2 (k + 3))) rfl ?_
          refine ih.2 x (k + 1) (sm_pI S 10 0 2 (k + 3)) hI5 hF6 ⟨?_, ?_, ?_, trivial⟩ ?_
          · omega
          · (try simp only [rd_eq, rd_ne, rf_eq, rf_nk, rf_nt, rd_fa, rd_af, rd_fl, rd_al, rd_lf, rd_la, rd_leq, rd_lne, rd_fr, rd_ar, ne_eq, Nat.reduceEqDiff, not_false_eq_true]); exact h1
          · have e5 : (k + 1).toNat = k.toNat + 1 := by omega
            have e6 := st_ws k.toNat (by omega)
            have e7 : ((k.toNat : Nat) : Int) = k := by omega
            rw [e7] at e6
            rw [ne_eq, lcmp0, e6] at c4
            rw [e5]; unfold lx_wk
            (try simp only [rd_eq, rd_ne, rf_eq, rf_nk, rf_nt, rd_fa, rd_af, rd_fl, rd_al, rd_lf, rd_la, rd_leq, rd_lne, rd_fr, rd_ar, ne_eq, Nat.reduceEqDiff, not_false_eq_true])
            first | (rw [if_pos (Decidable.of_not_not c4)]; omega) | (rw [if_neg c4]; exact h2)
          · (try simp only [rd_eq, rd_ne, rf_eq, rf_nk, rf_nt, rd_fa, rd_af, rd_fl, rd_al, rd_lf, rd_la, rd_leq, rd_lne, rd_fr, rd_ar, ne_eq, Nat.reduceEqDiff, not_false_eq_true]); omega
theorem vc_193 {sc : Nat × (Nat → Int)} (b : Nat → Int) (n : Nat) (p : Nat) (S0 : sm_S) (hI : gi S0) (hb : S0.2.2.1 98 0 = b) (hn : (S0.1 10 0 1) = (n : Int)) (hn1 : n ≤ 1280) (hp : (S0.1 10 0 8) = (p : Int)) (hpn : p ≤ n) (hz : (S0.1 10 0 4) = 0) : sm_T (mt_P sc) 0 193 (0, [some (.inr (.inr (some (10, 0)))), none, none, none, none], [], S0) (fun r => ∃ u S1, r = (.inl u, S1, 0) ∧ vq_193 b n p S0 u S1) := by
  have hF : ai_fr (sx_W vw_193) S0 S0 := ai_fr_rf
  refine sm_T_go 2 (c1 := (2, [some (.inr (.inr (some (10, 0)))), some (.inr (.inl 0)), none, none, none], [], S0)) rfl ?_
  refine (vl_193 b n p S0 hb hn hn1 hp hpn hz _).1 0 S0 hI hF ⟨?_, trivial⟩ (Nat.lt_succ_self _)
  · exact ⟨0, by simpa using hp, hz, by omega, rfl, rfl⟩
/-! Text.readNumber -/
def vw_194 : sx_Wl := ([(10, 2), (10, 4), (10, 5), (10, 8)], [], [])
def vq_194 (b : Nat → Int) (n : Nat) (p : Nat) (S0 : sm_S) (u : Option sm_V) (S1 : sm_S) : Prop := ∃ v : Int, u = some (.inl v) ∧ gi S1 ∧ ai_fr (sx_W vw_194) S0 S1 ∧ ((v = if lx_de b n p - p ≤ 6 then 1 else 0) ∧ (S1.1 10 0 8) = (lx_de b n p : Nat) ∧ (S1.1 10 0 4) = (lx_de b n p - p : Nat) ∧ (S1.1 10 0 2) = 2 ∧ (S1.1 10 0 5) = lx_v b p (min (lx_de b n p - p) 6))
theorem vl_194 {sc : Nat × (Nat → Int)} (b : Nat → Int) (n : Nat) (p : Nat) (S0 : sm_S) (hb : S0.2.2.1 98 0 = b) (hn : (S0.1 10 0 1) = (n : Int)) (hn1 : n ≤ 1280) (hp : (S0.1 10 0 8) = (p : Int)) (hpn : p ≤ n) (hz : (S0.1 10 0 4) = 0) : ∀ nn : Nat, (∀  (S : sm_S), gi S → ai_fr (sx_W vw_194) S0 S → ((∃ k : Nat, (S.1 10 0 8) = ((p + k : Nat) : Int) ∧ (S.1 10 0 4) = (k : Int) ∧ p + k ≤ n ∧ lx_de b n (p + k) = lx_de b n p ∧ (S.1 10 0 5) = lx_v b p (min k 6) ∧ ∀ j, j < k → lx_g (b (p + j))) ∧ True) → (1400 - (S.1 10 0 8).toNat) < nn → sm_T (mt_P sc) 0 194 (5, [some (.inr (.inr (some (10, 0))))], [], S) (fun r => ∃ u S1, r = (.inl u, S1, 0) ∧ vq_194 b n p S0 u S1)) := by
  intro nn
  induction nn with
  | zero => exact fun  _ _ _ _ h => absurd h (Nat.not_lt_zero _)
  | succ nn ih =>
    rintro  S hI hF ⟨h1, -⟩ hm
    have hb1 : S.2.2.1 98 0 = b := (fr_arr hF rfl).trans hb
    have hn2 : (S.1 10 0 1) = (n : Int) := (hF.1 10 0 1 rfl).trans hn
    obtain ⟨k, hq, hs, hqn, h2, h3, h4⟩ := h1
    have e : (S.1 10 0 8).toNat = p + k := by omega
    have e9 : S.2.2.1 98 0 (S.1 10 0 8).toNat = b (p + k) := by rw [e, hb1]
    have hv := lx_v_b (b := b) (p := p) (k := min k 6) (by omega) (fun j hj => h4 j (by omega))
    have hv2 : (10 : Int) ^ (min k 6) ≤ 10 ^ 6 := by exact_mod_cast Nat.pow_le_pow_right (by decide) (show min k 6 ≤ 6 by omega)
    have hv3 : lx_v b p (min k 6) < 1000000 := by have : (10 : Int) ^ 6 = 1000000 := by decide
                                                  omega
    have b1 : 0 ≤ S.1 10 0 8 ∧ S.1 10 0 8 ≤ 1280 := hI.1 10 0 8 rfl
    have b2 : 0 ≤ S.1 10 0 1 ∧ S.1 10 0 1 ≤ 1280 := hI.1 10 0 1 rfl
    refine sm_T_go 4 (c1 := (13, [some (.inr (.inr (some (10, 0))))], [.inl (S.1 10 0 1), .inl (S.1 10 0 8)], S)) rfl ?_
    refine sm_T_br (a := 3) (z := 87) rfl (fun c3 => ?_) (fun c3 => ?_)
    · have c3 : (S.1 10 0 1) ≤ (S.1 10 0 8) := of_decide_eq_true c3
      have hI4 : gi (sm_pI S 10 0 2 2) := gi_pI hI (show (-128) ≤ 2 ∧ 2 ≤ 257 from ⟨by omega, by omega⟩)
      have hF5 : ai_fr (sx_W vw_194) S0 (sm_pI S 10 0 2 2) := ai_fr_tr hF (ai_fr_pI rfl)
      have b6 : 0 ≤ S.1 10 0 4 ∧ S.1 10 0 4 ≤ 1280 := hI.1 10 0 4 rfl
      refine sm_T_go 6 (c1 := (111, [some (.inr (.inr (some (10, 0))))], [.inl 6, .inl (S.1 10 0 4)], sm_pI S 10 0 2 2)) rfl ?_
      refine sm_T_br (a := 4) (z := 7) rfl (fun c7 => ?_) (fun c7 => ?_)
      · have c7 : 6 < (S.1 10 0 4) := of_decide_eq_true c7
        refine sm_T_go 1 (c1 := (119, [some (.inr (.inr (some (10, 0))))], [.inl 0], sm_pI S 10 0 2 2)) rfl ?_
        refine sm_T_rz rfl (by omega) ⟨_, _, rfl, _, rfl, hI4, hF5, ?_⟩
        have e4 : lx_de b n p = p + k := by rw [← h2, lx_f_go]; exact if_neg (by omega)
        rw [e4]
        (try simp only [rd_eq, rd_ne, rf_eq, rf_nk, rf_nt, rd_fa, rd_af, rd_fl, rd_al, rd_lf, rd_la, rd_leq, rd_lne, rd_fr, rd_ar, ne_eq, Nat.reduceEqDiff, not_false_eq_true])
        refine ⟨?_, by omega, by omega, trivial, ?_⟩
        · first | rw [if_pos (by omega)] | rw [if_neg (by omega)]
        · rw [show p + k - p = k by omega]; exact h3
      · have c7 : ¬ (6 < (S.1 10 0 4)) := of_decide_eq_false c7
        refine sm_T_go 2 (c1 := (119, [some (.inr (.inr (some (10, 0))))], [.inl 1], sm_pI S 10 0 2 2)) rfl ?_
        refine sm_T_rz rfl (by omega) ⟨_, _, rfl, _, rfl, hI4, hF5, ?_⟩
        have e4 : lx_de b n p = p + k := by rw [← h2, lx_f_go]; exact if_neg (by omega)
        rw [e4]
        (try simp only [rd_eq, rd_ne, rf_eq, rf_nk, rf_nt, rd_fa, rd_af, rd_fl, rd_al, rd_lf, rd_la, rd_leq, rd_lne, rd_fr, rd_ar, ne_eq, Nat.reduceEqDiff, not_false_eq_true])
        refine ⟨?_, by omega, by omega, trivial, ?_⟩
        · first | rw [if_pos (by omega)] | rw [if_neg (by omega)]
        · rw [show p + k - p = k by omega]; exact h3
    · have c3 : ¬ ((S.1 10 0 1) ≤ (S.1 10 0 8)) := of_decide_eq_false c3
      refine sm_T_go 4 (c1 := (24, [some (.inr (.inr (some (10, 0))))], [.inl (S.1 10 0 8), .inr (.inr (some (98, 0)))], S)) rfl ?_
      refine sm_T_bald (n := 65536) rfl rfl (by omega) (by omega) ?_
      have b8 : (-128) ≤ S.2.2.1 98 0 (S.1 10 0 8).toNat ∧ S.2.2.1 98 0 (S.1 10 0 8).toNat ≤ 127 := hI.2 98 0 _
      refine sm_T_go 1 (c1 := (27, [some (.inr (.inr (some (10, 0))))], [.inl 48, .inl (S.2.2.1 98 0 (S.1 10 0 8).toNat)], S)) rfl ?_
      refine sm_T_br (a := 2) (z := 73) rfl (fun c9 => ?_) (fun c9 => ?_)
      · have c9 : (S.2.2.1 98 0 (S.1 10 0 8).toNat) < 48 := of_decide_eq_true c9
        have hI10 : gi (sm_pI S 10 0 2 2) := gi_pI hI (show (-128) ≤ 2 ∧ 2 ≤ 257 from ⟨by omega, by omega⟩)
        have hF11 : ai_fr (sx_W vw_194) S0 (sm_pI S 10 0 2 2) := ai_fr_tr hF (ai_fr_pI rfl)
        have b12 : 0 ≤ S.1 10 0 4 ∧ S.1 10 0 4 ≤ 1280 := hI.1 10 0 4 rfl
        refine sm_T_go 6 (c1 := (111, [some (.inr (.inr (some (10, 0))))], [.inl 6, .inl (S.1 10 0 4)], sm_pI S 10 0 2 2)) rfl ?_
        refine sm_T_br (a := 4) (z := 7) rfl (fun c13 => ?_) (fun c13 => ?_)
        · have c13 : 6 < (S.1 10 0 4) := of_decide_eq_true c13
          refine sm_T_go 1 (c1 := (119, [some (.inr (.inr (some (10, 0))))], [.inl 0], sm_pI S 10 0 2 2)) rfl ?_
          refine sm_T_rz rfl (by omega) ⟨_, _, rfl, _, rfl, hI10, hF11, ?_⟩
          have e4 : lx_de b n p = p + k := by rw [← h2, lx_f_go]; exact if_neg (by omega)
          rw [e4]
          (try simp only [rd_eq, rd_ne, rf_eq, rf_nk, rf_nt, rd_fa, rd_af, rd_fl, rd_al, rd_lf, rd_la, rd_leq, rd_lne, rd_fr, rd_ar, ne_eq, Nat.reduceEqDiff, not_false_eq_true])
          refine ⟨?_, by omega, by omega, trivial, ?_⟩
          · first | rw [if_pos (by omega)] | rw [if_neg (by omega)]
          · rw [show p + k - p = k by omega]; exact h3
        · have c13 : ¬ (6 < (S.1 10 0 4)) := of_decide_eq_false c13
          refine sm_T_go 2 (c1 := (119, [some (.inr (.inr (some (10, 0))))], [.inl 1], sm_pI S 10 0 2 2)) rfl ?_
          refine sm_T_rz rfl (by omega) ⟨_, _, rfl, _, rfl, hI10, hF11, ?_⟩
          have e4 : lx_de b n p = p + k := by rw [← h2, lx_f_go]; exact if_neg (by omega)
          rw [e4]
          (try simp only [rd_eq, rd_ne, rf_eq, rf_nk, rf_nt, rd_fa, rd_af, rd_fl, rd_al, rd_lf, rd_la, rd_leq, rd_lne, rd_fr, rd_ar, ne_eq, Nat.reduceEqDiff, not_false_eq_true])
          refine ⟨?_, by omega, by omega, trivial, ?_⟩
          · first | rw [if_pos (by omega)] | rw [if_neg (by omega)]
          · rw [show p + k - p = k by omega]; exact h3
      · have c9 : ¬ ((S.2.2.1 98 0 (S.1 10 0 8).toNat) < 48) := of_decide_eq_false c9
        refine sm_T_go 4 (c1 := (38, [some (.inr (.inr (some (10, 0))))], [.inl (S.1 10 0 8), .inr (.inr (some (98, 0)))], S)) rfl ?_
        refine sm_T_bald (n := 65536) rfl rfl (by omega) (by omega) ?_
        refine sm_T_go 1 (c1 := (41, [some (.inr (.inr (some (10, 0))))], [.inl 57, .inl (S.2.2.1 98 0 (S.1 10 0 8).toNat)], S)) rfl ?_
        refine sm_T_br (a := 4) (z := 59) rfl (fun c14 => ?_) (fun c14 => ?_)
        · have c14 : 57 < (S.2.2.1 98 0 (S.1 10 0 8).toNat) := of_decide_eq_true c14
          have hI15 : gi (sm_pI S 10 0 2 2) := gi_pI hI (show (-128) ≤ 2 ∧ 2 ≤ 257 from ⟨by omega, by omega⟩)
          have hF16 : ai_fr (sx_W vw_194) S0 (sm_pI S 10 0 2 2) := ai_fr_tr hF (ai_fr_pI rfl)
          have b17 : 0 ≤ S.1 10 0 4 ∧ S.1 10 0 4 ≤ 1280 := hI.1 10 0 4 rfl
          refine sm_T_go 6 (c1 := (111, [some (.inr (.inr (some (10, 0))))], [.inl 6, .inl (S.1 10 0 4)], sm_pI S 10 0 2 2)) rfl ?_
          refine sm_T_br (a := 4) (z := 7) rfl (fun c18 => ?_) (fun c18 => ?_)
          · have c18 : 6 < (S.1 10 0 4) := of_decide_eq_true c18
            refine sm_T_go 1 (c1 := (119, [some (.inr (.inr (some (10, 0))))], [.inl 0], sm_pI S 10 0 2 2)) rfl ?_
            refine sm_T_rz rfl (by omega) ⟨_, _, rfl, _, rfl, hI15, hF16, ?_⟩
            have e4 : lx_de b n p = p + k := by rw [← h2, lx_f_go]; exact if_neg (by omega)
            rw [e4]
            (try simp only [rd_eq, rd_ne, rf_eq, rf_nk, rf_nt, rd_fa, rd_af, rd_fl, rd_al, rd_lf, rd_la, rd_leq, rd_lne, rd_fr, rd_ar, ne_eq, Nat.reduceEqDiff, not_false_eq_true])
            refine ⟨?_, by omega, by omega, trivial, ?_⟩
            · first | rw [if_pos (by omega)] | rw [if_neg (by omega)]
            · rw [show p + k - p = k by omega]; exact h3
          · have c18 : ¬ (6 < (S.1 10 0 4)) := of_decide_eq_false c18
            refine sm_T_go 2 (c1 := (119, [some (.inr (.inr (some (10, 0))))], [.inl 1], sm_pI S 10 0 2 2)) rfl ?_
            refine sm_T_rz rfl (by omega) ⟨_, _, rfl, _, rfl, hI15, hF16, ?_⟩
            have e4 : lx_de b n p = p + k := by rw [← h2, lx_f_go]; exact if_neg (by omega)
            rw [e4]
            (try simp only [rd_eq, rd_ne, rf_eq, rf_nk, rf_nt, rd_fa, rd_af, rd_fl, rd_al, rd_lf, rd_la, rd_leq, rd_lne, rd_fr, rd_ar, ne_eq, Nat.reduceEqDiff, not_false_eq_true])
            refine ⟨?_, by omega, by omega, trivial, ?_⟩
            · first | rw [if_pos (by omega)] | rw [if_neg (by omega)]
            · rw [show p + k - p = k by omega]; exact h3
        · have c14 : ¬ (57 < (S.2.2.1 98 0 (S.1 10 0 8).toNat)) := of_decide_eq_false c14
          have b19 : 0 ≤ S.1 10 0 4 ∧ S.1 10 0 4 ≤ 1280 := hI.1 10 0 4 rfl
          refine sm_T_go 3 (c1 := (50, [some (.inr (.inr (some (10, 0))))], [.inl 6, .inl (S.1 10 0 4)], S)) rfl ?_
          refine sm_T_br (a := 3) (z := 27) rfl (fun c20 => ?_) (fun c20 => ?_)
          · have c20 : 6 ≤ (S.1 10 0 4) := of_decide_eq_true c20
            refine sm_T_go 4 (c1 := (83, [some (.inr (.inr (some (10, 0))))], [.inl 1, .inl (S.1 10 0 4), .inr (.inr (some (10, 0)))], S)) rfl ?_
            refine sm_T_bin (w := (S.1 10 0 4) + 1) rfl (bi_add (by omega) (by omega) (by omega)) ?_
            have hI21 : gi (sm_pI S 10 0 4 ((S.1 10 0 4) + 1)) := gi_pI hI (show 0 ≤ (S.1 10 0 4) + 1 ∧ (S.1 10 0 4) + 1 ≤ 1280 from ⟨by omega, by omega⟩)
            have hF22 : ai_fr (sx_W vw_194) S0 (sm_pI S 10 0 4 ((S.1 10 0 4) + 1)) := ai_fr_tr hF (ai_fr_pI rfl)
            refine sm_T_go 5 (c1 := (93, [some (.inr (.inr (some (10, 0))))], [.inl 1, .inl (S.1 10 0 8), .inr (.inr (some (10, 0)))], sm_pI S 10 0 4 ((S.1 10 0 4) + 1))) rfl ?_
            refine sm_T_bin (w := (S.1 10 0 8) + 1) rfl (bi_add (by omega) (by omega) (by omega)) ?_
            have hI23 : gi (sm_pI (sm_pI S 10 0 4 ((S.1 10 0 4) + 1)) 10 0 8 ((S.1 10 0 8) + 1)) := gi_pI hI21 (show 0 ≤ (S.1 10 0 8) + 1 ∧ (S.1 10 0 8) + 1 ≤ 1280 from ⟨by omega, by omega⟩)
            have hF24 : ai_fr (sx_W vw_194) S0 (sm_pI (sm_pI S 10 0 4 ((S.1 10 0 4) + 1)) 10 0 8 ((S.1 10 0 8) + 1)) := ai_fr_tr hF22 (ai_fr_pI rfl)
            refine sm_T_go 2 (c1 := (5, [some (.inr (.inr (some (10, 0))))], [], sm_pI (sm_pI S 10 0 4 ((S.1 10 0 4) + 1)) 10 0 8 ((S.1 10 0 8) + 1))) rfl ?_
            refine ih  (sm_pI (sm_pI S 10 0 4 ((S.1 10 0 4) + 1)) 10 0 8 ((S.1 10 0 8) + 1)) hI23 hF24 ⟨?_, trivial⟩ ?_
            · have g : lx_g (b (p + k)) := ⟨by omega, by omega⟩
              refine ⟨k + 1, ?_, ?_, by omega, ?_, ?_, ?_⟩
              · (try simp only [rd_eq, rd_ne, rf_eq, rf_nk, rf_nt, rd_fa, rd_af, rd_fl, rd_al, rd_lf, rd_la, rd_leq, rd_lne, rd_fr, rd_ar, ne_eq, Nat.reduceEqDiff, not_false_eq_true]); push_cast; omega
              · (try simp only [rd_eq, rd_ne, rf_eq, rf_nk, rf_nt, rd_fa, rd_af, rd_fl, rd_al, rd_lf, rd_la, rd_leq, rd_lne, rd_fr, rd_ar, ne_eq, Nat.reduceEqDiff, not_false_eq_true]); push_cast; omega
              · rw [← h2, lx_f_go (p := p + k)]
                rw [if_pos ⟨by omega, g⟩]; rfl
              · (try simp only [rd_eq, rd_ne, rf_eq, rf_nk, rf_nt, rd_fa, rd_af, rd_fl, rd_al, rd_lf, rd_la, rd_leq, rd_lne, rd_fr, rd_ar, ne_eq, Nat.reduceEqDiff, not_false_eq_true])
                first | (rw [show min (k + 1) 6 = min k 6 by omega]; exact h3) | (rw [show min (k + 1) 6 = k + 1 by omega]; unfold lx_v; rw [h3, e9])
              · intro j hj
                by_cases q : j = k
                · rw [q]; exact g
                · exact h4 j (by omega)
            · (try simp only [rd_eq, rd_ne, rf_eq, rf_nk, rf_nt, rd_fa, rd_af, rd_fl, rd_al, rd_lf, rd_la, rd_leq, rd_lne, rd_fr, rd_ar, ne_eq, Nat.reduceEqDiff, not_false_eq_true]); omega
          · have c20 : ¬ (6 ≤ (S.1 10 0 4)) := of_decide_eq_false c20
            have hw := lx_v_c (b := b) (p := p) (k := k) (by omega) h4 ⟨by omega, by omega⟩
            rw [show min k 6 = k by omega] at h3
            have b25 : 0 ≤ S.1 10 0 5 ∧ S.1 10 0 5 ≤ 999999 := hI.1 10 0 5 rfl
            refine sm_T_go 4 (c1 := (60, [some (.inr (.inr (some (10, 0))))], [.inl (S.1 10 0 5), .inl 10, .inr (.inr (some (10, 0)))], S)) rfl ?_
            refine sm_T_bin (w := 10 * (S.1 10 0 5)) rfl (bi_mul (by omega) (by omega) (by omega)) ?_
            refine sm_T_go 4 (c1 := (69, [some (.inr (.inr (some (10, 0))))], [.inl (S.1 10 0 8), .inr (.inr (some (98, 0))), .inl (10 * (S.1 10 0 5)), .inr (.inr (some (10, 0)))], S)) rfl ?_
            refine sm_T_bald (n := 65536) rfl rfl (by omega) (by omega) ?_
            refine sm_T_bin (w := 10 * (S.1 10 0 5) + (S.2.2.1 98 0 (S.1 10 0 8).toNat)) rfl (bi_add (by omega) (by omega) (by omega)) ?_
            refine sm_T_go 1 (c1 := (73, [some (.inr (.inr (some (10, 0))))], [.inl 48, .inl (10 * (S.1 10 0 5) + (S.2.2.1 98 0 (S.1 10 0 8).toNat)), .inr (.inr (some (10, 0)))], S)) rfl ?_
            refine sm_T_bin (w := 10 * (S.1 10 0 5) + (S.2.2.1 98 0 (S.1 10 0 8).toNat) - 48) rfl (bi_sub (by omega) (by omega) (by omega)) ?_
            have hI26 : gi (sm_pI S 10 0 5 (10 * (S.1 10 0 5) + (S.2.2.1 98 0 (S.1 10 0 8).toNat) - 48)) := gi_pI hI (show 0 ≤ 10 * (S.1 10 0 5) + (S.2.2.1 98 0 (S.1 10 0 8).toNat) - 48 ∧ 10 * (S.1 10 0 5) + (S.2.2.1 98 0 (S.1 10 0 8).toNat) - 48 ≤ 999999 from ⟨by omega, by omega⟩)
            have hF27 : ai_fr (sx_W vw_194) S0 (sm_pI S 10 0 5 (10 * (S.1 10 0 5) + (S.2.2.1 98 0 (S.1 10 0 8).toNat) - 48)) := ai_fr_tr hF (ai_fr_pI rfl)
            refine sm_T_go 5 (c1 := (83, [some (.inr (.inr (some (10, 0))))], [.inl 1, .inl (S.1 10 0 4), .inr (.inr (some (10, 0)))], sm_pI S 10 0 5 (10 * (S.1 10 0 5) + (S.2.2.1 98 0 (S.1 10 0 8).toNat) - 48))) rfl ?_
            refine sm_T_bin (w := (S.1 10 0 4) + 1) rfl (bi_add (by omega) (by omega) (by omega)) ?_
            have hI28 : gi (sm_pI (sm_pI S 10 0 5 (10 * (S.1 10 0 5) + (S.2.2.1 98 0 (S.1 10 0 8).toNat) - 48)) 10 0 4 ((S.1 10 0 4) + 1)) := gi_pI hI26 (show 0 ≤ (S.1 10 0 4) + 1 ∧ (S.1 10 0 4) + 1 ≤ 1280 from ⟨by omega, by omega⟩)
            have hF29 : ai_fr (sx_W vw_194) S0 (sm_pI (sm_pI S 10 0 5 (10 * (S.1 10 0 5) + (S.2.2.1 98 0 (S.1 10 0 8).toNat) - 48)) 10 0 4 ((S.1 10 0 4) + 1)) := ai_fr_tr hF27 (ai_fr_pI rfl)
            refine sm_T_go 5 (c1 := (93, [some (.inr (.inr (some (10, 0))))], [.inl 1, .inl (S.1 10 0 8), .inr (.inr (some (10, 0)))], sm_pI (sm_pI S 10 0 5 (10 * (S.1 10 0 5) + (S.2.2.1 98 0 (S.1 10 0 8).toNat) - 48)) 10 0 4 ((S.1 10 0 4) + 1))) rfl ?_
            refine sm_T_bin (w := (S.1 10 0 8) + 1) rfl (bi_add (by omega) (by omega) (by omega)) ?_
            have hI30 : gi (sm_pI (sm_pI (sm_pI S 10 0 5 (10 * (S.1 10 0 5) + (S.2.2.1 98 0 (S.1 10 0 8).toNat) - 48)) 10 0 4 ((S.1 10 0 4) + 1)) 10 0 8 ((S.1 10 0 8) + 1)) := gi_pI hI28 (show 0 ≤ (S.1 10 0 8) + 1 ∧ (S.1 10 0 8) + 1 ≤ 1280 from ⟨by omega, by omega⟩)
            have hF31 : ai_fr (sx_W vw_194) S0 (sm_pI (sm_pI (sm_pI S 10 0 5 (10 * (S.1 10 0 5) + (S.2.2.1 98 0 (S.1 10 0 8).toNat) - 48)) 10 0 4 ((S.1 10 0 4) + 1)) 10 0 8 ((S.1 10 0 8) + 1)) := ai_fr_tr hF29 (ai_fr_pI rfl)
            refine sm_T_go 2 (c1 := (5, [some (.inr (.inr (some (10, 0))))], [], sm_pI (sm_pI (sm_pI S 10 0 5 (10 * (S.1 10 0 5) + (S.2.2.1 98 0 (S.1 10 0 8).toNat) - 48)) 10 0 4 ((S.1 10 0 4) + 1)) 10 0 8 ((S.1 10 0 8) + 1))) rfl ?_
            refine ih  (sm_pI (sm_pI (sm_pI S 10 0 5 (10 * (S.1 10 0 5) + (S.2.2.1 98 0 (S.1 10 0 8).toNat) - 48)) 10 0 4 ((S.1 10 0 4) + 1)) 10 0 8 ((S.1 10 0 8) + 1)) hI30 hF31 ⟨?_, trivial⟩ ?_
            · have g : lx_g (b (p + k)) := ⟨by omega, by omega⟩
              refine ⟨k + 1, ?_, ?_, by omega, ?_, ?_, ?_⟩
              · (try simp only [rd_eq, rd_ne, rf_eq, rf_nk, rf_nt, rd_fa, rd_af, rd_fl, rd_al, rd_lf, rd_la, rd_leq, rd_lne, rd_fr, rd_ar, ne_eq, Nat.reduceEqDiff, not_false_eq_true]); push_cast; omega
              · (try simp only [rd_eq, rd_ne, rf_eq, rf_nk, rf_nt, rd_fa, rd_af, rd_fl, rd_al, rd_lf, rd_la, rd_leq, rd_lne, rd_fr, rd_ar, ne_eq, Nat.reduceEqDiff, not_false_eq_true]); push_cast; omega
              · rw [← h2, lx_f_go (p := p + k)]
                rw [if_pos ⟨by omega, g⟩]; rfl
              · (try simp only [rd_eq, rd_ne, rf_eq, rf_nk, rf_nt, rd_fa, rd_af, rd_fl, rd_al, rd_lf, rd_la, rd_leq, rd_lne, rd_fr, rd_ar, ne_eq, Nat.reduceEqDiff, not_false_eq_true])
                first | (rw [show min (k + 1) 6 = min k 6 by omega]; exact h3) | (rw [show min (k + 1) 6 = k + 1 by omega]; unfold lx_v; rw [h3, e9])
              · intro j hj
                by_cases q : j = k
                · rw [q]; exact g
                · exact h4 j (by omega)
            · (try simp only [rd_eq, rd_ne, rf_eq, rf_nk, rf_nt, rd_fa, rd_af, rd_fl, rd_al, rd_lf, rd_la, rd_leq, rd_lne, rd_fr, rd_ar, ne_eq, Nat.reduceEqDiff, not_false_eq_true]); omega
theorem vc_194 {sc : Nat × (Nat → Int)} (b : Nat → Int) (n : Nat) (p : Nat) (S0 : sm_S) (hI : gi S0) (hb : S0.2.2.1 98 0 = b) (hn : (S0.1 10 0 1) = (n : Int)) (hn1 : n ≤ 1280) (hp : (S0.1 10 0 8) = (p : Int)) (hpn : p ≤ n) (hz : (S0.1 10 0 4) = 0) : sm_T (mt_P sc) 0 194 (0, [some (.inr (.inr (some (10, 0))))], [], S0) (fun r => ∃ u S1, r = (.inl u, S1, 0) ∧ vq_194 b n p S0 u S1) := by
  have hF : ai_fr (sx_W vw_194) S0 S0 := ai_fr_rf
  have hI1 : gi (sm_pI S0 10 0 5 0) := gi_pI hI (show 0 ≤ 0 ∧ 0 ≤ 999999 from ⟨by omega, by omega⟩)
  have hF2 : ai_fr (sx_W vw_194) S0 (sm_pI S0 10 0 5 0) := ai_fr_tr hF (ai_fr_pI rfl)
  refine sm_T_go 3 (c1 := (5, [some (.inr (.inr (some (10, 0))))], [], sm_pI S0 10 0 5 0)) rfl ?_
  refine (vl_194 b n p S0 hb hn hn1 hp hpn hz _)  (sm_pI S0 10 0 5 0) hI1 hF2 ⟨?_, trivial⟩ (Nat.lt_succ_self _)
  · exact ⟨0, by (try simp only [rd_eq, rd_ne, rf_eq, rf_nk, rf_nt, rd_fa, rd_af, rd_fl, rd_al, rd_lf, rd_la, rd_leq, rd_lne, rd_fr, rd_ar, ne_eq, Nat.reduceEqDiff, not_false_eq_true]); simpa using hp, hz, by omega, rfl, rfl, fun j hj => absurd hj (Nat.not_lt_zero _)⟩
