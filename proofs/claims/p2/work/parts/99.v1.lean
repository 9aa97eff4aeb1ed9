/-! the class: names, numbers; written by wip/p55/gen/vg -/
/-! Text.skipBlanks -/
def vw_192 : sx_Wl := ([(10, 8)], [], [])
def vq_192 (b_ : Nat → Int) (n_ : Nat) (p_ : Nat) (S0_ : sm_S) (u_ : Option sm_V) (S1_ : sm_S) : Prop := u_ = none ∧ gi S1_ ∧ ai_fr (sx_W vw_192) S0_ S1_ ∧ ((S1_.1 10 0 8) = (lx_k b_ n_ p_ : Nat))
theorem vl_192 {sc_ : Nat × (Nat → Int)} (b_ : Nat → Int) (n_ : Nat) (p_ : Nat) (S0_ : sm_S) (hb_ : S0_.2.2.1 98 0 = b_) (hn_ : (S0_.1 10 0 1) = (n_ : Int)) (hn1_ : n_ ≤ 1280) (hp_ : (S0_.1 10 0 8) = (p_ : Int)) (hpn_ : p_ ≤ n_) : ∀ nn_ : Nat, (∀ (c_ : Int) (S_ : sm_S), gi S_ → ai_fr (sx_W vw_192) S0_ S_ → ((c_ = 0 ∨ c_ = 1) ∧ (∃ q_ : Nat, (S_.1 10 0 8) = (q_ : Int) ∧ q_ ≤ n_ ∧ lx_s b_ n_ (n_ - q_) (decide (c_ = 1)) q_ = lx_k b_ n_ p_) ∧ True) → (1300 - (S_.1 10 0 8).toNat) < nn_ → sm_T (mt_P sc_) 0 192 (2, [some (.inr (.inr (some (10, 0)))), some (.inl c_), none], [], S_) (fun r_ => ∃ u_ S1_, r_ = (.inl u_, S1_, 0) ∧ vq_192 b_ n_ p_ S0_ u_ S1_)) := by
  intro nn_
  induction nn_ with
  | zero => exact fun _ _ _ _ _ h_ => absurd h_ (Nat.not_lt_zero _)
  | succ nn_ ih_ =>
    rintro c_ S_ hI_ hF_ ⟨h0_, h1_, -⟩ hm_
    have hb1_ : S_.2.2.1 98 0 = b_ := (fr_arr hF_ rfl).trans hb_
    have hn2_ : (S_.1 10 0 1) = (n_ : Int) := (hF_.1 10 0 1 rfl).trans hn_
    obtain ⟨q_, hq_, hqn_, h2_⟩ := h1_
    have b1_ : 0 ≤ S_.1 10 0 8 ∧ S_.1 10 0 8 ≤ 1280 := hI_.1 10 0 8 rfl
    have b2_ : 0 ≤ S_.1 10 0 1 ∧ S_.1 10 0 1 ≤ 1280 := hI_.1 10 0 1 rfl
    refine sm_T_go 4 (c1 := (10, [some (.inr (.inr (some (10, 0)))), some (.inl c_), none], [.inl (S_.1 10 0 1), .inl (S_.1 10 0 8)], S_)) rfl ?_
    refine sm_T_br (a := 3) (z := 71) rfl (fun c3_ => ?_) (fun c3_ => ?_)
    · have c3_ : (S_.1 10 0 1) ≤ (S_.1 10 0 8) := of_decide_eq_true c3_
      refine sm_T_rv rfl ⟨_, _, rfl, rfl, hI_, hF_, ?_⟩
      rw [lx_s_end (by omega)] at h2_
      rw [← h2_]; exact hq_
    · have c3_ : ¬ ((S_.1 10 0 1) ≤ (S_.1 10 0 8)) := of_decide_eq_false c3_
      refine sm_T_go 4 (c1 := (21, [some (.inr (.inr (some (10, 0)))), some (.inl c_), none], [.inl (S_.1 10 0 8), .inr (.inr (some (98, 0)))], S_)) rfl ?_
      refine sm_T_bald (n := 65536) rfl rfl (by omega) (by omega) ?_
      have b4_ : (-128) ≤ S_.2.2.1 98 0 (S_.1 10 0 8).toNat ∧ S_.2.2.1 98 0 (S_.1 10 0 8).toNat ≤ 127 := hI_.2 98 0 _
      refine sm_T_go 3 (c1 := (26, [some (.inr (.inr (some (10, 0)))), some (.inl c_), some (.inl (S_.2.2.1 98 0 (S_.1 10 0 8).toNat))], [.inl 35, .inl (S_.2.2.1 98 0 (S_.1 10 0 8).toNat)], S_)) rfl ?_
      refine sm_T_br (a := 1) (z := 8) rfl (fun c5_ => ?_) (fun c5_ => ?_)
      · have c5_ : (S_.2.2.1 98 0 (S_.1 10 0 8).toNat) ≠ 35 := of_decide_eq_true c5_
        refine sm_T_go 2 (c1 := (37, [some (.inr (.inr (some (10, 0)))), some (.inl c_), some (.inl (S_.2.2.1 98 0 (S_.1 10 0 8).toNat))], [.inl 10, .inl (S_.2.2.1 98 0 (S_.1 10 0 8).toNat)], S_)) rfl ?_
        refine sm_T_br (a := 1) (z := 8) rfl (fun c6_ => ?_) (fun c6_ => ?_)
        · have c6_ : (S_.2.2.1 98 0 (S_.1 10 0 8).toNat) ≠ 10 := of_decide_eq_true c6_
          refine sm_T_go 1 (c1 := (46, [some (.inr (.inr (some (10, 0)))), some (.inl c_), some (.inl (S_.2.2.1 98 0 (S_.1 10 0 8).toNat))], [.inl c_], S_)) rfl ?_
          refine sm_T_b0 (a := 1) (z := 22) rfl (fun c7_ => ?_) (fun c7_ => ?_)
          · have c7_ : c_ ≠ 0 := of_decide_eq_true c7_
            refine sm_T_go 4 (c1 := (74, [some (.inr (.inr (some (10, 0)))), some (.inl c_), some (.inl (S_.2.2.1 98 0 (S_.1 10 0 8).toNat))], [.inl 1, .inl (S_.1 10 0 8), .inr (.inr (some (10, 0)))], S_)) rfl ?_
            refine sm_T_bin (w := (S_.1 10 0 8) + 1) rfl (bi_add (by omega) (by omega) (by omega)) ?_
            have hI8_ : gi (sm_pI S_ 10 0 8 ((S_.1 10 0 8) + 1)) := gi_pI hI_ (show 0 ≤ (S_.1 10 0 8) + 1 ∧ (S_.1 10 0 8) + 1 ≤ 1280 from ⟨by omega, by omega⟩)
            have hF9_ : ai_fr (sx_W vw_192) S0_ (sm_pI S_ 10 0 8 ((S_.1 10 0 8) + 1)) := ai_fr_tr hF_ (ai_fr_pI rfl)
            refine sm_T_go 2 (c1 := (2, [some (.inr (.inr (some (10, 0)))), some (.inl c_), some (.inl (S_.2.2.1 98 0 (S_.1 10 0 8).toNat))], [], sm_pI S_ 10 0 8 ((S_.1 10 0 8) + 1))) rfl ?_
            refine sm_T_wk [some (.inr (.inr (some (10, 0)))), some (.inl c_), none] (by exact ⟨rfl, rfl, trivial⟩) ?_
            refine ih_ c_ (sm_pI S_ 10 0 8 ((S_.1 10 0 8) + 1)) hI8_ hF9_ ⟨?_, ?_, trivial⟩ ?_
            · omega
            · refine ⟨q_ + 1, ?_, by omega, ?_⟩
              · (try simp only [rd_eq, rd_ne, rf_eq, rf_nk, rf_nt, rd_fa, rd_af, rd_fl, rd_al, rd_lf, rd_la, rd_leq, rd_lne, rd_fr, rd_ar, ne_eq, Nat.reduceEqDiff, not_false_eq_true]); push_cast; omega
              · rw [lx_s_go (by omega)] at h2_
                have e_ : (S_.1 10 0 8).toNat = q_ := by omega
                rw [e_, hb1_] at *
                simp_all
            · (try simp only [rd_eq, rd_ne, rf_eq, rf_nk, rf_nt, rd_fa, rd_af, rd_fl, rd_al, rd_lf, rd_la, rd_leq, rd_lne, rd_fr, rd_ar, ne_eq, Nat.reduceEqDiff, not_false_eq_true]); omega
          · have c7_ : ¬ (c_ ≠ 0) := of_decide_eq_false c7_
            refine sm_T_go 2 (c1 := (52, [some (.inr (.inr (some (10, 0)))), some (.inl c_), some (.inl (S_.2.2.1 98 0 (S_.1 10 0 8).toNat))], [.inl 9, .inl (S_.2.2.1 98 0 (S_.1 10 0 8).toNat)], S_)) rfl ?_
            refine sm_T_br (a := 0) (z := 16) rfl (fun c10_ => ?_) (fun c10_ => ?_)
            · have c10_ : (S_.2.2.1 98 0 (S_.1 10 0 8).toNat) = 9 := of_decide_eq_true c10_
              refine sm_T_go 4 (c1 := (74, [some (.inr (.inr (some (10, 0)))), some (.inl c_), some (.inl (S_.2.2.1 98 0 (S_.1 10 0 8).toNat))], [.inl 1, .inl (S_.1 10 0 8), .inr (.inr (some (10, 0)))], S_)) rfl ?_
              refine sm_T_bin (w := (S_.1 10 0 8) + 1) rfl (bi_add (by omega) (by omega) (by omega)) ?_
              have hI11_ : gi (sm_pI S_ 10 0 8 ((S_.1 10 0 8) + 1)) := gi_pI hI_ (show 0 ≤ (S_.1 10 0 8) + 1 ∧ (S_.1 10 0 8) + 1 ≤ 1280 from ⟨by omega, by omega⟩)
              have hF12_ : ai_fr (sx_W vw_192) S0_ (sm_pI S_ 10 0 8 ((S_.1 10 0 8) + 1)) := ai_fr_tr hF_ (ai_fr_pI rfl)
              refine sm_T_go 2 (c1 := (2, [some (.inr (.inr (some (10, 0)))), some (.inl c_), some (.inl (S_.2.2.1 98 0 (S_.1 10 0 8).toNat))], [], sm_pI S_ 10 0 8 ((S_.1 10 0 8) + 1))) rfl ?_
              refine sm_T_wk [some (.inr (.inr (some (10, 0)))), some (.inl c_), none] (by exact ⟨rfl, rfl, trivial⟩) ?_
              refine ih_ c_ (sm_pI S_ 10 0 8 ((S_.1 10 0 8) + 1)) hI11_ hF12_ ⟨?_, ?_, trivial⟩ ?_
              · omega
              · refine ⟨q_ + 1, ?_, by omega, ?_⟩
                · (try simp only [rd_eq, rd_ne, rf_eq, rf_nk, rf_nt, rd_fa, rd_af, rd_fl, rd_al, rd_lf, rd_la, rd_leq, rd_lne, rd_fr, rd_ar, ne_eq, Nat.reduceEqDiff, not_false_eq_true]); push_cast; omega
                · rw [lx_s_go (by omega)] at h2_
                  have e_ : (S_.1 10 0 8).toNat = q_ := by omega
                  rw [e_, hb1_] at *
                  simp_all
              · (try simp only [rd_eq, rd_ne, rf_eq, rf_nk, rf_nt, rd_fa, rd_af, rd_fl, rd_al, rd_lf, rd_la, rd_leq, rd_lne, rd_fr, rd_ar, ne_eq, Nat.reduceEqDiff, not_false_eq_true]); omega
            · have c10_ : ¬ ((S_.2.2.1 98 0 (S_.1 10 0 8).toNat) = 9) := of_decide_eq_false c10_
              refine sm_T_go 2 (c1 := (58, [some (.inr (.inr (some (10, 0)))), some (.inl c_), some (.inl (S_.2.2.1 98 0 (S_.1 10 0 8).toNat))], [.inl 13, .inl (S_.2.2.1 98 0 (S_.1 10 0 8).toNat)], S_)) rfl ?_
              refine sm_T_br (a := 0) (z := 10) rfl (fun c13_ => ?_) (fun c13_ => ?_)
              · have c13_ : (S_.2.2.1 98 0 (S_.1 10 0 8).toNat) = 13 := of_decide_eq_true c13_
                refine sm_T_go 4 (c1 := (74, [some (.inr (.inr (some (10, 0)))), some (.inl c_), some (.inl (S_.2.2.1 98 0 (S_.1 10 0 8).toNat))], [.inl 1, .inl (S_.1 10 0 8), .inr (.inr (some (10, 0)))], S_)) rfl ?_
                refine sm_T_bin (w := (S_.1 10 0 8) + 1) rfl (bi_add (by omega) (by omega) (by omega)) ?_
                have hI14_ : gi (sm_pI S_ 10 0 8 ((S_.1 10 0 8) + 1)) := gi_pI hI_ (show 0 ≤ (S_.1 10 0 8) + 1 ∧ (S_.1 10 0 8) + 1 ≤ 1280 from ⟨by omega, by omega⟩)
                have hF15_ : ai_fr (sx_W vw_192) S0_ (sm_pI S_ 10 0 8 ((S_.1 10 0 8) + 1)) := ai_fr_tr hF_ (ai_fr_pI rfl)
                refine sm_T_go 2 (c1 := (2, [some (.inr (.inr (some (10, 0)))), some (.inl c_), some (.inl (S_.2.2.1 98 0 (S_.1 10 0 8).toNat))], [], sm_pI S_ 10 0 8 ((S_.1 10 0 8) + 1))) rfl ?_
                refine sm_T_wk [some (.inr (.inr (some (10, 0)))), some (.inl c_), none] (by exact ⟨rfl, rfl, trivial⟩) ?_
                refine ih_ c_ (sm_pI S_ 10 0 8 ((S_.1 10 0 8) + 1)) hI14_ hF15_ ⟨?_, ?_, trivial⟩ ?_
                · omega
                · refine ⟨q_ + 1, ?_, by omega, ?_⟩
                  · (try simp only [rd_eq, rd_ne, rf_eq, rf_nk, rf_nt, rd_fa, rd_af, rd_fl, rd_al, rd_lf, rd_la, rd_leq, rd_lne, rd_fr, rd_ar, ne_eq, Nat.reduceEqDiff, not_false_eq_true]); push_cast; omega
                  · rw [lx_s_go (by omega)] at h2_
                    have e_ : (S_.1 10 0 8).toNat = q_ := by omega
                    rw [e_, hb1_] at *
                    simp_all
                · (try simp only [rd_eq, rd_ne, rf_eq, rf_nk, rf_nt, rd_fa, rd_af, rd_fl, rd_al, rd_lf, rd_la, rd_leq, rd_lne, rd_fr, rd_ar, ne_eq, Nat.reduceEqDiff, not_false_eq_true]); omega
              · have c13_ : ¬ ((S_.2.2.1 98 0 (S_.1 10 0 8).toNat) = 13) := of_decide_eq_false c13_
                refine sm_T_go 2 (c1 := (64, [some (.inr (.inr (some (10, 0)))), some (.inl c_), some (.inl (S_.2.2.1 98 0 (S_.1 10 0 8).toNat))], [.inl 32, .inl (S_.2.2.1 98 0 (S_.1 10 0 8).toNat)], S_)) rfl ?_
                refine sm_T_br (a := 0) (z := 4) rfl (fun c16_ => ?_) (fun c16_ => ?_)
                · have c16_ : (S_.2.2.1 98 0 (S_.1 10 0 8).toNat) = 32 := of_decide_eq_true c16_
                  refine sm_T_go 4 (c1 := (74, [some (.inr (.inr (some (10, 0)))), some (.inl c_), some (.inl (S_.2.2.1 98 0 (S_.1 10 0 8).toNat))], [.inl 1, .inl (S_.1 10 0 8), .inr (.inr (some (10, 0)))], S_)) rfl ?_
                  refine sm_T_bin (w := (S_.1 10 0 8) + 1) rfl (bi_add (by omega) (by omega) (by omega)) ?_
                  have hI17_ : gi (sm_pI S_ 10 0 8 ((S_.1 10 0 8) + 1)) := gi_pI hI_ (show 0 ≤ (S_.1 10 0 8) + 1 ∧ (S_.1 10 0 8) + 1 ≤ 1280 from ⟨by omega, by omega⟩)
                  have hF18_ : ai_fr (sx_W vw_192) S0_ (sm_pI S_ 10 0 8 ((S_.1 10 0 8) + 1)) := ai_fr_tr hF_ (ai_fr_pI rfl)
                  refine sm_T_go 2 (c1 := (2, [some (.inr (.inr (some (10, 0)))), some (.inl c_), some (.inl (S_.2.2.1 98 0 (S_.1 10 0 8).toNat))], [], sm_pI S_ 10 0 8 ((S_.1 10 0 8) + 1))) rfl ?_
                  refine sm_T_wk [some (.inr (.inr (some (10, 0)))), some (.inl c_), none] (by exact ⟨rfl, rfl, trivial⟩) ?_
                  refine ih_ c_ (sm_pI S_ 10 0 8 ((S_.1 10 0 8) + 1)) hI17_ hF18_ ⟨?_, ?_, trivial⟩ ?_
                  · omega
                  · refine ⟨q_ + 1, ?_, by omega, ?_⟩
                    · (try simp only [rd_eq, rd_ne, rf_eq, rf_nk, rf_nt, rd_fa, rd_af, rd_fl, rd_al, rd_lf, rd_la, rd_leq, rd_lne, rd_fr, rd_ar, ne_eq, Nat.reduceEqDiff, not_false_eq_true]); push_cast; omega
                    · rw [lx_s_go (by omega)] at h2_
                      have e_ : (S_.1 10 0 8).toNat = q_ := by omega
                      rw [e_, hb1_] at *
                      simp_all
                  · (try simp only [rd_eq, rd_ne, rf_eq, rf_nk, rf_nt, rd_fa, rd_af, rd_fl, rd_al, rd_lf, rd_la, rd_leq, rd_lne, rd_fr, rd_ar, ne_eq, Nat.reduceEqDiff, not_false_eq_true]); omega
                · have c16_ : ¬ ((S_.2.2.1 98 0 (S_.1 10 0 8).toNat) = 32) := of_decide_eq_false c16_
                  refine sm_T_rv rfl ⟨_, _, rfl, rfl, hI_, hF_, ?_⟩
                  have e_ : (S_.1 10 0 8).toNat = q_ := by omega
                  rw [e_, hb1_] at *
                  rw [lx_s_go (by omega)] at h2_
                  simp_all
        · have c6_ : ¬ ((S_.2.2.1 98 0 (S_.1 10 0 8).toNat) ≠ 10) := of_decide_eq_false c6_
          refine sm_T_go 7 (c1 := (74, [some (.inr (.inr (some (10, 0)))), some (.inl 0), some (.inl (S_.2.2.1 98 0 (S_.1 10 0 8).toNat))], [.inl 1, .inl (S_.1 10 0 8), .inr (.inr (some (10, 0)))], S_)) rfl ?_
          refine sm_T_bin (w := (S_.1 10 0 8) + 1) rfl (bi_add (by omega) (by omega) (by omega)) ?_
          have hI19_ : gi (sm_pI S_ 10 0 8 ((S_.1 10 0 8) + 1)) := gi_pI hI_ (show 0 ≤ (S_.1 10 0 8) + 1 ∧ (S_.1 10 0 8) + 1 ≤ 1280 from ⟨by omega, by omega⟩)
          have hF20_ : ai_fr (sx_W vw_192) S0_ (sm_pI S_ 10 0 8 ((S_.1 10 0 8) + 1)) := ai_fr_tr hF_ (ai_fr_pI rfl)
          refine sm_T_go 2 (c1 := (2, [some (.inr (.inr (some (10, 0)))), some (.inl 0), some (.inl (S_.2.2.1 98 0 (S_.1 10 0 8).toNat))], [], sm_pI S_ 10 0 8 ((S_.1 10 0 8) + 1))) rfl ?_
          refine sm_T_wk [some (.inr (.inr (some (10, 0)))), some (.inl 0), none] (by exact ⟨rfl, rfl, trivial⟩) ?_
          refine ih_ 0 (sm_pI S_ 10 0 8 ((S_.1 10 0 8) + 1)) hI19_ hF20_ ⟨?_, ?_, trivial⟩ ?_
          · omega
          · refine ⟨q_ + 1, ?_, by omega, ?_⟩
            · (try simp only [rd_eq, rd_ne, rf_eq, rf_nk, rf_nt, rd_fa, rd_af, rd_fl, rd_al, rd_lf, rd_la, rd_leq, rd_lne, rd_fr, rd_ar, ne_eq, Nat.reduceEqDiff, not_false_eq_true]); push_cast; omega
            · rw [lx_s_go (by omega)] at h2_
              have e_ : (S_.1 10 0 8).toNat = q_ := by omega
              rw [e_, hb1_] at *
              simp_all
          · (try simp only [rd_eq, rd_ne, rf_eq, rf_nk, rf_nt, rd_fa, rd_af, rd_fl, rd_al, rd_lf, rd_la, rd_leq, rd_lne, rd_fr, rd_ar, ne_eq, Nat.reduceEqDiff, not_false_eq_true]); omega
      · have c5_ : ¬ ((S_.2.2.1 98 0 (S_.1 10 0 8).toNat) ≠ 35) := of_decide_eq_false c5_
        refine sm_T_go 7 (c1 := (74, [some (.inr (.inr (some (10, 0)))), some (.inl 1), some (.inl (S_.2.2.1 98 0 (S_.1 10 0 8).toNat))], [.inl 1, .inl (S_.1 10 0 8), .inr (.inr (some (10, 0)))], S_)) rfl ?_
        refine sm_T_bin (w := (S_.1 10 0 8) + 1) rfl (bi_add (by omega) (by omega) (by omega)) ?_
        have hI21_ : gi (sm_pI S_ 10 0 8 ((S_.1 10 0 8) + 1)) := gi_pI hI_ (show 0 ≤ (S_.1 10 0 8) + 1 ∧ (S_.1 10 0 8) + 1 ≤ 1280 from ⟨by omega, by omega⟩)
        have hF22_ : ai_fr (sx_W vw_192) S0_ (sm_pI S_ 10 0 8 ((S_.1 10 0 8) + 1)) := ai_fr_tr hF_ (ai_fr_pI rfl)
        refine sm_T_go 2 (c1 := (2, [some (.inr (.inr (some (10, 0)))), some (.inl 1), some (.inl (S_.2.2.1 98 0 (S_.1 10 0 8).toNat))], [], sm_pI S_ 10 0 8 ((S_.1 10 0 8) + 1))) rfl ?_
        refine sm_T_wk [some (.inr (.inr (some (10, 0)))), some (.inl 1), none] (by exact ⟨rfl, rfl, trivial⟩) ?_
        refine ih_ 1 (sm_pI S_ 10 0 8 ((S_.1 10 0 8) + 1)) hI21_ hF22_ ⟨?_, ?_, trivial⟩ ?_
        · omega
        · refine ⟨q_ + 1, ?_, by omega, ?_⟩
          · (try simp only [rd_eq, rd_ne, rf_eq, rf_nk, rf_nt, rd_fa, rd_af, rd_fl, rd_al, rd_lf, rd_la, rd_leq, rd_lne, rd_fr, rd_ar, ne_eq, Nat.reduceEqDiff, not_false_eq_true]); push_cast; omega
          · rw [lx_s_go (by omega)] at h2_
            have e_ : (S_.1 10 0 8).toNat = q_ := by omega
            rw [e_, hb1_] at *
            simp_all
        · (try simp only [rd_eq, rd_ne, rf_eq, rf_nk, rf_nt, rd_fa, rd_af, rd_fl, rd_al, rd_lf, rd_la, rd_leq, rd_lne, rd_fr, rd_ar, ne_eq, Nat.reduceEqDiff, not_false_eq_true]); omega
theorem vc_192 {sc_ : Nat × (Nat → Int)} (b_ : Nat → Int) (n_ : Nat) (p_ : Nat) (S0_ : sm_S) (hI_ : gi S0_) (hb_ : S0_.2.2.1 98 0 = b_) (hn_ : (S0_.1 10 0 1) = (n_ : Int)) (hn1_ : n_ ≤ 1280) (hp_ : (S0_.1 10 0 8) = (p_ : Int)) (hpn_ : p_ ≤ n_) : sm_T (mt_P sc_) 0 192 (0, [some (.inr (.inr (some (10, 0)))), none, none], [], S0_) (fun r_ => ∃ u_ S1_, r_ = (.inl u_, S1_, 0) ∧ vq_192 b_ n_ p_ S0_ u_ S1_) := by
  have hF_ : ai_fr (sx_W vw_192) S0_ S0_ := ai_fr_rf
  refine sm_T_go 2 (c1 := (2, [some (.inr (.inr (some (10, 0)))), some (.inl 0), none], [], S0_)) rfl ?_
  refine (vl_192 b_ n_ p_ S0_ hb_ hn_ hn1_ hp_ hpn_ _) 0 S0_ hI_ hF_ ⟨?_, ?_, trivial⟩ (Nat.lt_succ_self _)
  · omega
  · exact ⟨p_, hp_, hpn_, rfl⟩
/-! Text.readName -/
def vw_193 : sx_Wl := ([(10, 2), (10, 4), (10, 8)], [], [])
def vq_193 (b_ : Nat → Int) (n_ : Nat) (p_ : Nat) (S0_ : sm_S) (u_ : Option sm_V) (S1_ : sm_S) : Prop := ∃ v_ : Int, u_ = some (.inl v_) ∧ gi S1_ ∧ ai_fr (sx_W vw_193) S0_ S1_ ∧ ((v_ = if lx_ne b_ n_ p_ - p_ ≤ 12 then 1 else 0) ∧ (S1_.1 10 0 8) = (lx_ne b_ n_ p_ : Nat) ∧ (S1_.1 10 0 4) = (lx_ne b_ n_ p_ - p_ : Nat) ∧ (S1_.1 10 0 2) = lx_wk (lx_pk b_ p_ (lx_ne b_ n_ p_ - p_)) 7)
theorem vl_193 {sc_ : Nat × (Nat → Int)} (b_ : Nat → Int) (n_ : Nat) (p_ : Nat) (S0_ : sm_S) (hb_ : S0_.2.2.1 98 0 = b_) (hn_ : (S0_.1 10 0 1) = (n_ : Int)) (hn1_ : n_ ≤ 1280) (hp_ : (S0_.1 10 0 8) = (p_ : Int)) (hpn_ : p_ ≤ n_) (hz_ : (S0_.1 10 0 4) = 0) : ∀ nn_ : Nat, (∀ (x_ : Int) (S_ : sm_S), gi S_ → ai_fr (sx_W vw_193) S0_ S_ → ((∃ k_ : Nat, (S_.1 10 0 8) = ((p_ + k_ : Nat) : Int) ∧ (S_.1 10 0 4) = (k_ : Int) ∧ p_ + k_ ≤ n_ ∧ lx_ne b_ n_ (p_ + k_) = lx_ne b_ n_ p_ ∧ x_ = lx_pk b_ p_ k_) ∧ True) → (1400 - (S_.1 10 0 8).toNat) < nn_ → sm_T (mt_P sc_) 0 193 (2, [some (.inr (.inr (some (10, 0)))), some (.inr (.inl x_)), none, none, none], [], S_) (fun r_ => ∃ u_ S1_, r_ = (.inl u_, S1_, 0) ∧ vq_193 b_ n_ p_ S0_ u_ S1_)) ∧ (∀ (x_ : Int) (k_ : Int) (S_ : sm_S), gi S_ → ai_fr (sx_W vw_193) S0_ S_ → ((0 ≤ k_ ∧ k_ ≤ 7) ∧ ((S_.1 10 0 8) = (lx_ne b_ n_ p_ : Nat) ∧ (S_.1 10 0 4) = (lx_ne b_ n_ p_ - p_ : Nat) ∧ x_ = lx_pk b_ p_ (lx_ne b_ n_ p_ - p_)) ∧ ((S_.1 10 0 2) = lx_wk x_ k_.toNat) ∧ True) → ((7 - k_).toNat) < nn_ → sm_T (mt_P sc_) 0 193 (125, [some (.inr (.inr (some (10, 0)))), some (.inr (.inl x_)), none, some (.inl k_), none], [], S_) (fun r_ => ∃ u_ S1_, r_ = (.inl u_, S1_, 0) ∧ vq_193 b_ n_ p_ S0_ u_ S1_)) := by
  intro nn_
  induction nn_ with
  | zero => exact ⟨fun _ _ _ _ _ h_ => absurd h_ (Nat.not_lt_zero _), fun _ _ _ _ _ _ h_ => absurd h_ (Nat.not_lt_zero _)⟩
  | succ nn_ ih_ =>
    refine ⟨?_, ?_⟩
    · rintro x_ S_ hI_ hF_ ⟨h1_, -⟩ hm_
      have hb1_ : S_.2.2.1 98 0 = b_ := (fr_arr hF_ rfl).trans hb_
      have hn2_ : (S_.1 10 0 1) = (n_ : Int) := (hF_.1 10 0 1 rfl).trans hn_
      obtain ⟨k_, hq_, hs_, hqn_, h2_, h3_⟩ := h1_
      have e_ : (S_.1 10 0 8).toNat = p_ + k_ := by omega
      have e9_ : S_.2.2.1 98 0 (S_.1 10 0 8).toNat = b_ (p_ + k_) := by rw [e_, hb1_]
      have b1_ : 0 ≤ S_.1 10 0 8 ∧ S_.1 10 0 8 ≤ 1280 := hI_.1 10 0 8 rfl
      have b2_ : 0 ≤ S_.1 10 0 1 ∧ S_.1 10 0 1 ≤ 1280 := hI_.1 10 0 1 rfl
      refine sm_T_go 4 (c1 := (10, [some (.inr (.inr (some (10, 0)))), some (.inr (.inl x_)), none, none, none], [.inl (S_.1 10 0 1), .inl (S_.1 10 0 8)], S_)) rfl ?_
      refine sm_T_br (a := 3) (z := 108) rfl (fun c3_ => ?_) (fun c3_ => ?_)
      · have c3_ : (S_.1 10 0 1) ≤ (S_.1 10 0 8) := of_decide_eq_true c3_
        have hI4_ : gi (sm_pI S_ 10 0 2 1) := gi_pI hI_ (show (-128) ≤ 1 ∧ 1 ≤ 257 from ⟨by omega, by omega⟩)
        have hF5_ : ai_fr (sx_W vw_193) S0_ (sm_pI S_ 10 0 2 1) := ai_fr_tr hF_ (ai_fr_pI rfl)
        refine sm_T_go 5 (c1 := (125, [some (.inr (.inr (some (10, 0)))), some (.inr (.inl x_)), none, some (.inl 0), none], [], sm_pI S_ 10 0 2 1)) rfl ?_
        refine ih_.2 x_ 0 (sm_pI S_ 10 0 2 1) hI4_ hF5_ ⟨?_, ?_, ?_, trivial⟩ ?_
        · omega
        · have e4_ : lx_ne b_ n_ p_ = p_ + k_ := by rw [← h2_, lx_e_go]; exact if_neg (by omega)
          rw [e4_]
          (try simp only [rd_eq, rd_ne, rf_eq, rf_nk, rf_nt, rd_fa, rd_af, rd_fl, rd_al, rd_lf, rd_la, rd_leq, rd_lne, rd_fr, rd_ar, ne_eq, Nat.reduceEqDiff, not_false_eq_true])
          refine ⟨by omega, by omega, ?_⟩
          rw [h3_]; congr 1; omega
        · (try simp only [rd_eq, rd_ne, rf_eq, rf_nk, rf_nt, rd_fa, rd_af, rd_fl, rd_al, rd_lf, rd_la, rd_leq, rd_lne, rd_fr, rd_ar, ne_eq, Nat.reduceEqDiff, not_false_eq_true]); rfl
        · (try simp only [rd_eq, rd_ne, rf_eq, rf_nk, rf_nt, rd_fa, rd_af, rd_fl, rd_al, rd_lf, rd_la, rd_leq, rd_lne, rd_fr, rd_ar, ne_eq, Nat.reduceEqDiff, not_false_eq_true]); omega
      · have c3_ : ¬ ((S_.1 10 0 1) ≤ (S_.1 10 0 8)) := of_decide_eq_false c3_
        refine sm_T_go 4 (c1 := (21, [some (.inr (.inr (some (10, 0)))), some (.inr (.inl x_)), none, none, none], [.inl (S_.1 10 0 8), .inr (.inr (some (98, 0)))], S_)) rfl ?_
        refine sm_T_bald (n := 65536) rfl rfl (by omega) (by omega) ?_
        have b6_ : (-128) ≤ S_.2.2.1 98 0 (S_.1 10 0 8).toNat ∧ S_.2.2.1 98 0 (S_.1 10 0 8).toNat ≤ 127 := hI_.2 98 0 _
        refine sm_T_go 3 (c1 := (26, [some (.inr (.inr (some (10, 0)))), some (.inr (.inl x_)), none, some (.inl (S_.2.2.1 98 0 (S_.1 10 0 8).toNat)), none], [.inl 32, .inl (S_.2.2.1 98 0 (S_.1 10 0 8).toNat)], S_)) rfl ?_
        refine sm_T_bin (w := (i_or (S_.2.2.1 98 0 (S_.1 10 0 8).toNat) 32)) rfl rfl ?_
        have b7_ := lx_or (x := (S_.2.2.1 98 0 (S_.1 10 0 8).toNat)) (by omega) (by omega)
        refine sm_T_go 1 (c1 := (29, [some (.inr (.inr (some (10, 0)))), some (.inr (.inl x_)), none, some (.inl (S_.2.2.1 98 0 (S_.1 10 0 8).toNat)), none], [.inl 97, .inl (i_or (S_.2.2.1 98 0 (S_.1 10 0 8).toNat) 32)], S_)) rfl ?_
        refine sm_T_br (a := 2) (z := 12) rfl (fun c8_ => ?_) (fun c8_ => ?_)
        · have c8_ : (i_or (S_.2.2.1 98 0 (S_.1 10 0 8).toNat) 32) < 97 := of_decide_eq_true c8_
          refine sm_T_go 2 (c1 := (44, [some (.inr (.inr (some (10, 0)))), some (.inr (.inl x_)), none, some (.inl (S_.2.2.1 98 0 (S_.1 10 0 8).toNat)), none], [.inl 95, .inl (S_.2.2.1 98 0 (S_.1 10 0 8).toNat)], S_)) rfl ?_
          refine sm_T_br (a := 1) (z := 7) rfl (fun c9_ => ?_) (fun c9_ => ?_)
          · have c9_ : (S_.2.2.1 98 0 (S_.1 10 0 8).toNat) ≠ 95 := of_decide_eq_true c9_
            refine sm_T_go 6 (c1 := (62, [some (.inr (.inr (some (10, 0)))), some (.inr (.inl x_)), none, some (.inl (S_.2.2.1 98 0 (S_.1 10 0 8).toNat)), some (.inl 0)], [.inl 48, .inl (S_.2.2.1 98 0 (S_.1 10 0 8).toNat)], S_)) rfl ?_
            refine sm_T_br (a := 2) (z := 56) rfl (fun c10_ => ?_) (fun c10_ => ?_)
            · have c10_ : (S_.2.2.1 98 0 (S_.1 10 0 8).toNat) < 48 := of_decide_eq_true c10_
              have hI11_ : gi (sm_pI S_ 10 0 2 1) := gi_pI hI_ (show (-128) ≤ 1 ∧ 1 ≤ 257 from ⟨by omega, by omega⟩)
              have hF12_ : ai_fr (sx_W vw_193) S0_ (sm_pI S_ 10 0 2 1) := ai_fr_tr hF_ (ai_fr_pI rfl)
              refine sm_T_go 5 (c1 := (125, [some (.inr (.inr (some (10, 0)))), some (.inr (.inl x_)), none, some (.inl 0), some (.inl 0)], [], sm_pI S_ 10 0 2 1)) rfl ?_
              refine sm_T_wk [some (.inr (.inr (some (10, 0)))), some (.inr (.inl x_)), none, some (.inl 0), none] (by exact ⟨rfl, rfl, rfl, trivial⟩) ?_
              refine ih_.2 x_ 0 (sm_pI S_ 10 0 2 1) hI11_ hF12_ ⟨?_, ?_, ?_, trivial⟩ ?_
              · omega
              · have e4_ : lx_ne b_ n_ p_ = p_ + k_ := by rw [← h2_, lx_e_go]; exact if_neg (by omega)
                rw [e4_]
                (try simp only [rd_eq, rd_ne, rf_eq, rf_nk, rf_nt, rd_fa, rd_af, rd_fl, rd_al, rd_lf, rd_la, rd_leq, rd_lne, rd_fr, rd_ar, ne_eq, Nat.reduceEqDiff, not_false_eq_true])
                refine ⟨by omega, by omega, ?_⟩
                rw [h3_]; congr 1; omega
              · (try simp only [rd_eq, rd_ne, rf_eq, rf_nk, rf_nt, rd_fa, rd_af, rd_fl, rd_al, rd_lf, rd_la, rd_leq, rd_lne, rd_fr, rd_ar, ne_eq, Nat.reduceEqDiff, not_false_eq_true]); rfl
              · (try simp only [rd_eq, rd_ne, rf_eq, rf_nk, rf_nt, rd_fa, rd_af, rd_fl, rd_al, rd_lf, rd_la, rd_leq, rd_lne, rd_fr, rd_ar, ne_eq, Nat.reduceEqDiff, not_false_eq_true]); omega
            · have c10_ : ¬ ((S_.2.2.1 98 0 (S_.1 10 0 8).toNat) < 48) := of_decide_eq_false c10_
              refine sm_T_go 2 (c1 := (68, [some (.inr (.inr (some (10, 0)))), some (.inr (.inl x_)), none, some (.inl (S_.2.2.1 98 0 (S_.1 10 0 8).toNat)), some (.inl 0)], [.inl 57, .inl (S_.2.2.1 98 0 (S_.1 10 0 8).toNat)], S_)) rfl ?_
              refine sm_T_br (a := 5) (z := 6) rfl (fun c13_ => ?_) (fun c13_ => ?_)
              · have c13_ : (S_.2.2.1 98 0 (S_.1 10 0 8).toNat) ≤ 57 := of_decide_eq_true c13_
                have b14_ : 0 ≤ S_.1 10 0 4 ∧ S_.1 10 0 4 ≤ 1280 := hI_.1 10 0 4 rfl
                refine sm_T_go 3 (c1 := (80, [some (.inr (.inr (some (10, 0)))), some (.inr (.inl x_)), none, some (.inl (S_.2.2.1 98 0 (S_.1 10 0 8).toNat)), some (.inl 0)], [.inl 8, .inl (S_.1 10 0 4)], S_)) rfl ?_
                refine sm_T_br (a := 3) (z := 13) rfl (fun c15_ => ?_) (fun c15_ => ?_)
                · have c15_ : 8 ≤ (S_.1 10 0 4) := of_decide_eq_true c15_
                  refine sm_T_go 6 (c1 := (101, [some (.inr (.inr (some (10, 0)))), some (.inr (.inl 0)), none, some (.inl (S_.2.2.1 98 0 (S_.1 10 0 8).toNat)), some (.inl 0)], [.inl 1, .inl (S_.1 10 0 4), .inr (.inr (some (10, 0)))], S_)) rfl ?_
                  refine sm_T_bin (w := (S_.1 10 0 4) + 1) rfl (bi_add (by omega) (by omega) (by omega)) ?_
                  have hI16_ : gi (sm_pI S_ 10 0 4 ((S_.1 10 0 4) + 1)) := gi_pI hI_ (show 0 ≤ (S_.1 10 0 4) + 1 ∧ (S_.1 10 0 4) + 1 ≤ 1280 from ⟨by omega, by omega⟩)
                  have hF17_ : ai_fr (sx_W vw_193) S0_ (sm_pI S_ 10 0 4 ((S_.1 10 0 4) + 1)) := ai_fr_tr hF_ (ai_fr_pI rfl)
                  refine sm_T_go 5 (c1 := (111, [some (.inr (.inr (some (10, 0)))), some (.inr (.inl 0)), none, some (.inl (S_.2.2.1 98 0 (S_.1 10 0 8).toNat)), some (.inl 0)], [.inl 1, .inl (S_.1 10 0 8), .inr (.inr (some (10, 0)))], sm_pI S_ 10 0 4 ((S_.1 10 0 4) + 1))) rfl ?_
                  refine sm_T_bin (w := (S_.1 10 0 8) + 1) rfl (bi_add (by omega) (by omega) (by omega)) ?_
                  have hI18_ : gi (sm_pI (sm_pI S_ 10 0 4 ((S_.1 10 0 4) + 1)) 10 0 8 ((S_.1 10 0 8) + 1)) := gi_pI hI16_ (show 0 ≤ (S_.1 10 0 8) + 1 ∧ (S_.1 10 0 8) + 1 ≤ 1280 from ⟨by omega, by omega⟩)
                  have hF19_ : ai_fr (sx_W vw_193) S0_ (sm_pI (sm_pI S_ 10 0 4 ((S_.1 10 0 4) + 1)) 10 0 8 ((S_.1 10 0 8) + 1)) := ai_fr_tr hF17_ (ai_fr_pI rfl)
                  refine sm_T_go 2 (c1 := (2, [some (.inr (.inr (some (10, 0)))), some (.inr (.inl 0)), none, some (.inl (S_.2.2.1 98 0 (S_.1 10 0 8).toNat)), some (.inl 0)], [], sm_pI (sm_pI S_ 10 0 4 ((S_.1 10 0 4) + 1)) 10 0 8 ((S_.1 10 0 8) + 1))) rfl ?_
                  refine sm_T_wk [some (.inr (.inr (some (10, 0)))), some (.inr (.inl 0)), none, none, none] (by exact ⟨rfl, rfl, trivial⟩) ?_
                  refine ih_.1 0 (sm_pI (sm_pI S_ 10 0 4 ((S_.1 10 0 4) + 1)) 10 0 8 ((S_.1 10 0 8) + 1)) hI18_ hF19_ ⟨?_, trivial⟩ ?_
                  · refine ⟨k_ + 1, ?_, ?_, by omega, ?_, ?_⟩
                    · (try simp only [rd_eq, rd_ne, rf_eq, rf_nk, rf_nt, rd_fa, rd_af, rd_fl, rd_al, rd_lf, rd_la, rd_leq, rd_lne, rd_fr, rd_ar, ne_eq, Nat.reduceEqDiff, not_false_eq_true]); push_cast; omega
                    · (try simp only [rd_eq, rd_ne, rf_eq, rf_nk, rf_nt, rd_fa, rd_af, rd_fl, rd_al, rd_lf, rd_la, rd_leq, rd_lne, rd_fr, rd_ar, ne_eq, Nat.reduceEqDiff, not_false_eq_true]); push_cast; omega
                    · rw [← h2_, lx_e_go (p := p_ + k_)]
                      rw [if_pos (by constructor; omega; omega)]; rfl
                    · unfold lx_pk; rw [← e9_]; first | rw [if_pos (by omega), h3_] | rw [if_neg (by omega)]
                  · (try simp only [rd_eq, rd_ne, rf_eq, rf_nk, rf_nt, rd_fa, rd_af, rd_fl, rd_al, rd_lf, rd_la, rd_leq, rd_lne, rd_fr, rd_ar, ne_eq, Nat.reduceEqDiff, not_false_eq_true]); omega
                · have c15_ : ¬ (8 ≤ (S_.1 10 0 4)) := of_decide_eq_false c15_
                  refine sm_T_go 12 (c1 := (101, [some (.inr (.inr (some (10, 0)))), some (.inr (.inl (l_4 ((l_s0 x_ 7)) ((l_i2l (S_.2.2.1 98 0 (S_.1 10 0 8).toNat)))))), none, some (.inl (S_.2.2.1 98 0 (S_.1 10 0 8).toNat)), some (.inl 0)], [.inl 1, .inl (S_.1 10 0 4), .inr (.inr (some (10, 0)))], S_)) rfl ?_
                  refine sm_T_bin (w := (S_.1 10 0 4) + 1) rfl (bi_add (by omega) (by omega) (by omega)) ?_
                  have hI20_ : gi (sm_pI S_ 10 0 4 ((S_.1 10 0 4) + 1)) := gi_pI hI_ (show 0 ≤ (S_.1 10 0 4) + 1 ∧ (S_.1 10 0 4) + 1 ≤ 1280 from ⟨by omega, by omega⟩)
                  have hF21_ : ai_fr (sx_W vw_193) S0_ (sm_pI S_ 10 0 4 ((S_.1 10 0 4) + 1)) := ai_fr_tr hF_ (ai_fr_pI rfl)
                  refine sm_T_go 5 (c1 := (111, [some (.inr (.inr (some (10, 0)))), some (.inr (.inl (l_4 ((l_s0 x_ 7)) ((l_i2l (S_.2.2.1 98 0 (S_.1 10 0 8).toNat)))))), none, some (.inl (S_.2.2.1 98 0 (S_.1 10 0 8).toNat)), some (.inl 0)], [.inl 1, .inl (S_.1 10 0 8), .inr (.inr (some (10, 0)))], sm_pI S_ 10 0 4 ((S_.1 10 0 4) + 1))) rfl ?_
                  refine sm_T_bin (w := (S_.1 10 0 8) + 1) rfl (bi_add (by omega) (by omega) (by omega)) ?_
                  have hI22_ : gi (sm_pI (sm_pI S_ 10 0 4 ((S_.1 10 0 4) + 1)) 10 0 8 ((S_.1 10 0 8) + 1)) := gi_pI hI20_ (show 0 ≤ (S_.1 10 0 8) + 1 ∧ (S_.1 10 0 8) + 1 ≤ 1280 from ⟨by omega, by omega⟩)
                  have hF23_ : ai_fr (sx_W vw_193) S0_ (sm_pI (sm_pI S_ 10 0 4 ((S_.1 10 0 4) + 1)) 10 0 8 ((S_.1 10 0 8) + 1)) := ai_fr_tr hF21_ (ai_fr_pI rfl)
                  refine sm_T_go 2 (c1 := (2, [some (.inr (.inr (some (10, 0)))), some (.inr (.inl (l_4 ((l_s0 x_ 7)) ((l_i2l (S_.2.2.1 98 0 (S_.1 10 0 8).toNat)))))), none, some (.inl (S_.2.2.1 98 0 (S_.1 10 0 8).toNat)), some (.inl 0)], [], sm_pI (sm_pI S_ 10 0 4 ((S_.1 10 0 4) + 1)) 10 0 8 ((S_.1 10 0 8) + 1))) rfl ?_
                  refine sm_T_wk [some (.inr (.inr (some (10, 0)))), some (.inr (.inl (l_4 ((l_s0 x_ 7)) ((l_i2l (S_.2.2.1 98 0 (S_.1 10 0 8).toNat)))))), none, none, none] (by exact ⟨rfl, rfl, trivial⟩) ?_
                  refine ih_.1 ((l_4 ((l_s0 x_ 7)) ((l_i2l (S_.2.2.1 98 0 (S_.1 10 0 8).toNat))))) (sm_pI (sm_pI S_ 10 0 4 ((S_.1 10 0 4) + 1)) 10 0 8 ((S_.1 10 0 8) + 1)) hI22_ hF23_ ⟨?_, trivial⟩ ?_
                  · refine ⟨k_ + 1, ?_, ?_, by omega, ?_, ?_⟩
                    · (try simp only [rd_eq, rd_ne, rf_eq, rf_nk, rf_nt, rd_fa, rd_af, rd_fl, rd_al, rd_lf, rd_la, rd_leq, rd_lne, rd_fr, rd_ar, ne_eq, Nat.reduceEqDiff, not_false_eq_true]); push_cast; omega
                    · (try simp only [rd_eq, rd_ne, rf_eq, rf_nk, rf_nt, rd_fa, rd_af, rd_fl, rd_al, rd_lf, rd_la, rd_leq, rd_lne, rd_fr, rd_ar, ne_eq, Nat.reduceEqDiff, not_false_eq_true]); push_cast; omega
                    · rw [← h2_, lx_e_go (p := p_ + k_)]
                      rw [if_pos (by constructor; omega; omega)]; rfl
                    · unfold lx_pk; rw [← e9_]; first | rw [if_pos (by omega), h3_] | rw [if_neg (by omega)]
                  · (try simp only [rd_eq, rd_ne, rf_eq, rf_nk, rf_nt, rd_fa, rd_af, rd_fl, rd_al, rd_lf, rd_la, rd_leq, rd_lne, rd_fr, rd_ar, ne_eq, Nat.reduceEqDiff, not_false_eq_true]); omega
              · have c13_ : ¬ ((S_.2.2.1 98 0 (S_.1 10 0 8).toNat) ≤ 57) := of_decide_eq_false c13_
                have hI24_ : gi (sm_pI S_ 10 0 2 1) := gi_pI hI_ (show (-128) ≤ 1 ∧ 1 ≤ 257 from ⟨by omega, by omega⟩)
                have hF25_ : ai_fr (sx_W vw_193) S0_ (sm_pI S_ 10 0 2 1) := ai_fr_tr hF_ (ai_fr_pI rfl)
                refine sm_T_go 6 (c1 := (125, [some (.inr (.inr (some (10, 0)))), some (.inr (.inl x_)), none, some (.inl 0), some (.inl 0)], [], sm_pI S_ 10 0 2 1)) rfl ?_
                refine sm_T_wk [some (.inr (.inr (some (10, 0)))), some (.inr (.inl x_)), none, some (.inl 0), none] (by exact ⟨rfl, rfl, rfl, trivial⟩) ?_
                refine ih_.2 x_ 0 (sm_pI S_ 10 0 2 1) hI24_ hF25_ ⟨?_, ?_, ?_, trivial⟩ ?_
                · omega
                · have e4_ : lx_ne b_ n_ p_ = p_ + k_ := by rw [← h2_, lx_e_go]; exact if_neg (by omega)
                  rw [e4_]
                  (try simp only [rd_eq, rd_ne, rf_eq, rf_nk, rf_nt, rd_fa, rd_af, rd_fl, rd_al, rd_lf, rd_la, rd_leq, rd_lne, rd_fr, rd_ar, ne_eq, Nat.reduceEqDiff, not_false_eq_true])
                  refine ⟨by omega, by omega, ?_⟩
                  rw [h3_]; congr 1; omega
                · (try simp only [rd_eq, rd_ne, rf_eq, rf_nk, rf_nt, rd_fa, rd_af, rd_fl, rd_al, rd_lf, rd_la, rd_leq, rd_lne, rd_fr, rd_ar, ne_eq, Nat.reduceEqDiff, not_false_eq_true]); rfl
                · (try simp only [rd_eq, rd_ne, rf_eq, rf_nk, rf_nt, rd_fa, rd_af, rd_fl, rd_al, rd_lf, rd_la, rd_leq, rd_lne, rd_fr, rd_ar, ne_eq, Nat.reduceEqDiff, not_false_eq_true]); omega
          · have c9_ : ¬ ((S_.2.2.1 98 0 (S_.1 10 0 8).toNat) ≠ 95) := of_decide_eq_false c9_
            have b26_ : 0 ≤ S_.1 10 0 4 ∧ S_.1 10 0 4 ≤ 1280 := hI_.1 10 0 4 rfl
            refine sm_T_go 8 (c1 := (80, [some (.inr (.inr (some (10, 0)))), some (.inr (.inl x_)), none, some (.inl (S_.2.2.1 98 0 (S_.1 10 0 8).toNat)), some (.inl 1)], [.inl 8, .inl (S_.1 10 0 4)], S_)) rfl ?_
            refine sm_T_br (a := 3) (z := 13) rfl (fun c27_ => ?_) (fun c27_ => ?_)
            · have c27_ : 8 ≤ (S_.1 10 0 4) := of_decide_eq_true c27_
              refine sm_T_go 6 (c1 := (101, [some (.inr (.inr (some (10, 0)))), some (.inr (.inl 0)), none, some (.inl (S_.2.2.1 98 0 (S_.1 10 0 8).toNat)), some (.inl 1)], [.inl 1, .inl (S_.1 10 0 4), .inr (.inr (some (10, 0)))], S_)) rfl ?_
              refine sm_T_bin (w := (S_.1 10 0 4) + 1) rfl (bi_add (by omega) (by omega) (by omega)) ?_
              have hI28_ : gi (sm_pI S_ 10 0 4 ((S_.1 10 0 4) + 1)) := gi_pI hI_ (show 0 ≤ (S_.1 10 0 4) + 1 ∧ (S_.1 10 0 4) + 1 ≤ 1280 from ⟨by omega, by omega⟩)
              have hF29_ : ai_fr (sx_W vw_193) S0_ (sm_pI S_ 10 0 4 ((S_.1 10 0 4) + 1)) := ai_fr_tr hF_ (ai_fr_pI rfl)
              refine sm_T_go 5 (c1 := (111, [some (.inr (.inr (some (10, 0)))), some (.inr (.inl 0)), none, some (.inl (S_.2.2.1 98 0 (S_.1 10 0 8).toNat)), some (.inl 1)], [.inl 1, .inl (S_.1 10 0 8), .inr (.inr (some (10, 0)))], sm_pI S_ 10 0 4 ((S_.1 10 0 4) + 1))) rfl ?_
              refine sm_T_bin (w := (S_.1 10 0 8) + 1) rfl (bi_add (by omega) (by omega) (by omega)) ?_
              have hI30_ : gi (sm_pI (sm_pI S_ 10 0 4 ((S_.1 10 0 4) + 1)) 10 0 8 ((S_.1 10 0 8) + 1)) := gi_pI hI28_ (show 0 ≤ (S_.1 10 0 8) + 1 ∧ (S_.1 10 0 8) + 1 ≤ 1280 from ⟨by omega, by omega⟩)
              have hF31_ : ai_fr (sx_W vw_193) S0_ (sm_pI (sm_pI S_ 10 0 4 ((S_.1 10 0 4) + 1)) 10 0 8 ((S_.1 10 0 8) + 1)) := ai_fr_tr hF29_ (ai_fr_pI rfl)
              refine sm_T_go 2 (c1 := (2, [some (.inr (.inr (some (10, 0)))), some (.inr (.inl 0)), none, some (.inl (S_.2.2.1 98 0 (S_.1 10 0 8).toNat)), some (.inl 1)], [], sm_pI (sm_pI S_ 10 0 4 ((S_.1 10 0 4) + 1)) 10 0 8 ((S_.1 10 0 8) + 1))) rfl ?_
              refine sm_T_wk [some (.inr (.inr (some (10, 0)))), some (.inr (.inl 0)), none, none, none] (by exact ⟨rfl, rfl, trivial⟩) ?_
              refine ih_.1 0 (sm_pI (sm_pI S_ 10 0 4 ((S_.1 10 0 4) + 1)) 10 0 8 ((S_.1 10 0 8) + 1)) hI30_ hF31_ ⟨?_, trivial⟩ ?_
              · refine ⟨k_ + 1, ?_, ?_, by omega, ?_, ?_⟩
                · (try simp only [rd_eq, rd_ne, rf_eq, rf_nk, rf_nt, rd_fa, rd_af, rd_fl, rd_al, rd_lf, rd_la, rd_leq, rd_lne, rd_fr, rd_ar, ne_eq, Nat.reduceEqDiff, not_false_eq_true]); push_cast; omega
                · (try simp only [rd_eq, rd_ne, rf_eq, rf_nk, rf_nt, rd_fa, rd_af, rd_fl, rd_al, rd_lf, rd_la, rd_leq, rd_lne, rd_fr, rd_ar, ne_eq, Nat.reduceEqDiff, not_false_eq_true]); push_cast; omega
                · rw [← h2_, lx_e_go (p := p_ + k_)]
                  rw [if_pos (by constructor; omega; omega)]; rfl
                · unfold lx_pk; rw [← e9_]; first | rw [if_pos (by omega), h3_] | rw [if_neg (by omega)]
              · (try simp only [rd_eq, rd_ne, rf_eq, rf_nk, rf_nt, rd_fa, rd_af, rd_fl, rd_al, rd_lf, rd_la, rd_leq, rd_lne, rd_fr, rd_ar, ne_eq, Nat.reduceEqDiff, not_false_eq_true]); omega
            · have c27_ : ¬ (8 ≤ (S_.1 10 0 4)) := of_decide_eq_false c27_
              refine sm_T_go 12 (c1 := (101, [some (.inr (.inr (some (10, 0)))), some (.inr (.inl (l_4 ((l_s0 x_ 7)) ((l_i2l (S_.2.2.1 98 0 (S_.1 10 0 8).toNat)))))), none, some (.inl (S_.2.2.1 98 0 (S_.1 10 0 8).toNat)), some (.inl 1)], [.inl 1, .inl (S_.1 10 0 4), .inr (.inr (some (10, 0)))], S_)) rfl ?_
              refine sm_T_bin (w := (S_.1 10 0 4) + 1) rfl (bi_add (by omega) (by omega) (by omega)) ?_
              have hI32_ : gi (sm_pI S_ 10 0 4 ((S_.1 10 0 4) + 1)) := gi_pI hI_ (show 0 ≤ (S_.1 10 0 4) + 1 ∧ (S_.1 10 0 4) + 1 ≤ 1280 from ⟨by omega, by omega⟩)
              have hF33_ : ai_fr (sx_W vw_193) S0_ (sm_pI S_ 10 0 4 ((S_.1 10 0 4) + 1)) := ai_fr_tr hF_ (ai_fr_pI rfl)
              refine sm_T_go 5 (c1 := (111, [some (.inr (.inr (some (10, 0)))), some (.inr (.inl (l_4 ((l_s0 x_ 7)) ((l_i2l (S_.2.2.1 98 0 (S_.1 10 0 8).toNat)))))), none, some (.inl (S_.2.2.1 98 0 (S_.1 10 0 8).toNat)), some (.inl 1)], [.inl 1, .inl (S_.1 10 0 8), .inr (.inr (some (10, 0)))], sm_pI S_ 10 0 4 ((S_.1 10 0 4) + 1))) rfl ?_
              refine sm_T_bin (w := (S_.1 10 0 8) + 1) rfl (bi_add (by omega) (by omega) (by omega)) ?_
              have hI34_ : gi (sm_pI (sm_pI S_ 10 0 4 ((S_.1 10 0 4) + 1)) 10 0 8 ((S_.1 10 0 8) + 1)) := gi_pI hI32_ (show 0 ≤ (S_.1 10 0 8) + 1 ∧ (S_.1 10 0 8) + 1 ≤ 1280 from ⟨by omega, by omega⟩)
              have hF35_ : ai_fr (sx_W vw_193) S0_ (sm_pI (sm_pI S_ 10 0 4 ((S_.1 10 0 4) + 1)) 10 0 8 ((S_.1 10 0 8) + 1)) := ai_fr_tr hF33_ (ai_fr_pI rfl)
              refine sm_T_go 2 (c1 := (2, [some (.inr (.inr (some (10, 0)))), some (.inr (.inl (l_4 ((l_s0 x_ 7)) ((l_i2l (S_.2.2.1 98 0 (S_.1 10 0 8).toNat)))))), none, some (.inl (S_.2.2.1 98 0 (S_.1 10 0 8).toNat)), some (.inl 1)], [], sm_pI (sm_pI S_ 10 0 4 ((S_.1 10 0 4) + 1)) 10 0 8 ((S_.1 10 0 8) + 1))) rfl ?_
              refine sm_T_wk [some (.inr (.inr (some (10, 0)))), some (.inr (.inl (l_4 ((l_s0 x_ 7)) ((l_i2l (S_.2.2.1 98 0 (S_.1 10 0 8).toNat)))))), none, none, none] (by exact ⟨rfl, rfl, trivial⟩) ?_
              refine ih_.1 ((l_4 ((l_s0 x_ 7)) ((l_i2l (S_.2.2.1 98 0 (S_.1 10 0 8).toNat))))) (sm_pI (sm_pI S_ 10 0 4 ((S_.1 10 0 4) + 1)) 10 0 8 ((S_.1 10 0 8) + 1)) hI34_ hF35_ ⟨?_, trivial⟩ ?_
              · refine ⟨k_ + 1, ?_, ?_, by omega, ?_, ?_⟩
                · (try simp only [rd_eq, rd_ne, rf_eq, rf_nk, rf_nt, rd_fa, rd_af, rd_fl, rd_al, rd_lf, rd_la, rd_leq, rd_lne, rd_fr, rd_ar, ne_eq, Nat.reduceEqDiff, not_false_eq_true]); push_cast; omega
                · (try simp only [rd_eq, rd_ne, rf_eq, rf_nk, rf_nt, rd_fa, rd_af, rd_fl, rd_al, rd_lf, rd_la, rd_leq, rd_lne, rd_fr, rd_ar, ne_eq, Nat.reduceEqDiff, not_false_eq_true]); push_cast; omega
                · rw [← h2_, lx_e_go (p := p_ + k_)]
                  rw [if_pos (by constructor; omega; omega)]; rfl
                · unfold lx_pk; rw [← e9_]; first | rw [if_pos (by omega), h3_] | rw [if_neg (by omega)]
              · (try simp only [rd_eq, rd_ne, rf_eq, rf_nk, rf_nt, rd_fa, rd_af, rd_fl, rd_al, rd_lf, rd_la, rd_leq, rd_lne, rd_fr, rd_ar, ne_eq, Nat.reduceEqDiff, not_false_eq_true]); omega
        · have c8_ : ¬ ((i_or (S_.2.2.1 98 0 (S_.1 10 0 8).toNat) 32) < 97) := of_decide_eq_false c8_
          refine sm_T_go 2 (c1 := (35, [some (.inr (.inr (some (10, 0)))), some (.inr (.inl x_)), none, some (.inl (S_.2.2.1 98 0 (S_.1 10 0 8).toNat)), none], [.inl 32, .inl (S_.2.2.1 98 0 (S_.1 10 0 8).toNat)], S_)) rfl ?_
          refine sm_T_bin (w := (i_or (S_.2.2.1 98 0 (S_.1 10 0 8).toNat) 32)) rfl rfl ?_
          have b36_ := lx_or (x := (S_.2.2.1 98 0 (S_.1 10 0 8).toNat)) (by omega) (by omega)
          refine sm_T_go 1 (c1 := (38, [some (.inr (.inr (some (10, 0)))), some (.inr (.inl x_)), none, some (.inl (S_.2.2.1 98 0 (S_.1 10 0 8).toNat)), none], [.inl 122, .inl (i_or (S_.2.2.1 98 0 (S_.1 10 0 8).toNat) 32)], S_)) rfl ?_
          refine sm_T_br (a := 5) (z := 9) rfl (fun c37_ => ?_) (fun c37_ => ?_)
          · have c37_ : (i_or (S_.2.2.1 98 0 (S_.1 10 0 8).toNat) 32) ≤ 122 := of_decide_eq_true c37_
            have b38_ : 0 ≤ S_.1 10 0 4 ∧ S_.1 10 0 4 ≤ 1280 := hI_.1 10 0 4 rfl
            refine sm_T_go 8 (c1 := (80, [some (.inr (.inr (some (10, 0)))), some (.inr (.inl x_)), none, some (.inl (S_.2.2.1 98 0 (S_.1 10 0 8).toNat)), some (.inl 1)], [.inl 8, .inl (S_.1 10 0 4)], S_)) rfl ?_
            refine sm_T_br (a := 3) (z := 13) rfl (fun c39_ => ?_) (fun c39_ => ?_)
            · have c39_ : 8 ≤ (S_.1 10 0 4) := of_decide_eq_true c39_
              refine sm_T_go 6 (c1 := (101, [some (.inr (.inr (some (10, 0)))), some (.inr (.inl 0)), none, some (.inl (S_.2.2.1 98 0 (S_.1 10 0 8).toNat)), some (.inl 1)], [.inl 1, .inl (S_.1 10 0 4), .inr (.inr (some (10, 0)))], S_)) rfl ?_
              refine sm_T_bin (w := (S_.1 10 0 4) + 1) rfl (bi_add (by omega) (by omega) (by omega)) ?_
              have hI40_ : gi (sm_pI S_ 10 0 4 ((S_.1 10 0 4) + 1)) := gi_pI hI_ (show 0 ≤ (S_.1 10 0 4) + 1 ∧ (S_.1 10 0 4) + 1 ≤ 1280 from ⟨by omega, by omega⟩)
              have hF41_ : ai_fr (sx_W vw_193) S0_ (sm_pI S_ 10 0 4 ((S_.1 10 0 4) + 1)) := ai_fr_tr hF_ (ai_fr_pI rfl)
              refine sm_T_go 5 (c1 := (111, [some (.inr (.inr (some (10, 0)))), some (.inr (.inl 0)), none, some (.inl (S_.2.2.1 98 0 (S_.1 10 0 8).toNat)), some (.inl 1)], [.inl 1, .inl (S_.1 10 0 8), .inr (.inr (some (10, 0)))], sm_pI S_ 10 0 4 ((S_.1 10 0 4) + 1))) rfl ?_
              refine sm_T_bin (w := (S_.1 10 0 8) + 1) rfl (bi_add (by omega) (by omega) (by omega)) ?_
              have hI42_ : gi (sm_pI (sm_pI S_ 10 0 4 ((S_.1 10 0 4) + 1)) 10 0 8 ((S_.1 10 0 8) + 1)) := gi_pI hI40_ (show 0 ≤ (S_.1 10 0 8) + 1 ∧ (S_.1 10 0 8) + 1 ≤ 1280 from ⟨by omega, by omega⟩)
              have hF43_ : ai_fr (sx_W vw_193) S0_ (sm_pI (sm_pI S_ 10 0 4 ((S_.1 10 0 4) + 1)) 10 0 8 ((S_.1 10 0 8) + 1)) := ai_fr_tr hF41_ (ai_fr_pI rfl)
              refine sm_T_go 2 (c1 := (2, [some (.inr (.inr (some (10, 0)))), some (.inr (.inl 0)), none, some (.inl (S_.2.2.1 98 0 (S_.1 10 0 8).toNat)), some (.inl 1)], [], sm_pI (sm_pI S_ 10 0 4 ((S_.1 10 0 4) + 1)) 10 0 8 ((S_.1 10 0 8) + 1))) rfl ?_
              refine sm_T_wk [some (.inr (.inr (some (10, 0)))), some (.inr (.inl 0)), none, none, none] (by exact ⟨rfl, rfl, trivial⟩) ?_
              refine ih_.1 0 (sm_pI (sm_pI S_ 10 0 4 ((S_.1 10 0 4) + 1)) 10 0 8 ((S_.1 10 0 8) + 1)) hI42_ hF43_ ⟨?_, trivial⟩ ?_
              · refine ⟨k_ + 1, ?_, ?_, by omega, ?_, ?_⟩
                · (try simp only [rd_eq, rd_ne, rf_eq, rf_nk, rf_nt, rd_fa, rd_af, rd_fl, rd_al, rd_lf, rd_la, rd_leq, rd_lne, rd_fr, rd_ar, ne_eq, Nat.reduceEqDiff, not_false_eq_true]); push_cast; omega
                · (try simp only [rd_eq, rd_ne, rf_eq, rf_nk, rf_nt, rd_fa, rd_af, rd_fl, rd_al, rd_lf, rd_la, rd_leq, rd_lne, rd_fr, rd_ar, ne_eq, Nat.reduceEqDiff, not_false_eq_true]); push_cast; omega
                · rw [← h2_, lx_e_go (p := p_ + k_)]
                  rw [if_pos (by constructor; omega; omega)]; rfl
                · unfold lx_pk; rw [← e9_]; first | rw [if_pos (by omega), h3_] | rw [if_neg (by omega)]
              · (try simp only [rd_eq, rd_ne, rf_eq, rf_nk, rf_nt, rd_fa, rd_af, rd_fl, rd_al, rd_lf, rd_la, rd_leq, rd_lne, rd_fr, rd_ar, ne_eq, Nat.reduceEqDiff, not_false_eq_true]); omega
            · have c39_ : ¬ (8 ≤ (S_.1 10 0 4)) := of_decide_eq_false c39_
              refine sm_T_go 12 (c1 := (101, [some (.inr (.inr (some (10, 0)))), some (.inr (.inl (l_4 ((l_s0 x_ 7)) ((l_i2l (S_.2.2.1 98 0 (S_.1 10 0 8).toNat)))))), none, some (.inl (S_.2.2.1 98 0 (S_.1 10 0 8).toNat)), some (.inl 1)], [.inl 1, .inl (S_.1 10 0 4), .inr (.inr (some (10, 0)))], S_)) rfl ?_
              refine sm_T_bin (w := (S_.1 10 0 4) + 1) rfl (bi_add (by omega) (by omega) (by omega)) ?_
              have hI44_ : gi (sm_pI S_ 10 0 4 ((S_.1 10 0 4) + 1)) := gi_pI hI_ (show 0 ≤ (S_.1 10 0 4) + 1 ∧ (S_.1 10 0 4) + 1 ≤ 1280 from ⟨by omega, by omega⟩)
              have hF45_ : ai_fr (sx_W vw_193) S0_ (sm_pI S_ 10 0 4 ((S_.1 10 0 4) + 1)) := ai_fr_tr hF_ (ai_fr_pI rfl)
              refine sm_T_go 5 (c1 := (111, [some (.inr (.inr (some (10, 0)))), some (.inr (.inl (l_4 ((l_s0 x_ 7)) ((l_i2l (S_.2.2.1 98 0 (S_.1 10 0 8).toNat)))))), none, some (.inl (S_.2.2.1 98 0 (S_.1 10 0 8).toNat)), some (.inl 1)], [.inl 1, .inl (S_.1 10 0 8), .inr (.inr (some (10, 0)))], sm_pI S_ 10 0 4 ((S_.1 10 0 4) + 1))) rfl ?_
              refine sm_T_bin (w := (S_.1 10 0 8) + 1) rfl (bi_add (by omega) (by omega) (by omega)) ?_
              have hI46_ : gi (sm_pI (sm_pI S_ 10 0 4 ((S_.1 10 0 4) + 1)) 10 0 8 ((S_.1 10 0 8) + 1)) := gi_pI hI44_ (show 0 ≤ (S_.1 10 0 8) + 1 ∧ (S_.1 10 0 8) + 1 ≤ 1280 from ⟨by omega, by omega⟩)
              have hF47_ : ai_fr (sx_W vw_193) S0_ (sm_pI (sm_pI S_ 10 0 4 ((S_.1 10 0 4) + 1)) 10 0 8 ((S_.1 10 0 8) + 1)) := ai_fr_tr hF45_ (ai_fr_pI rfl)
              refine sm_T_go 2 (c1 := (2, [some (.inr (.inr (some (10, 0)))), some (.inr (.inl (l_4 ((l_s0 x_ 7)) ((l_i2l (S_.2.2.1 98 0 (S_.1 10 0 8).toNat)))))), none, some (.inl (S_.2.2.1 98 0 (S_.1 10 0 8).toNat)), some (.inl 1)], [], sm_pI (sm_pI S_ 10 0 4 ((S_.1 10 0 4) + 1)) 10 0 8 ((S_.1 10 0 8) + 1))) rfl ?_
              refine sm_T_wk [some (.inr (.inr (some (10, 0)))), some (.inr (.inl (l_4 ((l_s0 x_ 7)) ((l_i2l (S_.2.2.1 98 0 (S_.1 10 0 8).toNat)))))), none, none, none] (by exact ⟨rfl, rfl, trivial⟩) ?_
              refine ih_.1 ((l_4 ((l_s0 x_ 7)) ((l_i2l (S_.2.2.1 98 0 (S_.1 10 0 8).toNat))))) (sm_pI (sm_pI S_ 10 0 4 ((S_.1 10 0 4) + 1)) 10 0 8 ((S_.1 10 0 8) + 1)) hI46_ hF47_ ⟨?_, trivial⟩ ?_
              · refine ⟨k_ + 1, ?_, ?_, by omega, ?_, ?_⟩
                · (try simp only [rd_eq, rd_ne, rf_eq, rf_nk, rf_nt, rd_fa, rd_af, rd_fl, rd_al, rd_lf, rd_la, rd_leq, rd_lne, rd_fr, rd_ar, ne_eq, Nat.reduceEqDiff, not_false_eq_true]); push_cast; omega
                · (try simp only [rd_eq, rd_ne, rf_eq, rf_nk, rf_nt, rd_fa, rd_af, rd_fl, rd_al, rd_lf, rd_la, rd_leq, rd_lne, rd_fr, rd_ar, ne_eq, Nat.reduceEqDiff, not_false_eq_true]); push_cast; omega
                · rw [← h2_, lx_e_go (p := p_ + k_)]
                  rw [if_pos (by constructor; omega; omega)]; rfl
                · unfold lx_pk; rw [← e9_]; first | rw [if_pos (by omega), h3_] | rw [if_neg (by omega)]
              · (try simp only [rd_eq, rd_ne, rf_eq, rf_nk, rf_nt, rd_fa, rd_af, rd_fl, rd_al, rd_lf, rd_la, rd_leq, rd_lne, rd_fr, rd_ar, ne_eq, Nat.reduceEqDiff, not_false_eq_true]); omega
          · have c37_ : ¬ ((i_or (S_.2.2.1 98 0 (S_.1 10 0 8).toNat) 32) ≤ 122) := of_decide_eq_false c37_
            refine sm_T_go 2 (c1 := (44, [some (.inr (.inr (some (10, 0)))), some (.inr (.inl x_)), none, some (.inl (S_.2.2.1 98 0 (S_.1 10 0 8).toNat)), none], [.inl 95, .inl (S_.2.2.1 98 0 (S_.1 10 0 8).toNat)], S_)) rfl ?_
            refine sm_T_br (a := 1) (z := 7) rfl (fun c48_ => ?_) (fun c48_ => ?_)
            · have c48_ : (S_.2.2.1 98 0 (S_.1 10 0 8).toNat) ≠ 95 := of_decide_eq_true c48_
              refine sm_T_go 6 (c1 := (62, [some (.inr (.inr (some (10, 0)))), some (.inr (.inl x_)), none, some (.inl (S_.2.2.1 98 0 (S_.1 10 0 8).toNat)), some (.inl 0)], [.inl 48, .inl (S_.2.2.1 98 0 (S_.1 10 0 8).toNat)], S_)) rfl ?_
              refine sm_T_br (a := 2) (z := 56) rfl (fun c49_ => ?_) (fun c49_ => ?_)
              · have c49_ : (S_.2.2.1 98 0 (S_.1 10 0 8).toNat) < 48 := of_decide_eq_true c49_
                have hI50_ : gi (sm_pI S_ 10 0 2 1) := gi_pI hI_ (show (-128) ≤ 1 ∧ 1 ≤ 257 from ⟨by omega, by omega⟩)
                have hF51_ : ai_fr (sx_W vw_193) S0_ (sm_pI S_ 10 0 2 1) := ai_fr_tr hF_ (ai_fr_pI rfl)
                refine sm_T_go 5 (c1 := (125, [some (.inr (.inr (some (10, 0)))), some (.inr (.inl x_)), none, some (.inl 0), some (.inl 0)], [], sm_pI S_ 10 0 2 1)) rfl ?_
                refine sm_T_wk [some (.inr (.inr (some (10, 0)))), some (.inr (.inl x_)), none, some (.inl 0), none] (by exact ⟨rfl, rfl, rfl, trivial⟩) ?_
                refine ih_.2 x_ 0 (sm_pI S_ 10 0 2 1) hI50_ hF51_ ⟨?_, ?_, ?_, trivial⟩ ?_
                · omega
                · have e4_ : lx_ne b_ n_ p_ = p_ + k_ := by rw [← h2_, lx_e_go]; exact if_neg (by omega)
                  rw [e4_]
                  (try simp only [rd_eq, rd_ne, rf_eq, rf_nk, rf_nt, rd_fa, rd_af, rd_fl, rd_al, rd_lf, rd_la, rd_leq, rd_lne, rd_fr, rd_ar, ne_eq, Nat.reduceEqDiff, not_false_eq_true])
                  refine ⟨by omega, by omega, ?_⟩
                  rw [h3_]; congr 1; omega
                · (try simp only [rd_eq, rd_ne, rf_eq, rf_nk, rf_nt, rd_fa, rd_af, rd_fl, rd_al, rd_lf, rd_la, rd_leq, rd_lne, rd_fr, rd_ar, ne_eq, Nat.reduceEqDiff, not_false_eq_true]); rfl
                · (try simp only [rd_eq, rd_ne, rf_eq, rf_nk, rf_nt, rd_fa, rd_af, rd_fl, rd_al, rd_lf, rd_la, rd_leq, rd_lne, rd_fr, rd_ar, ne_eq, Nat.reduceEqDiff, not_false_eq_true]); omega
              · have c49_ : ¬ ((S_.2.2.1 98 0 (S_.1 10 0 8).toNat) < 48) := of_decide_eq_false c49_
                refine sm_T_go 2 (c1 := (68, [some (.inr (.inr (some (10, 0)))), some (.inr (.inl x_)), none, some (.inl (S_.2.2.1 98 0 (S_.1 10 0 8).toNat)), some (.inl 0)], [.inl 57, .inl (S_.2.2.1 98 0 (S_.1 10 0 8).toNat)], S_)) rfl ?_
                refine sm_T_br (a := 5) (z := 6) rfl (fun c52_ => ?_) (fun c52_ => ?_)
                · have c52_ : (S_.2.2.1 98 0 (S_.1 10 0 8).toNat) ≤ 57 := of_decide_eq_true c52_
                  have b53_ : 0 ≤ S_.1 10 0 4 ∧ S_.1 10 0 4 ≤ 1280 := hI_.1 10 0 4 rfl
                  refine sm_T_go 3 (c1 := (80, [some (.inr (.inr (some (10, 0)))), some (.inr (.inl x_)), none, some (.inl (S_.2.2.1 98 0 (S_.1 10 0 8).toNat)), some (.inl 0)], [.inl 8, .inl (S_.1 10 0 4)], S_)) rfl ?_
                  refine sm_T_br (a := 3) (z := 13) rfl (fun c54_ => ?_) (fun c54_ => ?_)
                  · have c54_ : 8 ≤ (S_.1 10 0 4) := of_decide_eq_true c54_
                    refine sm_T_go 6 (c1 := (101, [some (.inr (.inr (some (10, 0)))), some (.inr (.inl 0)), none, some (.inl (S_.2.2.1 98 0 (S_.1 10 0 8).toNat)), some (.inl 0)], [.inl 1, .inl (S_.1 10 0 4), .inr (.inr (some (10, 0)))], S_)) rfl ?_
                    refine sm_T_bin (w := (S_.1 10 0 4) + 1) rfl (bi_add (by omega) (by omega) (by omega)) ?_
                    have hI55_ : gi (sm_pI S_ 10 0 4 ((S_.1 10 0 4) + 1)) := gi_pI hI_ (show 0 ≤ (S_.1 10 0 4) + 1 ∧ (S_.1 10 0 4) + 1 ≤ 1280 from ⟨by omega, by omega⟩)
                    have hF56_ : ai_fr (sx_W vw_193) S0_ (sm_pI S_ 10 0 4 ((S_.1 10 0 4) + 1)) := ai_fr_tr hF_ (ai_fr_pI rfl)
                    refine sm_T_go 5 (c1 := (111, [some (.inr (.inr (some (10, 0)))), some (.inr (.inl 0)), none, some (.inl (S_.2.2.1 98 0 (S_.1 10 0 8).toNat)), some (.inl 0)], [.inl 1, .inl (S_.1 10 0 8), .inr (.inr (some (10, 0)))], sm_pI S_ 10 0 4 ((S_.1 10 0 4) + 1))) rfl ?_
                    refine sm_T_bin (w := (S_.1 10 0 8) + 1) rfl (bi_add (by omega) (by omega) (by omega)) ?_
                    have hI57_ : gi (sm_pI (sm_pI S_ 10 0 4 ((S_.1 10 0 4) + 1)) 10 0 8 ((S_.1 10 0 8) + 1)) := gi_pI hI55_ (show 0 ≤ (S_.1 10 0 8) + 1 ∧ (S_.1 10 0 8) + 1 ≤ 1280 from ⟨by omega, by omega⟩)
                    have hF58_ : ai_fr (sx_W vw_193) S0_ (sm_pI (sm_pI S_ 10 0 4 ((S_.1 10 0 4) + 1)) 10 0 8 ((S_.1 10 0 8) + 1)) := ai_fr_tr hF56_ (ai_fr_pI rfl)
                    refine sm_T_go 2 (c1 := (2, [some (.inr (.inr (some (10, 0)))), some (.inr (.inl 0)), none, some (.inl (S_.2.2.1 98 0 (S_.1 10 0 8).toNat)), some (.inl 0)], [], sm_pI (sm_pI S_ 10 0 4 ((S_.1 10 0 4) + 1)) 10 0 8 ((S_.1 10 0 8) + 1))) rfl ?_
                    refine sm_T_wk [some (.inr (.inr (some (10, 0)))), some (.inr (.inl 0)), none, none, none] (by exact ⟨rfl, rfl, trivial⟩) ?_
                    refine ih_.1 0 (sm_pI (sm_pI S_ 10 0 4 ((S_.1 10 0 4) + 1)) 10 0 8 ((S_.1 10 0 8) + 1)) hI57_ hF58_ ⟨?_, trivial⟩ ?_
                    · refine ⟨k_ + 1, ?_, ?_, by omega, ?_, ?_⟩
                      · (try simp only [rd_eq, rd_ne, rf_eq, rf_nk, rf_nt, rd_fa, rd_af, rd_fl, rd_al, rd_lf, rd_la, rd_leq, rd_lne, rd_fr, rd_ar, ne_eq, Nat.reduceEqDiff, not_false_eq_true]); push_cast; omega
                      · (try simp only [rd_eq, rd_ne, rf_eq, rf_nk, rf_nt, rd_fa, rd_af, rd_fl, rd_al, rd_lf, rd_la, rd_leq, rd_lne, rd_fr, rd_ar, ne_eq, Nat.reduceEqDiff, not_false_eq_true]); push_cast; omega
                      · rw [← h2_, lx_e_go (p := p_ + k_)]
                        rw [if_pos (by constructor; omega; omega)]; rfl
                      · unfold lx_pk; rw [← e9_]; first | rw [if_pos (by omega), h3_] | rw [if_neg (by omega)]
                    · (try simp only [rd_eq, rd_ne, rf_eq, rf_nk, rf_nt, rd_fa, rd_af, rd_fl, rd_al, rd_lf, rd_la, rd_leq, rd_lne, rd_fr, rd_ar, ne_eq, Nat.reduceEqDiff, not_false_eq_true]); omega
                  · have c54_ : ¬ (8 ≤ (S_.1 10 0 4)) := of_decide_eq_false c54_
                    refine sm_T_go 12 (c1 := (101, [some (.inr (.inr (some (10, 0)))), some (.inr (.inl (l_4 ((l_s0 x_ 7)) ((l_i2l (S_.2.2.1 98 0 (S_.1 10 0 8).toNat)))))), none, some (.inl (S_.2.2.1 98 0 (S_.1 10 0 8).toNat)), some (.inl 0)], [.inl 1, .inl (S_.1 10 0 4), .inr (.inr (some (10, 0)))], S_)) rfl ?_
                    refine sm_T_bin (w := (S_.1 10 0 4) + 1) rfl (bi_add (by omega) (by omega) (by omega)) ?_
                    have hI59_ : gi (sm_pI S_ 10 0 4 ((S_.1 10 0 4) + 1)) := gi_pI hI_ (show 0 ≤ (S_.1 10 0 4) + 1 ∧ (S_.1 10 0 4) + 1 ≤ 1280 from ⟨by omega, by omega⟩)
                    have hF60_ : ai_fr (sx_W vw_193) S0_ (sm_pI S_ 10 0 4 ((S_.1 10 0 4) + 1)) := ai_fr_tr hF_ (ai_fr_pI rfl)
                    refine sm_T_go 5 (c1 := (111, [some (.inr (.inr (some (10, 0)))), some (.inr (.inl (l_4 ((l_s0 x_ 7)) ((l_i2l (S_.2.2.1 98 0 (S_.1 10 0 8).toNat)))))), none, some (.inl (S_.2.2.1 98 0 (S_.1 10 0 8).toNat)), some (.inl 0)], [.inl 1, .inl (S_.1 10 0 8), .inr (.inr (some (10, 0)))], sm_pI S_ 10 0 4 ((S_.1 10 0 4) + 1))) rfl ?_
                    refine sm_T_bin (w := (S_.1 10 0 8) + 1) rfl (bi_add (by omega) (by omega) (by omega)) ?_
                    have hI61_ : gi (sm_pI (sm_pI S_ 10 0 4 ((S_.1 10 0 4) + 1)) 10 0 8 ((S_.1 10 0 8) + 1)) := gi_pI hI59_ (show 0 ≤ (S_.1 10 0 8) + 1 ∧ (S_.1 10 0 8) + 1 ≤ 1280 from ⟨by omega, by omega⟩)
                    have hF62_ : ai_fr (sx_W vw_193) S0_ (sm_pI (sm_pI S_ 10 0 4 ((S_.1 10 0 4) + 1)) 10 0 8 ((S_.1 10 0 8) + 1)) := ai_fr_tr hF60_ (ai_fr_pI rfl)
                    refine sm_T_go 2 (c1 := (2, [some (.inr (.inr (some (10, 0)))), some (.inr (.inl (l_4 ((l_s0 x_ 7)) ((l_i2l (S_.2.2.1 98 0 (S_.1 10 0 8).toNat)))))), none, some (.inl (S_.2.2.1 98 0 (S_.1 10 0 8).toNat)), some (.inl 0)], [], sm_pI (sm_pI S_ 10 0 4 ((S_.1 10 0 4) + 1)) 10 0 8 ((S_.1 10 0 8) + 1))) rfl ?_
                    refine sm_T_wk [some (.inr (.inr (some (10, 0)))), some (.inr (.inl (l_4 ((l_s0 x_ 7)) ((l_i2l (S_.2.2.1 98 0 (S_.1 10 0 8).toNat)))))), none, none, none] (by exact ⟨rfl, rfl, trivial⟩) ?_
                    refine ih_.1 ((l_4 ((l_s0 x_ 7)) ((l_i2l (S_.2.2.1 98 0 (S_.1 10 0 8).toNat))))) (sm_pI (sm_pI S_ 10 0 4 ((S_.1 10 0 4) + 1)) 10 0 8 ((S_.1 10 0 8) + 1)) hI61_ hF62_ ⟨?_, trivial⟩ ?_
                    · refine ⟨k_ + 1, ?_, ?_, by omega, ?_, ?_⟩
                      · (try simp only [rd_eq, rd_ne, rf_eq, rf_nk, rf_nt, rd_fa, rd_af, rd_fl, rd_al, rd_lf, rd_la, rd_leq, rd_lne, rd_fr, rd_ar, ne_eq, Nat.reduceEqDiff, not_false_eq_true]); push_cast; omega
                      · (try simp only [rd_eq, rd_ne, rf_eq, rf_nk, rf_nt, rd_fa, rd_af, rd_fl, rd_al, rd_lf, rd_la, rd_leq, rd_lne, rd_fr, rd_ar, ne_eq, Nat.reduceEqDiff, not_false_eq_true]); push_cast; omega
                      · rw [← h2_, lx_e_go (p := p_ + k_)]
                        rw [if_pos (by constructor; omega; omega)]; rfl
                      · unfold lx_pk; rw [← e9_]; first | rw [if_pos (by omega), h3_] | rw [if_neg (by omega)]
                    · (try simp only [rd_eq, rd_ne, rf_eq, rf_nk, rf_nt, rd_fa, rd_af, rd_fl, rd_al, rd_lf, rd_la, rd_leq, rd_lne, rd_fr, rd_ar, ne_eq, Nat.reduceEqDiff, not_false_eq_true]); omega
                · have c52_ : ¬ ((S_.2.2.1 98 0 (S_.1 10 0 8).toNat) ≤ 57) := of_decide_eq_false c52_
                  have hI63_ : gi (sm_pI S_ 10 0 2 1) := gi_pI hI_ (show (-128) ≤ 1 ∧ 1 ≤ 257 from ⟨by omega, by omega⟩)
                  have hF64_ : ai_fr (sx_W vw_193) S0_ (sm_pI S_ 10 0 2 1) := ai_fr_tr hF_ (ai_fr_pI rfl)
                  refine sm_T_go 6 (c1 := (125, [some (.inr (.inr (some (10, 0)))), some (.inr (.inl x_)), none, some (.inl 0), some (.inl 0)], [], sm_pI S_ 10 0 2 1)) rfl ?_
                  refine sm_T_wk [some (.inr (.inr (some (10, 0)))), some (.inr (.inl x_)), none, some (.inl 0), none] (by exact ⟨rfl, rfl, rfl, trivial⟩) ?_
                  refine ih_.2 x_ 0 (sm_pI S_ 10 0 2 1) hI63_ hF64_ ⟨?_, ?_, ?_, trivial⟩ ?_
                  · omega
                  · have e4_ : lx_ne b_ n_ p_ = p_ + k_ := by rw [← h2_, lx_e_go]; exact if_neg (by omega)
                    rw [e4_]
                    (try simp only [rd_eq, rd_ne, rf_eq, rf_nk, rf_nt, rd_fa, rd_af, rd_fl, rd_al, rd_lf, rd_la, rd_leq, rd_lne, rd_fr, rd_ar, ne_eq, Nat.reduceEqDiff, not_false_eq_true])
                    refine ⟨by omega, by omega, ?_⟩
                    rw [h3_]; congr 1; omega
                  · (try simp only [rd_eq, rd_ne, rf_eq, rf_nk, rf_nt, rd_fa, rd_af, rd_fl, rd_al, rd_lf, rd_la, rd_leq, rd_lne, rd_fr, rd_ar, ne_eq, Nat.reduceEqDiff, not_false_eq_true]); rfl
                  · (try simp only [rd_eq, rd_ne, rf_eq, rf_nk, rf_nt, rd_fa, rd_af, rd_fl, rd_al, rd_lf, rd_la, rd_leq, rd_lne, rd_fr, rd_ar, ne_eq, Nat.reduceEqDiff, not_false_eq_true]); omega
            · have c48_ : ¬ ((S_.2.2.1 98 0 (S_.1 10 0 8).toNat) ≠ 95) := of_decide_eq_false c48_
              have b65_ : 0 ≤ S_.1 10 0 4 ∧ S_.1 10 0 4 ≤ 1280 := hI_.1 10 0 4 rfl
              refine sm_T_go 8 (c1 := (80, [some (.inr (.inr (some (10, 0)))), some (.inr (.inl x_)), none, some (.inl (S_.2.2.1 98 0 (S_.1 10 0 8).toNat)), some (.inl 1)], [.inl 8, .inl (S_.1 10 0 4)], S_)) rfl ?_
              refine sm_T_br (a := 3) (z := 13) rfl (fun c66_ => ?_) (fun c66_ => ?_)
              · have c66_ : 8 ≤ (S_.1 10 0 4) := of_decide_eq_true c66_
                refine sm_T_go 6 (c1 := (101, [some (.inr (.inr (some (10, 0)))), some (.inr (.inl 0)), none, some (.inl (S_.2.2.1 98 0 (S_.1 10 0 8).toNat)), some (.inl 1)], [.inl 1, .inl (S_.1 10 0 4), .inr (.inr (some (10, 0)))], S_)) rfl ?_
                refine sm_T_bin (w := (S_.1 10 0 4) + 1) rfl (bi_add (by omega) (by omega) (by omega)) ?_
                have hI67_ : gi (sm_pI S_ 10 0 4 ((S_.1 10 0 4) + 1)) := gi_pI hI_ (show 0 ≤ (S_.1 10 0 4) + 1 ∧ (S_.1 10 0 4) + 1 ≤ 1280 from ⟨by omega, by omega⟩)
                have hF68_ : ai_fr (sx_W vw_193) S0_ (sm_pI S_ 10 0 4 ((S_.1 10 0 4) + 1)) := ai_fr_tr hF_ (ai_fr_pI rfl)
                refine sm_T_go 5 (c1 := (111, [some (.inr (.inr (some (10, 0)))), some (.inr (.inl 0)), none, some (.inl (S_.2.2.1 98 0 (S_.1 10 0 8).toNat)), some (.inl 1)], [.inl 1, .inl (S_.1 10 0 8), .inr (.inr (some (10, 0)))], sm_pI S_ 10 0 4 ((S_.1 10 0 4) + 1))) rfl ?_
                refine sm_T_bin (w := (S_.1 10 0 8) + 1) rfl (bi_add (by omega) (by omega) (by omega)) ?_
                have hI69_ : gi (sm_pI (sm_pI S_ 10 0 4 ((S_.1 10 0 4) + 1)) 10 0 8 ((S_.1 10 0 8) + 1)) := gi_pI hI67_ (show 0 ≤ (S_.1 10 0 8) + 1 ∧ (S_.1 10 0 8) + 1 ≤ 1280 from ⟨by omega, by omega⟩)
                have hF70_ : ai_fr (sx_W vw_193) S0_ (sm_pI (sm_pI S_ 10 0 4 ((S_.1 10 0 4) + 1)) 10 0 8 ((S_.1 10 0 8) + 1)) := ai_fr_tr hF68_ (ai_fr_pI rfl)
                refine sm_T_go 2 (c1 := (2, [some (.inr (.inr (some (10, 0)))), some (.inr (.inl 0)), none, some (.inl (S_.2.2.1 98 0 (S_.1 10 0 8).toNat)), some (.inl 1)], [], sm_pI (sm_pI S_ 10 0 4 ((S_.1 10 0 4) + 1)) 10 0 8 ((S_.1 10 0 8) + 1))) rfl ?_
                refine sm_T_wk [some (.inr (.inr (some (10, 0)))), some (.inr (.inl 0)), none, none, none] (by exact ⟨rfl, rfl, trivial⟩) ?_
                refine ih_.1 0 (sm_pI (sm_pI S_ 10 0 4 ((S_.1 10 0 4) + 1)) 10 0 8 ((S_.1 10 0 8) + 1)) hI69_ hF70_ ⟨?_, trivial⟩ ?_
                · refine ⟨k_ + 1, ?_, ?_, by omega, ?_, ?_⟩
                  · (try simp only [rd_eq, rd_ne, rf_eq, rf_nk, rf_nt, rd_fa, rd_af, rd_fl, rd_al, rd_lf, rd_la, rd_leq, rd_lne, rd_fr, rd_ar, ne_eq, Nat.reduceEqDiff, not_false_eq_true]); push_cast; omega
                  · (try simp only [rd_eq, rd_ne, rf_eq, rf_nk, rf_nt, rd_fa, rd_af, rd_fl, rd_al, rd_lf, rd_la, rd_leq, rd_lne, rd_fr, rd_ar, ne_eq, Nat.reduceEqDiff, not_false_eq_true]); push_cast; omega
                  · rw [← h2_, lx_e_go (p := p_ + k_)]
                    rw [if_pos (by constructor; omega; omega)]; rfl
                  · unfold lx_pk; rw [← e9_]; first | rw [if_pos (by omega), h3_] | rw [if_neg (by omega)]
                · (try simp only [rd_eq, rd_ne, rf_eq, rf_nk, rf_nt, rd_fa, rd_af, rd_fl, rd_al, rd_lf, rd_la, rd_leq, rd_lne, rd_fr, rd_ar, ne_eq, Nat.reduceEqDiff, not_false_eq_true]); omega
              · have c66_ : ¬ (8 ≤ (S_.1 10 0 4)) := of_decide_eq_false c66_
                refine sm_T_go 12 (c1 := (101, [some (.inr (.inr (some (10, 0)))), some (.inr (.inl (l_4 ((l_s0 x_ 7)) ((l_i2l (S_.2.2.1 98 0 (S_.1 10 0 8).toNat)))))), none, some (.inl (S_.2.2.1 98 0 (S_.1 10 0 8).toNat)), some (.inl 1)], [.inl 1, .inl (S_.1 10 0 4), .inr (.inr (some (10, 0)))], S_)) rfl ?_
                refine sm_T_bin (w := (S_.1 10 0 4) + 1) rfl (bi_add (by omega) (by omega) (by omega)) ?_
                have hI71_ : gi (sm_pI S_ 10 0 4 ((S_.1 10 0 4) + 1)) := gi_pI hI_ (show 0 ≤ (S_.1 10 0 4) + 1 ∧ (S_.1 10 0 4) + 1 ≤ 1280 from ⟨by omega, by omega⟩)
                have hF72_ : ai_fr (sx_W vw_193) S0_ (sm_pI S_ 10 0 4 ((S_.1 10 0 4) + 1)) := ai_fr_tr hF_ (ai_fr_pI rfl)
                refine sm_T_go 5 (c1 := (111, [some (.inr (.inr (some (10, 0)))), some (.inr (.inl (l_4 ((l_s0 x_ 7)) ((l_i2l (S_.2.2.1 98 0 (S_.1 10 0 8).toNat)))))), none, some (.inl (S_.2.2.1 98 0 (S_.1 10 0 8).toNat)), some (.inl 1)], [.inl 1, .inl (S_.1 10 0 8), .inr (.inr (some (10, 0)))], sm_pI S_ 10 0 4 ((S_.1 10 0 4) + 1))) rfl ?_
                refine sm_T_bin (w := (S_.1 10 0 8) + 1) rfl (bi_add (by omega) (by omega) (by omega)) ?_
                have hI73_ : gi (sm_pI (sm_pI S_ 10 0 4 ((S_.1 10 0 4) + 1)) 10 0 8 ((S_.1 10 0 8) + 1)) := gi_pI hI71_ (show 0 ≤ (S_.1 10 0 8) + 1 ∧ (S_.1 10 0 8) + 1 ≤ 1280 from ⟨by omega, by omega⟩)
                have hF74_ : ai_fr (sx_W vw_193) S0_ (sm_pI (sm_pI S_ 10 0 4 ((S_.1 10 0 4) + 1)) 10 0 8 ((S_.1 10 0 8) + 1)) := ai_fr_tr hF72_ (ai_fr_pI rfl)
                refine sm_T_go 2 (c1 := (2, [some (.inr (.inr (some (10, 0)))), some (.inr (.inl (l_4 ((l_s0 x_ 7)) ((l_i2l (S_.2.2.1 98 0 (S_.1 10 0 8).toNat)))))), none, some (.inl (S_.2.2.1 98 0 (S_.1 10 0 8).toNat)), some (.inl 1)], [], sm_pI (sm_pI S_ 10 0 4 ((S_.1 10 0 4) + 1)) 10 0 8 ((S_.1 10 0 8) + 1))) rfl ?_
                refine sm_T_wk [some (.inr (.inr (some (10, 0)))), some (.inr (.inl (l_4 ((l_s0 x_ 7)) ((l_i2l (S_.2.2.1 98 0 (S_.1 10 0 8).toNat)))))), none, none, none] (by exact ⟨rfl, rfl, trivial⟩) ?_
                refine ih_.1 ((l_4 ((l_s0 x_ 7)) ((l_i2l (S_.2.2.1 98 0 (S_.1 10 0 8).toNat))))) (sm_pI (sm_pI S_ 10 0 4 ((S_.1 10 0 4) + 1)) 10 0 8 ((S_.1 10 0 8) + 1)) hI73_ hF74_ ⟨?_, trivial⟩ ?_
                · refine ⟨k_ + 1, ?_, ?_, by omega, ?_, ?_⟩
                  · (try simp only [rd_eq, rd_ne, rf_eq, rf_nk, rf_nt, rd_fa, rd_af, rd_fl, rd_al, rd_lf, rd_la, rd_leq, rd_lne, rd_fr, rd_ar, ne_eq, Nat.reduceEqDiff, not_false_eq_true]); push_cast; omega
                  · (try simp only [rd_eq, rd_ne, rf_eq, rf_nk, rf_nt, rd_fa, rd_af, rd_fl, rd_al, rd_lf, rd_la, rd_leq, rd_lne, rd_fr, rd_ar, ne_eq, Nat.reduceEqDiff, not_false_eq_true]); push_cast; omega
                  · rw [← h2_, lx_e_go (p := p_ + k_)]
                    rw [if_pos (by constructor; omega; omega)]; rfl
                  · unfold lx_pk; rw [← e9_]; first | rw [if_pos (by omega), h3_] | rw [if_neg (by omega)]
                · (try simp only [rd_eq, rd_ne, rf_eq, rf_nk, rf_nt, rd_fa, rd_af, rd_fl, rd_al, rd_lf, rd_la, rd_leq, rd_lne, rd_fr, rd_ar, ne_eq, Nat.reduceEqDiff, not_false_eq_true]); omega
    · rintro x_ k_ S_ hI_ hF_ ⟨h0_, h1_, h2_, -⟩ hm_
      have hw_ := lx_wk_b x_ k_.toNat
      refine sm_T_go 1 (c1 := (126, [some (.inr (.inr (some (10, 0)))), some (.inr (.inl x_)), none, some (.inl k_), none], [.inl k_], S_)) rfl ?_
      refine sm_T_nt (u := some (.inr (.inr (some (296, 0))))) (S1 := S_) rfl rfl rfl ?_
      refine sm_T_nt (u := some (.inl 7)) (S1 := S_) rfl rfl rfl ?_
      refine sm_T_br (a := 3) (z := 26) rfl (fun c1_ => ?_) (fun c1_ => ?_)
      · have c1_ : 7 ≤ k_ := of_decide_eq_true c1_
        have b2_ : 0 ≤ S_.1 10 0 4 ∧ S_.1 10 0 4 ≤ 1280 := hI_.1 10 0 4 rfl
        refine sm_T_go 3 (c1 := (162, [some (.inr (.inr (some (10, 0)))), some (.inr (.inl x_)), none, some (.inl k_), none], [.inl 12, .inl (S_.1 10 0 4)], S_)) rfl ?_
        refine sm_T_br (a := 4) (z := 7) rfl (fun c3_ => ?_) (fun c3_ => ?_)
        · have c3_ : 12 < (S_.1 10 0 4) := of_decide_eq_true c3_
          refine sm_T_go 1 (c1 := (170, [some (.inr (.inr (some (10, 0)))), some (.inr (.inl x_)), none, some (.inl k_), none], [.inl 0], S_)) rfl ?_
          refine sm_T_rz rfl (by omega) ⟨_, _, rfl, _, rfl, hI_, hF_, ?_⟩
          have e8_ : k_ = 7 := by omega
          subst e8_
          refine ⟨?_, h1_.1, h1_.2.1, ?_⟩
          · first | rw [if_pos (by omega)] | rw [if_neg (by omega)]
          · rw [h2_, h1_.2.2]; rfl
        · have c3_ : ¬ (12 < (S_.1 10 0 4)) := of_decide_eq_false c3_
          refine sm_T_go 2 (c1 := (170, [some (.inr (.inr (some (10, 0)))), some (.inr (.inl x_)), none, some (.inl k_), none], [.inl 1], S_)) rfl ?_
          refine sm_T_rz rfl (by omega) ⟨_, _, rfl, _, rfl, hI_, hF_, ?_⟩
          have e8_ : k_ = 7 := by omega
          subst e8_
          refine ⟨?_, h1_.1, h1_.2.1, ?_⟩
          · first | rw [if_pos (by omega)] | rw [if_neg (by omega)]
          · rw [h2_, h1_.2.2]; rfl
      · have c1_ : ¬ (7 ≤ k_) := of_decide_eq_false c1_
        refine sm_T_go 1 (c1 := (134, [some (.inr (.inr (some (10, 0)))), some (.inr (.inl x_)), none, some (.inl k_), none], [.inr (.inl x_)], S_)) rfl ?_
        refine sm_T_nt (u := some (.inr (.inr (some (296, 0))))) (S1 := S_) rfl rfl rfl ?_
        refine sm_T_go 1 (c1 := (138, [some (.inr (.inr (some (10, 0)))), some (.inr (.inl x_)), none, some (.inl k_), none], [.inl k_, .inr (.inr (some (296, 0))), .inr (.inl x_)], S_)) rfl ?_
        refine sm_T_nt (u := some (.inr (.inl (st_at 0 k_)))) (S1 := S_) rfl rfl (nt_stl (sc := sc_) (j := 0) (n := 7) (by decide) rfl rfl (by omega) (by omega)) ?_
        refine sm_T_go 1 (c1 := (140, [some (.inr (.inr (some (10, 0)))), some (.inr (.inl x_)), none, some (.inl k_), none], [.inl (sm_lcmp x_ ((st_at 0 k_)))], S_)) rfl ?_
        refine sm_T_b0 (a := 1) (z := 10) rfl (fun c4_ => ?_) (fun c4_ => ?_)
        · have c4_ : (sm_lcmp x_ ((st_at 0 k_))) ≠ 0 := of_decide_eq_true c4_
          refine sm_T_inc (a := 3) (z := 1) (v := k_) (w := k_ + 1) rfl rfl (by omega) (by omega) (by omega) ?_
          refine sm_T_go 1 (c1 := (125, [some (.inr (.inr (some (10, 0)))), some (.inr (.inl x_)), none, some (.inl (k_ + 1)), none], [], S_)) rfl ?_
          refine ih_.2 x_ (k_ + 1) S_ hI_ hF_ ⟨?_, ?_, ?_, trivial⟩ ?_
          · omega
          · (try simp only [rd_eq, rd_ne, rf_eq, rf_nk, rf_nt, rd_fa, rd_af, rd_fl, rd_al, rd_lf, rd_la, rd_leq, rd_lne, rd_fr, rd_ar, ne_eq, Nat.reduceEqDiff, not_false_eq_true]); exact h1_
          · have e5_ : (k_ + 1).toNat = k_.toNat + 1 := by omega
            have e6_ := st_ws k_.toNat (by omega)
            have e7_ : ((k_.toNat : Nat) : Int) = k_ := by omega
            rw [e7_] at e6_
            rw [ne_eq, lcmp0, e6_] at c4_
            rw [e5_]; unfold lx_wk
            (try simp only [rd_eq, rd_ne, rf_eq, rf_nk, rf_nt, rd_fa, rd_af, rd_fl, rd_al, rd_lf, rd_la, rd_leq, rd_lne, rd_fr, rd_ar, ne_eq, Nat.reduceEqDiff, not_false_eq_true])
            first | (rw [if_pos (Decidable.of_not_not c4_)]; omega) | (rw [if_neg c4_]; exact h2_)
          · (try simp only [rd_eq, rd_ne, rf_eq, rf_nk, rf_nt, rd_fa, rd_af, rd_fl, rd_al, rd_lf, rd_la, rd_leq, rd_lne, rd_fr, rd_ar, ne_eq, Nat.reduceEqDiff, not_false_eq_true]); omega
        · have c4_ : ¬ ((sm_lcmp x_ ((st_at 0 k_))) ≠ 0) := of_decide_eq_false c4_
          refine sm_T_go 3 (c1 := (146, [some (.inr (.inr (some (10, 0)))), some (.inr (.inl x_)), none, some (.inl k_), none], [.inl k_, .inl 3, .inr (.inr (some (10, 0)))], S_)) rfl ?_
          refine sm_T_bin (w := k_ + 3) rfl (bi_add (by omega) (by omega) (by omega)) ?_
          have hI5_ : gi (sm_pI S_ 10 0 2 (k_ + 3)) := gi_pI hI_ (show (-128) ≤ k_ + 3 ∧ k_ + 3 ≤ 257 from ⟨by omega, by omega⟩)
          have hF6_ : ai_fr (sx_W vw_193) S0_ (sm_pI S_ 10 0 2 (k_ + 3)) := ai_fr_tr hF_ (ai_fr_pI rfl)
          refine sm_T_go 1 (c1 := (150, [some (.inr (.inr (some (10, 0)))), some (.inr (.inl x_)), none, some (.inl k_), none], [], sm_pI S_ 10 0 2 (k_ + 3))) rfl ?_
          refine sm_T_inc (a := 3) (z := 1) (v := k_) (w := k_ + 1) rfl rfl (by omega) (by omega) (by omega) ?_
          refine sm_T_go 1 (c1 := (125, [some (.inr (.inr (some (10, 0)))), some (.inr (.inl x_)), none, some (.inl (k_ + 1)), none], [], sm_pI S_ 10 0 2 (k_ + 3))) rfl ?_
          refine ih_.2 x_ (k_ + 1) (sm_pI S_ 10 0 2 (k_ + 3)) hI5_ hF6_ ⟨?_, ?_, ?_, trivial⟩ ?_
          · omega
          · (try simp only [rd_eq, rd_ne, rf_eq, rf_nk, rf_nt, rd_fa, rd_af, rd_fl, rd_al, rd_lf, rd_la, rd_leq, rd_lne, rd_fr, rd_ar, ne_eq, Nat.reduceEqDiff, not_false_eq_true]); exact h1_
          · have e5_ : (k_ + 1).toNat = k_.toNat + 1 := by omega
            have e6_ := st_ws k_.toNat (by omega)
            have e7_ : ((k_.toNat : Nat) : Int) = k_ := by omega
            rw [e7_] at e6_
            rw [ne_eq, lcmp0, e6_] at c4_
            rw [e5_]; unfold lx_wk
            (try simp only [rd_eq, rd_ne, rf_eq, rf_nk, rf_nt, rd_fa, rd_af, rd_fl, rd_al, rd_lf, rd_la, rd_leq, rd_lne, rd_fr, rd_ar, ne_eq, Nat.reduceEqDiff, not_false_eq_true])
            first | (rw [if_pos (Decidable.of_not_not c4_)]; omega) | (rw [if_neg c4_]; exact h2_)
          · (try simp only [rd_eq, rd_ne, rf_eq, rf_nk, rf_nt, rd_fa, rd_af, rd_fl, rd_al, rd_lf, rd_la, rd_leq, rd_lne, rd_fr, rd_ar, ne_eq, Nat.reduceEqDiff, not_false_eq_true]); omega
theorem vc_193 {sc_ : Nat × (Nat → Int)} (b_ : Nat → Int) (n_ : Nat) (p_ : Nat) (S0_ : sm_S) (hI_ : gi S0_) (hb_ : S0_.2.2.1 98 0 = b_) (hn_ : (S0_.1 10 0 1) = (n_ : Int)) (hn1_ : n_ ≤ 1280) (hp_ : (S0_.1 10 0 8) = (p_ : Int)) (hpn_ : p_ ≤ n_) (hz_ : (S0_.1 10 0 4) = 0) : sm_T (mt_P sc_) 0 193 (0, [some (.inr (.inr (some (10, 0)))), none, none, none, none], [], S0_) (fun r_ => ∃ u_ S1_, r_ = (.inl u_, S1_, 0) ∧ vq_193 b_ n_ p_ S0_ u_ S1_) := by
  have hF_ : ai_fr (sx_W vw_193) S0_ S0_ := ai_fr_rf
  refine sm_T_go 2 (c1 := (2, [some (.inr (.inr (some (10, 0)))), some (.inr (.inl 0)), none, none, none], [], S0_)) rfl ?_
  refine (vl_193 b_ n_ p_ S0_ hb_ hn_ hn1_ hp_ hpn_ hz_ _).1 0 S0_ hI_ hF_ ⟨?_, trivial⟩ (Nat.lt_succ_self _)
  · exact ⟨0, by simpa using hp_, hz_, by omega, rfl, rfl⟩
/-! Text.readNumber -/
def vw_194 : sx_Wl := ([(10, 2), (10, 4), (10, 5), (10, 8)], [], [])
def vq_194 (b_ : Nat → Int) (n_ : Nat) (p_ : Nat) (S0_ : sm_S) (u_ : Option sm_V) (S1_ : sm_S) : Prop := ∃ v_ : Int, u_ = some (.inl v_) ∧ gi S1_ ∧ ai_fr (sx_W vw_194) S0_ S1_ ∧ ((v_ = if lx_de b_ n_ p_ - p_ ≤ 6 then 1 else 0) ∧ (S1_.1 10 0 8) = (lx_de b_ n_ p_ : Nat) ∧ (S1_.1 10 0 4) = (lx_de b_ n_ p_ - p_ : Nat) ∧ (S1_.1 10 0 2) = 2 ∧ (S1_.1 10 0 5) = lx_v b_ p_ (min (lx_de b_ n_ p_ - p_) 6))
theorem vl_194 {sc_ : Nat × (Nat → Int)} (b_ : Nat → Int) (n_ : Nat) (p_ : Nat) (S0_ : sm_S) (hb_ : S0_.2.2.1 98 0 = b_) (hn_ : (S0_.1 10 0 1) = (n_ : Int)) (hn1_ : n_ ≤ 1280) (hp_ : (S0_.1 10 0 8) = (p_ : Int)) (hpn_ : p_ ≤ n_) (hz_ : (S0_.1 10 0 4) = 0) : ∀ nn_ : Nat, (∀  (S_ : sm_S), gi S_ → ai_fr (sx_W vw_194) S0_ S_ → ((∃ k_ : Nat, (S_.1 10 0 8) = ((p_ + k_ : Nat) : Int) ∧ (S_.1 10 0 4) = (k_ : Int) ∧ p_ + k_ ≤ n_ ∧ lx_de b_ n_ (p_ + k_) = lx_de b_ n_ p_ ∧ (S_.1 10 0 5) = lx_v b_ p_ (min k_ 6) ∧ ∀ j_, j_ < k_ → lx_g (b_ (p_ + j_))) ∧ True) → (1400 - (S_.1 10 0 8).toNat) < nn_ → sm_T (mt_P sc_) 0 194 (5, [some (.inr (.inr (some (10, 0))))], [], S_) (fun r_ => ∃ u_ S1_, r_ = (.inl u_, S1_, 0) ∧ vq_194 b_ n_ p_ S0_ u_ S1_)) := by
  intro nn_
  induction nn_ with
  | zero => exact fun  _ _ _ _ h_ => absurd h_ (Nat.not_lt_zero _)
  | succ nn_ ih_ =>
    rintro  S_ hI_ hF_ ⟨h1_, -⟩ hm_
    have hb1_ : S_.2.2.1 98 0 = b_ := (fr_arr hF_ rfl).trans hb_
    have hn2_ : (S_.1 10 0 1) = (n_ : Int) := (hF_.1 10 0 1 rfl).trans hn_
    obtain ⟨k_, hq_, hs_, hqn_, h2_, h3_, h4_⟩ := h1_
    have e_ : (S_.1 10 0 8).toNat = p_ + k_ := by omega
    have e9_ : S_.2.2.1 98 0 (S_.1 10 0 8).toNat = b_ (p_ + k_) := by rw [e_, hb1_]
    have hv_ := lx_v_b (b := b_) (p := p_) (k := min k_ 6) (by omega) (fun j_ hj_ => h4_ j_ (by omega))
    have hv2_ : (10 : Int) ^ (min k_ 6) ≤ 10 ^ 6 := by exact_mod_cast Nat.pow_le_pow_right (by decide) (show min k_ 6 ≤ 6 by omega)
    have hv4_ : (10 : Int) ^ 6 = 1000000 := by decide
    have hv3_ : lx_v b_ p_ (min k_ 6) < 1000000 := by omega
    have b1_ : 0 ≤ S_.1 10 0 8 ∧ S_.1 10 0 8 ≤ 1280 := hI_.1 10 0 8 rfl
    have b2_ : 0 ≤ S_.1 10 0 1 ∧ S_.1 10 0 1 ≤ 1280 := hI_.1 10 0 1 rfl
    refine sm_T_go 4 (c1 := (13, [some (.inr (.inr (some (10, 0))))], [.inl (S_.1 10 0 1), .inl (S_.1 10 0 8)], S_)) rfl ?_
    refine sm_T_br (a := 3) (z := 87) rfl (fun c3_ => ?_) (fun c3_ => ?_)
    · have c3_ : (S_.1 10 0 1) ≤ (S_.1 10 0 8) := of_decide_eq_true c3_
      have hI4_ : gi (sm_pI S_ 10 0 2 2) := gi_pI hI_ (show (-128) ≤ 2 ∧ 2 ≤ 257 from ⟨by omega, by omega⟩)
      have hF5_ : ai_fr (sx_W vw_194) S0_ (sm_pI S_ 10 0 2 2) := ai_fr_tr hF_ (ai_fr_pI rfl)
      have b6_ : 0 ≤ S_.1 10 0 4 ∧ S_.1 10 0 4 ≤ 1280 := hI_.1 10 0 4 rfl
      refine sm_T_go 6 (c1 := (111, [some (.inr (.inr (some (10, 0))))], [.inl 6, .inl (S_.1 10 0 4)], sm_pI S_ 10 0 2 2)) rfl ?_
      refine sm_T_br (a := 4) (z := 7) rfl (fun c7_ => ?_) (fun c7_ => ?_)
      · have c7_ : 6 < (S_.1 10 0 4) := of_decide_eq_true c7_
        refine sm_T_go 1 (c1 := (119, [some (.inr (.inr (some (10, 0))))], [.inl 0], sm_pI S_ 10 0 2 2)) rfl ?_
        refine sm_T_rz rfl (by omega) ⟨_, _, rfl, _, rfl, hI4_, hF5_, ?_⟩
        have e4_ : lx_de b_ n_ p_ = p_ + k_ := by rw [← h2_, lx_f_go]; exact if_neg (by omega)
        rw [e4_]
        (try simp only [rd_eq, rd_ne, rf_eq, rf_nk, rf_nt, rd_fa, rd_af, rd_fl, rd_al, rd_lf, rd_la, rd_leq, rd_lne, rd_fr, rd_ar, ne_eq, Nat.reduceEqDiff, not_false_eq_true])
        refine ⟨?_, by omega, by omega, trivial, ?_⟩
        · first | rw [if_pos (by omega)] | rw [if_neg (by omega)]
        · rw [show p_ + k_ - p_ = k_ by omega]; exact h3_
      · have c7_ : ¬ (6 < (S_.1 10 0 4)) := of_decide_eq_false c7_
        refine sm_T_go 2 (c1 := (119, [some (.inr (.inr (some (10, 0))))], [.inl 1], sm_pI S_ 10 0 2 2)) rfl ?_
        refine sm_T_rz rfl (by omega) ⟨_, _, rfl, _, rfl, hI4_, hF5_, ?_⟩
        have e4_ : lx_de b_ n_ p_ = p_ + k_ := by rw [← h2_, lx_f_go]; exact if_neg (by omega)
        rw [e4_]
        (try simp only [rd_eq, rd_ne, rf_eq, rf_nk, rf_nt, rd_fa, rd_af, rd_fl, rd_al, rd_lf, rd_la, rd_leq, rd_lne, rd_fr, rd_ar, ne_eq, Nat.reduceEqDiff, not_false_eq_true])
        refine ⟨?_, by omega, by omega, trivial, ?_⟩
        · first | rw [if_pos (by omega)] | rw [if_neg (by omega)]
        · rw [show p_ + k_ - p_ = k_ by omega]; exact h3_
    · have c3_ : ¬ ((S_.1 10 0 1) ≤ (S_.1 10 0 8)) := of_decide_eq_false c3_
      refine sm_T_go 4 (c1 := (24, [some (.inr (.inr (some (10, 0))))], [.inl (S_.1 10 0 8), .inr (.inr (some (98, 0)))], S_)) rfl ?_
      refine sm_T_bald (n := 65536) rfl rfl (by omega) (by omega) ?_
      have b8_ : (-128) ≤ S_.2.2.1 98 0 (S_.1 10 0 8).toNat ∧ S_.2.2.1 98 0 (S_.1 10 0 8).toNat ≤ 127 := hI_.2 98 0 _
      refine sm_T_go 1 (c1 := (27, [some (.inr (.inr (some (10, 0))))], [.inl 48, .inl (S_.2.2.1 98 0 (S_.1 10 0 8).toNat)], S_)) rfl ?_
      refine sm_T_br (a := 2) (z := 73) rfl (fun c9_ => ?_) (fun c9_ => ?_)
      · have c9_ : (S_.2.2.1 98 0 (S_.1 10 0 8).toNat) < 48 := of_decide_eq_true c9_
        have hI10_ : gi (sm_pI S_ 10 0 2 2) := gi_pI hI_ (show (-128) ≤ 2 ∧ 2 ≤ 257 from ⟨by omega, by omega⟩)
        have hF11_ : ai_fr (sx_W vw_194) S0_ (sm_pI S_ 10 0 2 2) := ai_fr_tr hF_ (ai_fr_pI rfl)
        have b12_ : 0 ≤ S_.1 10 0 4 ∧ S_.1 10 0 4 ≤ 1280 := hI_.1 10 0 4 rfl
        refine sm_T_go 6 (c1 := (111, [some (.inr (.inr (some (10, 0))))], [.inl 6, .inl (S_.1 10 0 4)], sm_pI S_ 10 0 2 2)) rfl ?_
        refine sm_T_br (a := 4) (z := 7) rfl (fun c13_ => ?_) (fun c13_ => ?_)
        · have c13_ : 6 < (S_.1 10 0 4) := of_decide_eq_true c13_
          refine sm_T_go 1 (c1 := (119, [some (.inr (.inr (some (10, 0))))], [.inl 0], sm_pI S_ 10 0 2 2)) rfl ?_
          refine sm_T_rz rfl (by omega) ⟨_, _, rfl, _, rfl, hI10_, hF11_, ?_⟩
          have e4_ : lx_de b_ n_ p_ = p_ + k_ := by rw [← h2_, lx_f_go]; exact if_neg (by omega)
          rw [e4_]
          (try simp only [rd_eq, rd_ne, rf_eq, rf_nk, rf_nt, rd_fa, rd_af, rd_fl, rd_al, rd_lf, rd_la, rd_leq, rd_lne, rd_fr, rd_ar, ne_eq, Nat.reduceEqDiff, not_false_eq_true])
          refine ⟨?_, by omega, by omega, trivial, ?_⟩
          · first | rw [if_pos (by omega)] | rw [if_neg (by omega)]
          · rw [show p_ + k_ - p_ = k_ by omega]; exact h3_
        · have c13_ : ¬ (6 < (S_.1 10 0 4)) := of_decide_eq_false c13_
          refine sm_T_go 2 (c1 := (119, [some (.inr (.inr (some (10, 0))))], [.inl 1], sm_pI S_ 10 0 2 2)) rfl ?_
          refine sm_T_rz rfl (by omega) ⟨_, _, rfl, _, rfl, hI10_, hF11_, ?_⟩
          have e4_ : lx_de b_ n_ p_ = p_ + k_ := by rw [← h2_, lx_f_go]; exact if_neg (by omega)
          rw [e4_]
          (try simp only [rd_eq, rd_ne, rf_eq, rf_nk, rf_nt, rd_fa, rd_af, rd_fl, rd_al, rd_lf, rd_la, rd_leq, rd_lne, rd_fr, rd_ar, ne_eq, Nat.reduceEqDiff, not_false_eq_true])
          refine ⟨?_, by omega, by omega, trivial, ?_⟩
          · first | rw [if_pos (by omega)] | rw [if_neg (by omega)]
          · rw [show p_ + k_ - p_ = k_ by omega]; exact h3_
      · have c9_ : ¬ ((S_.2.2.1 98 0 (S_.1 10 0 8).toNat) < 48) := of_decide_eq_false c9_
        refine sm_T_go 4 (c1 := (38, [some (.inr (.inr (some (10, 0))))], [.inl (S_.1 10 0 8), .inr (.inr (some (98, 0)))], S_)) rfl ?_
        refine sm_T_bald (n := 65536) rfl rfl (by omega) (by omega) ?_
        refine sm_T_go 1 (c1 := (41, [some (.inr (.inr (some (10, 0))))], [.inl 57, .inl (S_.2.2.1 98 0 (S_.1 10 0 8).toNat)], S_)) rfl ?_
        refine sm_T_br (a := 4) (z := 59) rfl (fun c14_ => ?_) (fun c14_ => ?_)
        · have c14_ : 57 < (S_.2.2.1 98 0 (S_.1 10 0 8).toNat) := of_decide_eq_true c14_
          have hI15_ : gi (sm_pI S_ 10 0 2 2) := gi_pI hI_ (show (-128) ≤ 2 ∧ 2 ≤ 257 from ⟨by omega, by omega⟩)
          have hF16_ : ai_fr (sx_W vw_194) S0_ (sm_pI S_ 10 0 2 2) := ai_fr_tr hF_ (ai_fr_pI rfl)
          have b17_ : 0 ≤ S_.1 10 0 4 ∧ S_.1 10 0 4 ≤ 1280 := hI_.1 10 0 4 rfl
          refine sm_T_go 6 (c1 := (111, [some (.inr (.inr (some (10, 0))))], [.inl 6, .inl (S_.1 10 0 4)], sm_pI S_ 10 0 2 2)) rfl ?_
          refine sm_T_br (a := 4) (z := 7) rfl (fun c18_ => ?_) (fun c18_ => ?_)
          · have c18_ : 6 < (S_.1 10 0 4) := of_decide_eq_true c18_
            refine sm_T_go 1 (c1 := (119, [some (.inr (.inr (some (10, 0))))], [.inl 0], sm_pI S_ 10 0 2 2)) rfl ?_
            refine sm_T_rz rfl (by omega) ⟨_, _, rfl, _, rfl, hI15_, hF16_, ?_⟩
            have e4_ : lx_de b_ n_ p_ = p_ + k_ := by rw [← h2_, lx_f_go]; exact if_neg (by omega)
            rw [e4_]
            (try simp only [rd_eq, rd_ne, rf_eq, rf_nk, rf_nt, rd_fa, rd_af, rd_fl, rd_al, rd_lf, rd_la, rd_leq, rd_lne, rd_fr, rd_ar, ne_eq, Nat.reduceEqDiff, not_false_eq_true])
            refine ⟨?_, by omega, by omega, trivial, ?_⟩
            · first | rw [if_pos (by omega)] | rw [if_neg (by omega)]
            · rw [show p_ + k_ - p_ = k_ by omega]; exact h3_
          · have c18_ : ¬ (6 < (S_.1 10 0 4)) := of_decide_eq_false c18_
            refine sm_T_go 2 (c1 := (119, [some (.inr (.inr (some (10, 0))))], [.inl 1], sm_pI S_ 10 0 2 2)) rfl ?_
            refine sm_T_rz rfl (by omega) ⟨_, _, rfl, _, rfl, hI15_, hF16_, ?_⟩
            have e4_ : lx_de b_ n_ p_ = p_ + k_ := by rw [← h2_, lx_f_go]; exact if_neg (by omega)
            rw [e4_]
            (try simp only [rd_eq, rd_ne, rf_eq, rf_nk, rf_nt, rd_fa, rd_af, rd_fl, rd_al, rd_lf, rd_la, rd_leq, rd_lne, rd_fr, rd_ar, ne_eq, Nat.reduceEqDiff, not_false_eq_true])
            refine ⟨?_, by omega, by omega, trivial, ?_⟩
            · first | rw [if_pos (by omega)] | rw [if_neg (by omega)]
            · rw [show p_ + k_ - p_ = k_ by omega]; exact h3_
        · have c14_ : ¬ (57 < (S_.2.2.1 98 0 (S_.1 10 0 8).toNat)) := of_decide_eq_false c14_
          have b19_ : 0 ≤ S_.1 10 0 4 ∧ S_.1 10 0 4 ≤ 1280 := hI_.1 10 0 4 rfl
          refine sm_T_go 3 (c1 := (50, [some (.inr (.inr (some (10, 0))))], [.inl 6, .inl (S_.1 10 0 4)], S_)) rfl ?_
          refine sm_T_br (a := 3) (z := 27) rfl (fun c20_ => ?_) (fun c20_ => ?_)
          · have c20_ : 6 ≤ (S_.1 10 0 4) := of_decide_eq_true c20_
            refine sm_T_go 4 (c1 := (83, [some (.inr (.inr (some (10, 0))))], [.inl 1, .inl (S_.1 10 0 4), .inr (.inr (some (10, 0)))], S_)) rfl ?_
            refine sm_T_bin (w := (S_.1 10 0 4) + 1) rfl (bi_add (by omega) (by omega) (by omega)) ?_
            have hI21_ : gi (sm_pI S_ 10 0 4 ((S_.1 10 0 4) + 1)) := gi_pI hI_ (show 0 ≤ (S_.1 10 0 4) + 1 ∧ (S_.1 10 0 4) + 1 ≤ 1280 from ⟨by omega, by omega⟩)
            have hF22_ : ai_fr (sx_W vw_194) S0_ (sm_pI S_ 10 0 4 ((S_.1 10 0 4) + 1)) := ai_fr_tr hF_ (ai_fr_pI rfl)
            refine sm_T_go 5 (c1 := (93, [some (.inr (.inr (some (10, 0))))], [.inl 1, .inl (S_.1 10 0 8), .inr (.inr (some (10, 0)))], sm_pI S_ 10 0 4 ((S_.1 10 0 4) + 1))) rfl ?_
            refine sm_T_bin (w := (S_.1 10 0 8) + 1) rfl (bi_add (by omega) (by omega) (by omega)) ?_
            have hI23_ : gi (sm_pI (sm_pI S_ 10 0 4 ((S_.1 10 0 4) + 1)) 10 0 8 ((S_.1 10 0 8) + 1)) := gi_pI hI21_ (show 0 ≤ (S_.1 10 0 8) + 1 ∧ (S_.1 10 0 8) + 1 ≤ 1280 from ⟨by omega, by omega⟩)
            have hF24_ : ai_fr (sx_W vw_194) S0_ (sm_pI (sm_pI S_ 10 0 4 ((S_.1 10 0 4) + 1)) 10 0 8 ((S_.1 10 0 8) + 1)) := ai_fr_tr hF22_ (ai_fr_pI rfl)
            refine sm_T_go 2 (c1 := (5, [some (.inr (.inr (some (10, 0))))], [], sm_pI (sm_pI S_ 10 0 4 ((S_.1 10 0 4) + 1)) 10 0 8 ((S_.1 10 0 8) + 1))) rfl ?_
            refine ih_  (sm_pI (sm_pI S_ 10 0 4 ((S_.1 10 0 4) + 1)) 10 0 8 ((S_.1 10 0 8) + 1)) hI23_ hF24_ ⟨?_, trivial⟩ ?_
            · have g_ : lx_g (b_ (p_ + k_)) := ⟨by omega, by omega⟩
              refine ⟨k_ + 1, ?_, ?_, by omega, ?_, ?_, ?_⟩
              · (try simp only [rd_eq, rd_ne, rf_eq, rf_nk, rf_nt, rd_fa, rd_af, rd_fl, rd_al, rd_lf, rd_la, rd_leq, rd_lne, rd_fr, rd_ar, ne_eq, Nat.reduceEqDiff, not_false_eq_true]); push_cast; omega
              · (try simp only [rd_eq, rd_ne, rf_eq, rf_nk, rf_nt, rd_fa, rd_af, rd_fl, rd_al, rd_lf, rd_la, rd_leq, rd_lne, rd_fr, rd_ar, ne_eq, Nat.reduceEqDiff, not_false_eq_true]); push_cast; omega
              · rw [← h2_, lx_f_go (p := p_ + k_)]
                rw [if_pos ⟨by omega, g_⟩]; rfl
              · (try simp only [rd_eq, rd_ne, rf_eq, rf_nk, rf_nt, rd_fa, rd_af, rd_fl, rd_al, rd_lf, rd_la, rd_leq, rd_lne, rd_fr, rd_ar, ne_eq, Nat.reduceEqDiff, not_false_eq_true])
                first | (rw [show min (k_ + 1) 6 = min k_ 6 by omega]; exact h3_) | (rw [show min (k_ + 1) 6 = k_ + 1 by omega]; unfold lx_v; rw [h3_, e9_])
              · intro j_ hj_
                by_cases q_ : j_ = k_
                · rw [q_]; exact g_
                · exact h4_ j_ (by omega)
            · (try simp only [rd_eq, rd_ne, rf_eq, rf_nk, rf_nt, rd_fa, rd_af, rd_fl, rd_al, rd_lf, rd_la, rd_leq, rd_lne, rd_fr, rd_ar, ne_eq, Nat.reduceEqDiff, not_false_eq_true]); omega
          · have c20_ : ¬ (6 ≤ (S_.1 10 0 4)) := of_decide_eq_false c20_
            have hw_ := lx_v_c (b := b_) (p := p_) (k := k_) (by omega) h4_ ⟨by omega, by omega⟩
            rw [show min k_ 6 = k_ by omega] at h3_
            have b25_ : 0 ≤ S_.1 10 0 5 ∧ S_.1 10 0 5 ≤ 999999 := hI_.1 10 0 5 rfl
            refine sm_T_go 4 (c1 := (60, [some (.inr (.inr (some (10, 0))))], [.inl (S_.1 10 0 5), .inl 10, .inr (.inr (some (10, 0)))], S_)) rfl ?_
            refine sm_T_bin (w := 10 * (S_.1 10 0 5)) rfl (bi_mul (by omega) (by omega) (by omega)) ?_
            refine sm_T_go 4 (c1 := (69, [some (.inr (.inr (some (10, 0))))], [.inl (S_.1 10 0 8), .inr (.inr (some (98, 0))), .inl (10 * (S_.1 10 0 5)), .inr (.inr (some (10, 0)))], S_)) rfl ?_
            refine sm_T_bald (n := 65536) rfl rfl (by omega) (by omega) ?_
            refine sm_T_bin (w := 10 * (S_.1 10 0 5) + (S_.2.2.1 98 0 (S_.1 10 0 8).toNat)) rfl (bi_add (by omega) (by omega) (by omega)) ?_
            refine sm_T_go 1 (c1 := (73, [some (.inr (.inr (some (10, 0))))], [.inl 48, .inl (10 * (S_.1 10 0 5) + (S_.2.2.1 98 0 (S_.1 10 0 8).toNat)), .inr (.inr (some (10, 0)))], S_)) rfl ?_
            refine sm_T_bin (w := 10 * (S_.1 10 0 5) + (S_.2.2.1 98 0 (S_.1 10 0 8).toNat) - 48) rfl (bi_sub (by omega) (by omega) (by omega)) ?_
            have hI26_ : gi (sm_pI S_ 10 0 5 (10 * (S_.1 10 0 5) + (S_.2.2.1 98 0 (S_.1 10 0 8).toNat) - 48)) := gi_pI hI_ (show 0 ≤ 10 * (S_.1 10 0 5) + (S_.2.2.1 98 0 (S_.1 10 0 8).toNat) - 48 ∧ 10 * (S_.1 10 0 5) + (S_.2.2.1 98 0 (S_.1 10 0 8).toNat) - 48 ≤ 999999 from ⟨by omega, by omega⟩)
            have hF27_ : ai_fr (sx_W vw_194) S0_ (sm_pI S_ 10 0 5 (10 * (S_.1 10 0 5) + (S_.2.2.1 98 0 (S_.1 10 0 8).toNat) - 48)) := ai_fr_tr hF_ (ai_fr_pI rfl)
            refine sm_T_go 5 (c1 := (83, [some (.inr (.inr (some (10, 0))))], [.inl 1, .inl (S_.1 10 0 4), .inr (.inr (some (10, 0)))], sm_pI S_ 10 0 5 (10 * (S_.1 10 0 5) + (S_.2.2.1 98 0 (S_.1 10 0 8).toNat) - 48))) rfl ?_
            refine sm_T_bin (w := (S_.1 10 0 4) + 1) rfl (bi_add (by omega) (by omega) (by omega)) ?_
            have hI28_ : gi (sm_pI (sm_pI S_ 10 0 5 (10 * (S_.1 10 0 5) + (S_.2.2.1 98 0 (S_.1 10 0 8).toNat) - 48)) 10 0 4 ((S_.1 10 0 4) + 1)) := gi_pI hI26_ (show 0 ≤ (S_.1 10 0 4) + 1 ∧ (S_.1 10 0 4) + 1 ≤ 1280 from ⟨by omega, by omega⟩)
            have hF29_ : ai_fr (sx_W vw_194) S0_ (sm_pI (sm_pI S_ 10 0 5 (10 * (S_.1 10 0 5) + (S_.2.2.1 98 0 (S_.1 10 0 8).toNat) - 48)) 10 0 4 ((S_.1 10 0 4) + 1)) := ai_fr_tr hF27_ (ai_fr_pI rfl)
            refine sm_T_go 5 (c1 := (93, [some (.inr (.inr (some (10, 0))))], [.inl 1, .inl (S_.1 10 0 8), .inr (.inr (some (10, 0)))], sm_pI (sm_pI S_ 10 0 5 (10 * (S_.1 10 0 5) + (S_.2.2.1 98 0 (S_.1 10 0 8).toNat) - 48)) 10 0 4 ((S_.1 10 0 4) + 1))) rfl ?_
            refine sm_T_bin (w := (S_.1 10 0 8) + 1) rfl (bi_add (by omega) (by omega) (by omega)) ?_
            have hI30_ : gi (sm_pI (sm_pI (sm_pI S_ 10 0 5 (10 * (S_.1 10 0 5) + (S_.2.2.1 98 0 (S_.1 10 0 8).toNat) - 48)) 10 0 4 ((S_.1 10 0 4) + 1)) 10 0 8 ((S_.1 10 0 8) + 1)) := gi_pI hI28_ (show 0 ≤ (S_.1 10 0 8) + 1 ∧ (S_.1 10 0 8) + 1 ≤ 1280 from ⟨by omega, by omega⟩)
            have hF31_ : ai_fr (sx_W vw_194) S0_ (sm_pI (sm_pI (sm_pI S_ 10 0 5 (10 * (S_.1 10 0 5) + (S_.2.2.1 98 0 (S_.1 10 0 8).toNat) - 48)) 10 0 4 ((S_.1 10 0 4) + 1)) 10 0 8 ((S_.1 10 0 8) + 1)) := ai_fr_tr hF29_ (ai_fr_pI rfl)
            refine sm_T_go 2 (c1 := (5, [some (.inr (.inr (some (10, 0))))], [], sm_pI (sm_pI (sm_pI S_ 10 0 5 (10 * (S_.1 10 0 5) + (S_.2.2.1 98 0 (S_.1 10 0 8).toNat) - 48)) 10 0 4 ((S_.1 10 0 4) + 1)) 10 0 8 ((S_.1 10 0 8) + 1))) rfl ?_
            refine ih_  (sm_pI (sm_pI (sm_pI S_ 10 0 5 (10 * (S_.1 10 0 5) + (S_.2.2.1 98 0 (S_.1 10 0 8).toNat) - 48)) 10 0 4 ((S_.1 10 0 4) + 1)) 10 0 8 ((S_.1 10 0 8) + 1)) hI30_ hF31_ ⟨?_, trivial⟩ ?_
            · have g_ : lx_g (b_ (p_ + k_)) := ⟨by omega, by omega⟩
              refine ⟨k_ + 1, ?_, ?_, by omega, ?_, ?_, ?_⟩
              · (try simp only [rd_eq, rd_ne, rf_eq, rf_nk, rf_nt, rd_fa, rd_af, rd_fl, rd_al, rd_lf, rd_la, rd_leq, rd_lne, rd_fr, rd_ar, ne_eq, Nat.reduceEqDiff, not_false_eq_true]); push_cast; omega
              · (try simp only [rd_eq, rd_ne, rf_eq, rf_nk, rf_nt, rd_fa, rd_af, rd_fl, rd_al, rd_lf, rd_la, rd_leq, rd_lne, rd_fr, rd_ar, ne_eq, Nat.reduceEqDiff, not_false_eq_true]); push_cast; omega
              · rw [← h2_, lx_f_go (p := p_ + k_)]
                rw [if_pos ⟨by omega, g_⟩]; rfl
              · (try simp only [rd_eq, rd_ne, rf_eq, rf_nk, rf_nt, rd_fa, rd_af, rd_fl, rd_al, rd_lf, rd_la, rd_leq, rd_lne, rd_fr, rd_ar, ne_eq, Nat.reduceEqDiff, not_false_eq_true])
                first | (rw [show min (k_ + 1) 6 = min k_ 6 by omega]; exact h3_) | (rw [show min (k_ + 1) 6 = k_ + 1 by omega]; unfold lx_v; rw [h3_, e9_])
              · intro j_ hj_
                by_cases q_ : j_ = k_
                · rw [q_]; exact g_
                · exact h4_ j_ (by omega)
            · (try simp only [rd_eq, rd_ne, rf_eq, rf_nk, rf_nt, rd_fa, rd_af, rd_fl, rd_al, rd_lf, rd_la, rd_leq, rd_lne, rd_fr, rd_ar, ne_eq, Nat.reduceEqDiff, not_false_eq_true]); omega
theorem vc_194 {sc_ : Nat × (Nat → Int)} (b_ : Nat → Int) (n_ : Nat) (p_ : Nat) (S0_ : sm_S) (hI_ : gi S0_) (hb_ : S0_.2.2.1 98 0 = b_) (hn_ : (S0_.1 10 0 1) = (n_ : Int)) (hn1_ : n_ ≤ 1280) (hp_ : (S0_.1 10 0 8) = (p_ : Int)) (hpn_ : p_ ≤ n_) (hz_ : (S0_.1 10 0 4) = 0) : sm_T (mt_P sc_) 0 194 (0, [some (.inr (.inr (some (10, 0))))], [], S0_) (fun r_ => ∃ u_ S1_, r_ = (.inl u_, S1_, 0) ∧ vq_194 b_ n_ p_ S0_ u_ S1_) := by
  have hF_ : ai_fr (sx_W vw_194) S0_ S0_ := ai_fr_rf
  have hI1_ : gi (sm_pI S0_ 10 0 5 0) := gi_pI hI_ (show 0 ≤ 0 ∧ 0 ≤ 999999 from ⟨by omega, by omega⟩)
  have hF2_ : ai_fr (sx_W vw_194) S0_ (sm_pI S0_ 10 0 5 0) := ai_fr_tr hF_ (ai_fr_pI rfl)
  refine sm_T_go 3 (c1 := (5, [some (.inr (.inr (some (10, 0))))], [], sm_pI S0_ 10 0 5 0)) rfl ?_
  refine (vl_194 b_ n_ p_ S0_ hb_ hn_ hn1_ hp_ hpn_ hz_ _)  (sm_pI S0_ 10 0 5 0) hI1_ hF2_ ⟨?_, trivial⟩ (Nat.lt_succ_self _)
  · exact ⟨0, by (try simp only [rd_eq, rd_ne, rf_eq, rf_nk, rf_nt, rd_fa, rd_af, rd_fl, rd_al, rd_lf, rd_la, rd_leq, rd_lne, rd_fr, rd_ar, ne_eq, Nat.reduceEqDiff, not_false_eq_true]); simpa using hp_, hz_, by omega, rfl, rfl, fun j_ hj_ => absurd hj_ (Nat.not_lt_zero _)⟩
