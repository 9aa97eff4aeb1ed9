/-! Board.layOut -/
def vw_21 : sx_Wl := ([], [14, 15], [])
def vq_21 (a2_ : Int) (a3_ : Int) (ii_ : Nat) (cc_ : Nat) (S0_ : sm_S) (u_ : Option sm_V) (S1_ : sm_S) : Prop := ∃ v_ : Int, u_ = some (.inl v_) ∧ gi S1_ ∧ ai_fr (sx_W vw_21) S0_ S1_ ∧ (cdf ii_ S0_ S1_ ∧ (v_ = (lo9 (S0_.2.2.1 16 (0 + ii_)) a2_ (S0_.1 2 cc_ 2 + S0_.1 2 cc_ 8).toNat).1 + 1 ∧ (a3_ = 0 → S1_ = S0_) ∧ (a3_ ≠ 0 → ∀ j_ : Nat, (j_ : Int) < (S0_.1 2 cc_ 2 + S0_.1 2 cc_ 8) → S1_.2.2.1 14 (0 + ii_) j_ + (S0_.2.2.1 16 (0 + ii_)) j_ ≤ a2_ ∧ S1_.2.2.1 15 (0 + ii_) j_ < v_)))
set_option maxHeartbeats 400000 in
theorem vl_21 {sc_ : Nat × (Nat → Int)} (a2_ : Int) (a3_ : Int) (ii_ : Nat) (cc_ : Nat) (S0_ : sm_S) (hI0_ : gi S0_) (h1_ : 4 ≤ a2_ ∧ a2_ ≤ 60) (h3_ : 0 ≤ a3_ ∧ a3_ ≤ 1) (hk_ : a3_ ≠ 0 → (lo9 (S0_.2.2.1 16 (0 + ii_)) a2_ (S0_.1 2 cc_ 2 + S0_.1 2 cc_ 8).toNat).1 ≤ 11) : ∀ nn_ : Nat, (∀ (rr_ : Int) (st_ : Int) (e9_ : Int) (S_ : sm_S), gi S_ → ai_fr (sx_W vw_21) S0_ S_ → ((0 ≤ e9_ ∧ e9_ ≤ (S0_.1 2 cc_ 2 + S0_.1 2 cc_ 8)) ∧ (rr_ = (lo9 (S0_.2.2.1 16 (0 + ii_)) a2_ e9_.toNat).1) ∧ (st_ = (lo9 (S0_.2.2.1 16 (0 + ii_)) a2_ e9_.toNat).2) ∧ (a3_ = 0 → S_ = S0_) ∧ (a3_ ≠ 0 → ∀ j_ : Nat, (j_ : Int) < e9_ → S_.2.2.1 14 (0 + ii_) j_ + (S0_.2.2.1 16 (0 + ii_)) j_ ≤ a2_ ∧ S_.2.2.1 15 (0 + ii_) j_ ≤ rr_) ∧ (cdf ii_ S0_ S_) ∧ True) → ((1000 - e9_).toNat) < nn_ → sm_T (mt_P sc_) 1 21 (9, [some (.inr (.inr (some (0, ii_)))), some (.inr (.inr (some (2, cc_)))), some (.inl a2_), some (.inl a3_), some (.inl rr_), some (.inl st_), some (.inl e9_)], [], S_) (fun ro9_ => ∃ u_ S1_, ro9_ = (.inl u_, S1_, 0) ∧ vq_21 a2_ a3_ ii_ cc_ S0_ u_ S1_)) := by
  intro nn_
  induction nn_ with
  | zero => exact fun _ _ _ _ _ _ _ h_ => absurd h_ (Nat.not_lt_zero _)
  | succ nn_ ih_ =>
    rintro rr_ st_ e9_ S_ hI_ hF_ ⟨h0_, hrr_, hst_, hz_, hj_, hC_, -⟩ hm_
    have z9_ : S_.2.2.1 16 (0 + ii_) = (S0_.2.2.1 16 (0 + ii_)) := fr_arr hF_ rfl
    have l9_ := lo9_b (f_ := (S0_.2.2.1 16 (0 + ii_))) (w_ := a2_) (fun k_ => hI0_.2 16 (0 + ii_) k_) h1_.1 e9_.toNat
    have e2_ : S_.1 2 cc_ 2 = S0_.1 2 cc_ 2 := hF_.1 2 cc_ 2 rfl
    have e8_ : S_.1 2 cc_ 8 = S0_.1 2 cc_ 8 := hF_.1 2 cc_ 8 rfl
    have c2_ : 0 ≤ S0_.1 2 cc_ 2 ∧ S0_.1 2 cc_ 2 ≤ 6 := hI0_.1 2 cc_ 2 rfl
    have c8_ : 0 ≤ S0_.1 2 cc_ 8 ∧ S0_.1 2 cc_ 8 ≤ 150 := hI0_.1 2 cc_ 8 rfl
    refine sm_T_go 2 (c1 := (12, [some (.inr (.inr (some (0, ii_)))), some (.inr (.inr (some (2, cc_)))), some (.inl a2_), some (.inl a3_), some (.inl rr_), some (.inl st_), some (.inl e9_)], [.inr (.inr (some (2, cc_))), .inl e9_], S_)) rfl ?_
    refine sm_T_cal (d1 := 0) (Q1 := vq_56 cc_ S_) rfl rfl (by decide) (vc_56 cc_ S_ hI_ ) (fun u_ Sx1_ px4_ => ?_)
    obtain ⟨rfl, vx6_, rfl, px4_⟩ := px4_
    have n9_ := px4_
    refine sm_T_br (a := 3) (z := 63) rfl (fun cx7_ => ?_) (fun cx7_ => ?_)
    · have cx7_ : vx6_ ≤ e9_ := of_decide_eq_true cx7_
      refine sm_T_go 2 (c1 := (81, [some (.inr (.inr (some (0, ii_)))), some (.inr (.inr (some (2, cc_)))), some (.inl a2_), some (.inl a3_), some (.inl rr_), some (.inl st_), some (.inl e9_)], [.inl 1, .inl rr_], S_)) rfl ?_
      refine sm_T_bin (w := rr_ + 1) rfl (bi_add (by omega) (by omega) (by omega)) ?_ -- pc_ 81
      refine sm_T_ri rfl ⟨_, _, rfl, _, rfl, hI_, hF_, ?_⟩
      refine ⟨hC_, ?_⟩
      have q9_ : e9_ = (S0_.1 2 cc_ 2 + S0_.1 2 cc_ 8) := by omega
      rw [q9_] at hrr_
      refine ⟨by omega, hz_, fun u_ j_ hj9_ => ?_⟩
      have w9_ := hj_ u_ j_ (by omega)
      omega
    · have cx7_ : ¬ (vx6_ ≤ e9_) := of_decide_eq_false cx7_
      have s9_ := lo9_s (S0_.2.2.1 16 (0 + ii_)) a2_ e9_.toNat
      have g9_ : 0 ≤ S0_.2.2.1 16 (0 + ii_) e9_.toNat ∧ S0_.2.2.1 16 (0 + ii_) e9_.toNat ≤ 4 := hI0_.2 16 (0 + ii_) _
      have m9_ := lo9_mo (f_ := (S0_.2.2.1 16 (0 + ii_))) (w_ := a2_) (n_ := e9_.toNat + 1) (m_ := (S0_.1 2 cc_ 2 + S0_.1 2 cc_ 8).toNat) (by omega)
      have y9_ : S_.2.2.1 16 (0 + ii_) e9_.toNat = (S0_.2.2.1 16 (0 + ii_)) e9_.toNat := by rw [z9_]
      refine sm_T_go 4 (c1 := (26, [some (.inr (.inr (some (0, ii_)))), some (.inr (.inr (some (2, cc_)))), some (.inl a2_), some (.inl a3_), some (.inl rr_), some (.inl st_), some (.inl e9_)], [.inl e9_, .inr (.inr (some (16, (0 + ii_)))), .inl st_], S_)) rfl ?_
      refine sm_T_iald (n := 156) rfl rfl (by omega) (by omega) ?_
      have bx8_ : 0 ≤ S_.2.2.1 16 (0 + ii_) e9_.toNat ∧ S_.2.2.1 16 (0 + ii_) e9_.toNat ≤ 4 := hI_.2 16 (0 + ii_) _
      refine sm_T_bin (w := st_ + (S_.2.2.1 16 (0 + ii_) e9_.toNat)) rfl (bi_add (by omega) (by omega) (by omega)) ?_ -- pc_ 27
      refine sm_T_go 1 (c1 := (29, [some (.inr (.inr (some (0, ii_)))), some (.inr (.inr (some (2, cc_)))), some (.inl a2_), some (.inl a3_), some (.inl rr_), some (.inl st_), some (.inl e9_)], [.inl a2_, .inl (st_ + (S_.2.2.1 16 (0 + ii_) e9_.toNat))], S_)) rfl ?_
      refine sm_T_br (a := 5) (z := 9) rfl (fun cx9_ => ?_) (fun cx9_ => ?_)
      · have cx9_ : st_ + (S_.2.2.1 16 (0 + ii_) e9_.toNat) ≤ a2_ := of_decide_eq_true cx9_
        rw [← hst_, if_neg (by omega)] at s9_
        rw [s9_] at m9_
        dsimp only at m9_
        refine sm_T_go 1 (c1 := (39, [some (.inr (.inr (some (0, ii_)))), some (.inr (.inr (some (2, cc_)))), some (.inl a2_), some (.inl a3_), some (.inl rr_), some (.inl st_), some (.inl e9_)], [.inl a3_], S_)) rfl ?_
        refine sm_T_b0 (a := 0) (z := 21) rfl (fun cx10_ => ?_) (fun cx10_ => ?_)
        · have cx10_ : a3_ = 0 := of_decide_eq_true cx10_
          refine sm_T_go 4 (c1 := (68, [some (.inr (.inr (some (0, ii_)))), some (.inr (.inr (some (2, cc_)))), some (.inl a2_), some (.inl a3_), some (.inl rr_), some (.inl st_), some (.inl e9_)], [.inl e9_, .inr (.inr (some (16, (0 + ii_)))), .inl st_], S_)) rfl ?_
          refine sm_T_iald (n := 156) rfl rfl (by omega) (by omega) ?_
          refine sm_T_bin (w := st_ + (S_.2.2.1 16 (0 + ii_) e9_.toNat)) rfl (bi_add (by omega) (by omega) (by omega)) ?_ -- pc_ 69
          refine sm_T_go 1 (c1 := (72, [some (.inr (.inr (some (0, ii_)))), some (.inr (.inr (some (2, cc_)))), some (.inl a2_), some (.inl a3_), some (.inl rr_), some (.inl (st_ + (S_.2.2.1 16 (0 + ii_) e9_.toNat))), some (.inl e9_)], [], S_)) rfl ?_
          refine sm_T_inc (a := 6) (z := 1) (v := e9_) (w := e9_ + 1) rfl rfl (by omega) (by omega) (by omega) ?_ -- pc_ 72
          refine sm_T_go 1 (c1 := (9, [some (.inr (.inr (some (0, ii_)))), some (.inr (.inr (some (2, cc_)))), some (.inl a2_), some (.inl a3_), some (.inl rr_), some (.inl (st_ + (S_.2.2.1 16 (0 + ii_) e9_.toNat))), some (.inl (e9_ + 1))], [], S_)) rfl ?_
          refine ih_ rr_ (st_ + (S_.2.2.1 16 (0 + ii_) e9_.toNat)) (e9_ + 1) S_ hI_ hF_ ⟨?_, ?_, ?_, ?_, ?_, ?_, trivial⟩ ?_
          · omega
          · (rw [show (e9_ + 1).toNat = e9_.toNat + 1 by omega, s9_]; try dsimp only; omega)
          · (rw [show (e9_ + 1).toNat = e9_.toNat + 1 by omega, s9_]; try dsimp only; omega)
          · exact hz_
          · (intro u_; exfalso; omega)
          · exact hC_
          · omega
        · have cx10_ : ¬ (a3_ = 0) := of_decide_eq_false cx10_
          have k9_ := hk_ (by omega)
          refine sm_T_go 4 (c1 := (50, [some (.inr (.inr (some (0, ii_)))), some (.inr (.inr (some (2, cc_)))), some (.inl a2_), some (.inl a3_), some (.inl rr_), some (.inl st_), some (.inl e9_)], [.inl st_, .inl e9_, .inr (.inr (some (14, (0 + ii_))))], S_)) rfl ?_
          refine sm_T_iast (n := 156) rfl rfl (by omega) (by omega) ?_
          have hIx11_ : gi (sm_aI S_ 14 (0 + ii_) e9_.toNat st_) := gi_aI hI_ (show 0 ≤ st_ ∧ st_ ≤ 60 from ⟨by omega, by omega⟩)
          have hFx12_ : ai_fr (sx_W vw_21) S0_ (sm_aI S_ 14 (0 + ii_) e9_.toNat st_) := ai_fr_tr hF_ (ai_fr_aI rfl)
          have hCx13_ : cdf ii_ S0_ (sm_aI S_ 14 (0 + ii_) e9_.toNat st_) := cdf_aI hC_ (Or.inr (by rw [show cof 14 = 0 from rfl] <;> omega))
          refine sm_T_go 4 (c1 := (59, [some (.inr (.inr (some (0, ii_)))), some (.inr (.inr (some (2, cc_)))), some (.inl a2_), some (.inl a3_), some (.inl rr_), some (.inl st_), some (.inl e9_)], [.inl rr_, .inl e9_, .inr (.inr (some (15, (0 + ii_))))], sm_aI S_ 14 (0 + ii_) e9_.toNat st_)) rfl ?_
          refine sm_T_iast (n := 156) rfl rfl (by omega) (by omega) ?_
          have hIx14_ : gi (sm_aI (sm_aI S_ 14 (0 + ii_) e9_.toNat st_) 15 (0 + ii_) e9_.toNat rr_) := gi_aI hIx11_ (show 0 ≤ rr_ ∧ rr_ ≤ 12 from ⟨by omega, by omega⟩)
          have hFx15_ : ai_fr (sx_W vw_21) S0_ (sm_aI (sm_aI S_ 14 (0 + ii_) e9_.toNat st_) 15 (0 + ii_) e9_.toNat rr_) := ai_fr_tr hFx12_ (ai_fr_aI rfl)
          have hCx16_ : cdf ii_ S0_ (sm_aI (sm_aI S_ 14 (0 + ii_) e9_.toNat st_) 15 (0 + ii_) e9_.toNat rr_) := cdf_aI hCx13_ (Or.inr (by rw [show cof 15 = 0 from rfl] <;> omega))
          refine sm_T_go 4 (c1 := (68, [some (.inr (.inr (some (0, ii_)))), some (.inr (.inr (some (2, cc_)))), some (.inl a2_), some (.inl a3_), some (.inl rr_), some (.inl st_), some (.inl e9_)], [.inl e9_, .inr (.inr (some (16, (0 + ii_)))), .inl st_], sm_aI (sm_aI S_ 14 (0 + ii_) e9_.toNat st_) 15 (0 + ii_) e9_.toNat rr_)) rfl ?_
          refine sm_T_iald (n := 156) rfl rfl (by omega) (by omega) ?_
          refine sm_T_go 0 (c1 := (69, [some (.inr (.inr (some (0, ii_)))), some (.inr (.inr (some (2, cc_)))), some (.inl a2_), some (.inl a3_), some (.inl rr_), some (.inl st_), some (.inl e9_)], [.inl (S_.2.2.1 16 (0 + ii_) e9_.toNat), .inl st_], sm_aI (sm_aI S_ 14 (0 + ii_) e9_.toNat st_) 15 (0 + ii_) e9_.toNat rr_)) rfl ?_
          refine sm_T_bin (w := st_ + (S_.2.2.1 16 (0 + ii_) e9_.toNat)) rfl (bi_add (by omega) (by omega) (by omega)) ?_ -- pc_ 69
          refine sm_T_go 1 (c1 := (72, [some (.inr (.inr (some (0, ii_)))), some (.inr (.inr (some (2, cc_)))), some (.inl a2_), some (.inl a3_), some (.inl rr_), some (.inl (st_ + (S_.2.2.1 16 (0 + ii_) e9_.toNat))), some (.inl e9_)], [], sm_aI (sm_aI S_ 14 (0 + ii_) e9_.toNat st_) 15 (0 + ii_) e9_.toNat rr_)) rfl ?_
          refine sm_T_inc (a := 6) (z := 1) (v := e9_) (w := e9_ + 1) rfl rfl (by omega) (by omega) (by omega) ?_ -- pc_ 72
          refine sm_T_go 1 (c1 := (9, [some (.inr (.inr (some (0, ii_)))), some (.inr (.inr (some (2, cc_)))), some (.inl a2_), some (.inl a3_), some (.inl rr_), some (.inl (st_ + (S_.2.2.1 16 (0 + ii_) e9_.toNat))), some (.inl (e9_ + 1))], [], sm_aI (sm_aI S_ 14 (0 + ii_) e9_.toNat st_) 15 (0 + ii_) e9_.toNat rr_)) rfl ?_
          refine ih_ rr_ (st_ + (S_.2.2.1 16 (0 + ii_) e9_.toNat)) (e9_ + 1) (sm_aI (sm_aI S_ 14 (0 + ii_) e9_.toNat st_) 15 (0 + ii_) e9_.toNat rr_) hIx14_ hFx15_ ⟨?_, ?_, ?_, ?_, ?_, ?_, trivial⟩ ?_
          · omega
          · (rw [show (e9_ + 1).toNat = e9_.toNat + 1 by omega, s9_]; try dsimp only; omega)
          · (rw [show (e9_ + 1).toNat = e9_.toNat + 1 by omega, s9_]; try dsimp only; omega)
          · (intro u_; exfalso; omega)
          · intro u_ j_ hj9_
            rw [rd_eq, rd_ne (by decide), rd_eq, rd_ne (by decide)]
            by_cases z_ : j_ = e9_.toNat
            · rw [if_pos z_, if_pos z_, z_]; omega
            · rw [if_neg z_, if_neg z_]; have w9_ := hj_ u_ j_ (by omega); omega
          · exact hCx16_
          · omega
      · have cx9_ : ¬ (st_ + (S_.2.2.1 16 (0 + ii_) e9_.toNat) ≤ a2_) := of_decide_eq_false cx9_
        rw [← hst_, if_pos (by omega)] at s9_
        rw [s9_] at m9_
        dsimp only at m9_
        refine sm_T_inc (a := 4) (z := 1) (v := rr_) (w := rr_ + 1) rfl rfl (by omega) (by omega) (by omega) ?_ -- pc_ 32
        refine sm_T_go 3 (c1 := (39, [some (.inr (.inr (some (0, ii_)))), some (.inr (.inr (some (2, cc_)))), some (.inl a2_), some (.inl a3_), some (.inl (rr_ + 1)), some (.inl 0), some (.inl e9_)], [.inl a3_], S_)) rfl ?_
        refine sm_T_b0 (a := 0) (z := 21) rfl (fun cx17_ => ?_) (fun cx17_ => ?_)
        · have cx17_ : a3_ = 0 := of_decide_eq_true cx17_
          refine sm_T_go 4 (c1 := (68, [some (.inr (.inr (some (0, ii_)))), some (.inr (.inr (some (2, cc_)))), some (.inl a2_), some (.inl a3_), some (.inl (rr_ + 1)), some (.inl 0), some (.inl e9_)], [.inl e9_, .inr (.inr (some (16, (0 + ii_)))), .inl 0], S_)) rfl ?_
          refine sm_T_iald (n := 156) rfl rfl (by omega) (by omega) ?_
          refine sm_T_bin (w := (S_.2.2.1 16 (0 + ii_) e9_.toNat)) rfl (bi_add (by omega) (by omega) (by omega)) ?_ -- pc_ 69
          refine sm_T_go 1 (c1 := (72, [some (.inr (.inr (some (0, ii_)))), some (.inr (.inr (some (2, cc_)))), some (.inl a2_), some (.inl a3_), some (.inl (rr_ + 1)), some (.inl (S_.2.2.1 16 (0 + ii_) e9_.toNat)), some (.inl e9_)], [], S_)) rfl ?_
          refine sm_T_inc (a := 6) (z := 1) (v := e9_) (w := e9_ + 1) rfl rfl (by omega) (by omega) (by omega) ?_ -- pc_ 72
          refine sm_T_go 1 (c1 := (9, [some (.inr (.inr (some (0, ii_)))), some (.inr (.inr (some (2, cc_)))), some (.inl a2_), some (.inl a3_), some (.inl (rr_ + 1)), some (.inl (S_.2.2.1 16 (0 + ii_) e9_.toNat)), some (.inl (e9_ + 1))], [], S_)) rfl ?_
          refine ih_ (rr_ + 1) (S_.2.2.1 16 (0 + ii_) e9_.toNat) (e9_ + 1) S_ hI_ hF_ ⟨?_, ?_, ?_, ?_, ?_, ?_, trivial⟩ ?_
          · omega
          · (rw [show (e9_ + 1).toNat = e9_.toNat + 1 by omega, s9_]; try dsimp only; omega)
          · (rw [show (e9_ + 1).toNat = e9_.toNat + 1 by omega, s9_]; try dsimp only; omega)
          · exact hz_
          · (intro u_; exfalso; omega)
          · exact hC_
          · omega
        · have cx17_ : ¬ (a3_ = 0) := of_decide_eq_false cx17_
          have k9_ := hk_ (by omega)
          refine sm_T_go 4 (c1 := (50, [some (.inr (.inr (some (0, ii_)))), some (.inr (.inr (some (2, cc_)))), some (.inl a2_), some (.inl a3_), some (.inl (rr_ + 1)), some (.inl 0), some (.inl e9_)], [.inl 0, .inl e9_, .inr (.inr (some (14, (0 + ii_))))], S_)) rfl ?_
          refine sm_T_iast (n := 156) rfl rfl (by omega) (by omega) ?_
          have hIx18_ : gi (sm_aI S_ 14 (0 + ii_) e9_.toNat 0) := gi_aI hI_ (show 0 ≤ 0 ∧ 0 ≤ 60 from ⟨by omega, by omega⟩)
          have hFx19_ : ai_fr (sx_W vw_21) S0_ (sm_aI S_ 14 (0 + ii_) e9_.toNat 0) := ai_fr_tr hF_ (ai_fr_aI rfl)
          have hCx20_ : cdf ii_ S0_ (sm_aI S_ 14 (0 + ii_) e9_.toNat 0) := cdf_aI hC_ (Or.inr (by rw [show cof 14 = 0 from rfl] <;> omega))
          refine sm_T_go 4 (c1 := (59, [some (.inr (.inr (some (0, ii_)))), some (.inr (.inr (some (2, cc_)))), some (.inl a2_), some (.inl a3_), some (.inl (rr_ + 1)), some (.inl 0), some (.inl e9_)], [.inl (rr_ + 1), .inl e9_, .inr (.inr (some (15, (0 + ii_))))], sm_aI S_ 14 (0 + ii_) e9_.toNat 0)) rfl ?_
          refine sm_T_iast (n := 156) rfl rfl (by omega) (by omega) ?_
          have hIx21_ : gi (sm_aI (sm_aI S_ 14 (0 + ii_) e9_.toNat 0) 15 (0 + ii_) e9_.toNat (rr_ + 1)) := gi_aI hIx18_ (show 0 ≤ rr_ + 1 ∧ rr_ + 1 ≤ 12 from ⟨by omega, by omega⟩)
          have hFx22_ : ai_fr (sx_W vw_21) S0_ (sm_aI (sm_aI S_ 14 (0 + ii_) e9_.toNat 0) 15 (0 + ii_) e9_.toNat (rr_ + 1)) := ai_fr_tr hFx19_ (ai_fr_aI rfl)
          have hCx23_ : cdf ii_ S0_ (sm_aI (sm_aI S_ 14 (0 + ii_) e9_.toNat 0) 15 (0 + ii_) e9_.toNat (rr_ + 1)) := cdf_aI hCx20_ (Or.inr (by rw [show cof 15 = 0 from rfl] <;> omega))
          refine sm_T_go 4 (c1 := (68, [some (.inr (.inr (some (0, ii_)))), some (.inr (.inr (some (2, cc_)))), some (.inl a2_), some (.inl a3_), some (.inl (rr_ + 1)), some (.inl 0), some (.inl e9_)], [.inl e9_, .inr (.inr (some (16, (0 + ii_)))), .inl 0], sm_aI (sm_aI S_ 14 (0 + ii_) e9_.toNat 0) 15 (0 + ii_) e9_.toNat (rr_ + 1))) rfl ?_
          refine sm_T_iald (n := 156) rfl rfl (by omega) (by omega) ?_
          refine sm_T_go 0 (c1 := (69, [some (.inr (.inr (some (0, ii_)))), some (.inr (.inr (some (2, cc_)))), some (.inl a2_), some (.inl a3_), some (.inl (rr_ + 1)), some (.inl 0), some (.inl e9_)], [.inl (S_.2.2.1 16 (0 + ii_) e9_.toNat), .inl 0], sm_aI (sm_aI S_ 14 (0 + ii_) e9_.toNat 0) 15 (0 + ii_) e9_.toNat (rr_ + 1))) rfl ?_
          refine sm_T_bin (w := (S_.2.2.1 16 (0 + ii_) e9_.toNat)) rfl (bi_add (by omega) (by omega) (by omega)) ?_ -- pc_ 69
          refine sm_T_go 1 (c1 := (72, [some (.inr (.inr (some (0, ii_)))), some (.inr (.inr (some (2, cc_)))), some (.inl a2_), some (.inl a3_), some (.inl (rr_ + 1)), some (.inl (S_.2.2.1 16 (0 + ii_) e9_.toNat)), some (.inl e9_)], [], sm_aI (sm_aI S_ 14 (0 + ii_) e9_.toNat 0) 15 (0 + ii_) e9_.toNat (rr_ + 1))) rfl ?_
          refine sm_T_inc (a := 6) (z := 1) (v := e9_) (w := e9_ + 1) rfl rfl (by omega) (by omega) (by omega) ?_ -- pc_ 72
          refine sm_T_go 1 (c1 := (9, [some (.inr (.inr (some (0, ii_)))), some (.inr (.inr (some (2, cc_)))), some (.inl a2_), some (.inl a3_), some (.inl (rr_ + 1)), some (.inl (S_.2.2.1 16 (0 + ii_) e9_.toNat)), some (.inl (e9_ + 1))], [], sm_aI (sm_aI S_ 14 (0 + ii_) e9_.toNat 0) 15 (0 + ii_) e9_.toNat (rr_ + 1))) rfl ?_
          refine ih_ (rr_ + 1) (S_.2.2.1 16 (0 + ii_) e9_.toNat) (e9_ + 1) (sm_aI (sm_aI S_ 14 (0 + ii_) e9_.toNat 0) 15 (0 + ii_) e9_.toNat (rr_ + 1)) hIx21_ hFx22_ ⟨?_, ?_, ?_, ?_, ?_, ?_, trivial⟩ ?_
          · omega
          · (rw [show (e9_ + 1).toNat = e9_.toNat + 1 by omega, s9_]; try dsimp only; omega)
          · (rw [show (e9_ + 1).toNat = e9_.toNat + 1 by omega, s9_]; try dsimp only; omega)
          · (intro u_; exfalso; omega)
          · intro u_ j_ hj9_
            rw [rd_eq, rd_ne (by decide), rd_eq, rd_ne (by decide)]
            by_cases z_ : j_ = e9_.toNat
            · rw [if_pos z_, if_pos z_, z_]; omega
            · rw [if_neg z_, if_neg z_]; have w9_ := hj_ u_ j_ (by omega); omega
          · exact hCx23_
          · omega
set_option maxHeartbeats 400000 in
theorem vc_21 {sc_ : Nat × (Nat → Int)} (a2_ : Int) (a3_ : Int) (ii_ : Nat) (cc_ : Nat) (S0_ : sm_S) (hI_ : gi S0_) (hI0_ : gi S0_) (h1_ : 4 ≤ a2_ ∧ a2_ ≤ 60) (h3_ : 0 ≤ a3_ ∧ a3_ ≤ 1) (hk_ : a3_ ≠ 0 → (lo9 (S0_.2.2.1 16 (0 + ii_)) a2_ (S0_.1 2 cc_ 2 + S0_.1 2 cc_ 8).toNat).1 ≤ 11) : sm_T (mt_P sc_) 1 21 (0, [some (.inr (.inr (some (0, ii_)))), some (.inr (.inr (some (2, cc_)))), some (.inl a2_), some (.inl a3_), none, none, none], [], S0_) (fun ro9_ => ∃ u_ S1_, ro9_ = (.inl u_, S1_, 0) ∧ vq_21 a2_ a3_ ii_ cc_ S0_ u_ S1_) := by
  have hF_ : ai_fr (sx_W vw_21) S0_ S0_ := ai_fr_rf
  have hC_ : cdf ii_ S0_ S0_ := cdf_rf
  refine sm_T_go 6 (c1 := (9, [some (.inr (.inr (some (0, ii_)))), some (.inr (.inr (some (2, cc_)))), some (.inl a2_), some (.inl a3_), some (.inl 0), some (.inl 0), some (.inl 0)], [], S0_)) rfl ?_
  refine (vl_21 a2_ a3_ ii_ cc_ S0_ hI0_ h1_ h3_ hk_ _) 0 0 0 S0_ hI_ hF_ ⟨?_, ?_, ?_, ?_, ?_, ?_, trivial⟩ (Nat.lt_succ_self _)
  · (have c2_ : 0 ≤ S0_.1 2 cc_ 2 ∧ S0_.1 2 cc_ 2 ≤ 6 := hI0_.1 2 cc_ 2 rfl; have c8_ : 0 ≤ S0_.1 2 cc_ 8 ∧ S0_.1 2 cc_ 8 ≤ 150 := hI0_.1 2 cc_ 8 rfl; omega)
  · rfl
  · rfl
  · (intro _; rfl)
  · (intro _ j_ hj9_; exfalso; omega)
  · exact hC_
