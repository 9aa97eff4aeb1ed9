/-! Board.moveOne -/
def vw_25 : sx_Wl := ([(0, 11), (0, 16), (4, 0)], [14, 15, 21], [])
def vq_25 (a2_ : Int) (a3_ : Int) (a4_ : Int) (ii_ : Nat) (cc_ : Nat) (S0_ : sm_S) (u_ : Option sm_V) (S1_ : sm_S) : Prop := ∃ v_ : Int, u_ = some (.inl v_) ∧ gi S1_ ∧ ai_fr (sx_W vw_25) S0_ S1_ ∧ (cdf ii_ S0_ S1_ ∧ ((0 ≤ v_ ∧ v_ ≤ 1) ∧ bpl ii_ cc_ S1_ ∧ (S1_ = S0_ ∨ (S1_.1 0 ii_ 11 = 0 ∧ S1_.1 4 (0 + ii_) 0 = 0))))
set_option maxHeartbeats 400000 in
theorem vl_25 {sc_ : Nat × (Nat → Int)} (a2_ : Int) (a3_ : Int) (a4_ : Int) (ii_ : Nat) (cc_ : Nat) (S0_ : sm_S) (h2_ : 0 ≤ a2_ ∧ a2_ < (S0_.1 2 cc_ 2 + S0_.1 2 cc_ 8)) (hb_ : bpn ii_ S0_) (hs_ : S0_.1 2 cc_ 1 + S0_.1 2 cc_ 2 ≤ 12) (hp_ : bpl ii_ cc_ S0_) (hr_ : 0 < S0_.1 0 ii_ 1) : ∀ nn_ : Nat, (∀ (sz_ : Int) (k_ : Int) (S_ : sm_S), gi S_ → ai_fr (sx_W vw_25) S0_ S_ → ((0 ≤ k_ ∧ k_ ≤ 156 ∧ 0 ≤ sz_ ∧ sz_ ≤ 4 ∧ 0 ≤ a3_ ∧ a3_ ≤ S0_.1 0 ii_ 0 - sz_ ∧ 0 ≤ a4_ ∧ a4_ < S0_.1 0 ii_ 1) ∧ (sz_ = S0_.2.2.1 16 (0 + ii_) a2_.toNat) ∧ (S_ = S0_) ∧ (cdf ii_ S0_ S_) ∧ True) → ((1000 - k_).toNat) < nn_ → sm_T (mt_P sc_) 3 25 (42, [some (.inr (.inr (some (0, ii_)))), some (.inr (.inr (some (2, cc_)))), some (.inl a2_), some (.inl a3_), some (.inl a4_), some (.inl sz_), some (.inl k_), none], [], S_) (fun ro9_ => ∃ u_ S1_, ro9_ = (.inl u_, S1_, 0) ∧ vq_25 a2_ a3_ a4_ ii_ cc_ S0_ u_ S1_)) := by
  intro nn_
  induction nn_ with
  | zero => exact fun _ _ _ _ _ _ h_ => absurd h_ (Nat.not_lt_zero _)
  | succ nn_ ih_ =>
    rintro sz_ k_ S_ hI_ hF_ ⟨h0_, hz_, hS_, hC_, -⟩ hm_
    have c2_ : 0 ≤ S_.1 2 cc_ 2 ∧ S_.1 2 cc_ 2 ≤ 6 := hI_.1 2 cc_ 2 rfl
    have c8_ : 0 ≤ S_.1 2 cc_ 8 ∧ S_.1 2 cc_ 8 ≤ 150 := hI_.1 2 cc_ 8 rfl
    have c0_ : 0 ≤ S_.1 0 ii_ 0 ∧ S_.1 0 ii_ 0 ≤ 60 := hI_.1 0 ii_ 0 rfl
    have c1_ : 0 ≤ S_.1 0 ii_ 1 ∧ S_.1 0 ii_ 1 ≤ 12 := hI_.1 0 ii_ 1 rfl
    rw [hS_] at c2_ c8_ c0_ c1_
    refine sm_T_go 2 (c1 := (45, [some (.inr (.inr (some (0, ii_)))), some (.inr (.inr (some (2, cc_)))), some (.inl a2_), some (.inl a3_), some (.inl a4_), some (.inl sz_), some (.inl k_), none], [.inr (.inr (some (2, cc_))), .inl k_], S_)) rfl ?_
    refine sm_T_cal (d1 := 0) (Q1 := vq_56 cc_ S_) rfl rfl (by decide) (vc_56 cc_ S_ hI_ ) (fun u_ Sx1_ px4_ => ?_)
    obtain ⟨rfl, vx6_, rfl, px4_⟩ := px4_
    have n9_ := px4_
    rw [hS_] at n9_
    refine sm_T_br (a := 3) (z := 74) rfl (fun cx7_ => ?_) (fun cx7_ => ?_)
    · have cx7_ : vx6_ ≤ k_ := of_decide_eq_true cx7_
      refine sm_T_go 4 (c1 := (128, [some (.inr (.inr (some (0, ii_)))), some (.inr (.inr (some (2, cc_)))), some (.inl a2_), some (.inl a3_), some (.inl a4_), some (.inl sz_), some (.inl k_), none], [.inl a3_, .inl a2_, .inr (.inr (some (14, (0 + ii_))))], S_)) rfl ?_
      refine sm_T_iast (n := 156) rfl rfl (by omega) (by omega) ?_
      have hIx8_ : gi (sm_aI S_ 14 (0 + ii_) a2_.toNat a3_) := gi_aI hI_ (show 0 ≤ a3_ ∧ a3_ ≤ 60 from ⟨by omega, by omega⟩)
      have hFx9_ : ai_fr (sx_W vw_25) S0_ (sm_aI S_ 14 (0 + ii_) a2_.toNat a3_) := ai_fr_tr hF_ (ai_fr_aI rfl)
      have hCx10_ : cdf ii_ S0_ (sm_aI S_ 14 (0 + ii_) a2_.toNat a3_) := cdf_aI hC_ (Or.inr (by rw [show cof 14 = 0 from rfl] <;> omega))
      refine sm_T_go 4 (c1 := (136, [some (.inr (.inr (some (0, ii_)))), some (.inr (.inr (some (2, cc_)))), some (.inl a2_), some (.inl a3_), some (.inl a4_), some (.inl sz_), some (.inl k_), none], [.inl a4_, .inl a2_, .inr (.inr (some (15, (0 + ii_))))], sm_aI S_ 14 (0 + ii_) a2_.toNat a3_)) rfl ?_
      refine sm_T_iast (n := 156) rfl rfl (by omega) (by omega) ?_
      have hIx11_ : gi (sm_aI (sm_aI S_ 14 (0 + ii_) a2_.toNat a3_) 15 (0 + ii_) a2_.toNat a4_) := gi_aI hIx8_ (show 0 ≤ a4_ ∧ a4_ ≤ 12 from ⟨by omega, by omega⟩)
      have hFx12_ : ai_fr (sx_W vw_25) S0_ (sm_aI (sm_aI S_ 14 (0 + ii_) a2_.toNat a3_) 15 (0 + ii_) a2_.toNat a4_) := ai_fr_tr hFx9_ (ai_fr_aI rfl)
      have hCx13_ : cdf ii_ S0_ (sm_aI (sm_aI S_ 14 (0 + ii_) a2_.toNat a3_) 15 (0 + ii_) a2_.toNat a4_) := cdf_aI hCx10_ (Or.inr (by rw [show cof 15 = 0 from rfl] <;> omega))
      refine sm_T_go 2 (c1 := (139, [some (.inr (.inr (some (0, ii_)))), some (.inr (.inr (some (2, cc_)))), some (.inl a2_), some (.inl a3_), some (.inl a4_), some (.inl sz_), some (.inl k_), none], [.inr (.inr (some (2, cc_))), .inr (.inr (some (0, ii_)))], sm_aI (sm_aI S_ 14 (0 + ii_) a2_.toNat a3_) 15 (0 + ii_) a2_.toNat a4_)) rfl ?_
      refine sm_T_cal (d1 := 2) (Q1 := vq_22 ii_ cc_ (sm_aI (sm_aI S_ 14 (0 + ii_) a2_.toNat a3_) 15 (0 + ii_) a2_.toNat a4_)) rfl rfl (by decide) (vc_22 ii_ cc_ (sm_aI (sm_aI S_ 14 (0 + ii_) a2_.toNat a3_) 15 (0 + ii_) a2_.toNat a4_) hIx11_ (by exact bpn_fr hb_ hFx12_ rfl rfl rfl rfl) (by (simp only [rd_af]; rw [hS_]; exact hs_))) (fun u_ Sx14_ px17_ => ?_)
      obtain ⟨rfl, hIx15_, hFx16_, px17_⟩ := px17_
      have hFx18_ : ai_fr (sx_W vw_25) S0_ Sx14_ := ai_fr_tr hFx12_ (fr_le hFx16_ rfl)
      obtain ⟨dx20_, px17_⟩ := px17_
      have hCx19_ : cdf ii_ S0_ Sx14_ := cdf_tr hCx13_ (cdf_cg (by omega) dx20_)
      have m9_ := px17_
      have f0_ := hFx16_.1 0 ii_ 0 rfl
      have f1_ := hFx16_.1 0 ii_ 1 rfl
      have f2_ := hFx16_.1 0 ii_ 2 rfl
      have f3_ := hFx16_.1 2 cc_ 1 rfl
      have f4_ := hFx16_.1 2 cc_ 2 rfl
      have f5_ := hFx16_.1 2 cc_ 3 rfl
      have f6_ := hFx16_.1 2 cc_ 8 rfl
      simp only [rd_af] at f0_ f1_ f2_ f3_ f4_ f5_ f6_
      rw [hS_] at f0_ f1_ f2_ f3_ f4_ f5_ f6_
      have z14_ := hFx16_.2.2 14 rfl (0 + ii_)
      have z15_ := hFx16_.2.2 15 rfl (0 + ii_)
      have z16_ : Sx14_.2.2.1 16 (0 + ii_) = S0_.2.2.1 16 (0 + ii_) := by (rw [← hS_]; exact funext fun e_ => ((hFx16_.2.2 16 rfl (0 + ii_) e_).1.trans (by rw [rd_ne (by decide), rd_ne (by decide)])))
      refine sm_T_go 1 (c1 := (143, [some (.inr (.inr (some (0, ii_)))), some (.inr (.inr (some (2, cc_)))), some (.inl a2_), some (.inl a3_), some (.inl a4_), some (.inl sz_), some (.inl k_), none], [.inl 1], Sx14_)) rfl ?_
      refine sm_T_rz rfl (by omega) ⟨_, _, rfl, _, rfl, hIx15_, hFx18_, ?_⟩
      refine ⟨hCx19_, ?_⟩
      refine ⟨by omega, ?_, Or.inr m9_⟩
      intro _
      obtain ⟨q1_, q2_⟩ := hp_ hr_
      rw [f0_, f1_, f2_, f3_, f4_, f5_, f6_, z16_]
      refine ⟨q1_, fun e_ he_ => ?_⟩
      have k14_ := (z14_ e_).1
      have k15_ := (z15_ e_).1
      rw [rd_ne (by decide), rd_eq] at k14_
      rw [rd_eq, rd_ne (by decide)] at k15_
      rw [k14_, k15_]
      by_cases y_ : e_ = a2_.toNat
      · rw [if_pos y_, if_pos y_, y_]; omega
      · rw [if_neg y_, if_neg y_, hS_]; exact q2_ e_ he_
    · have cx7_ : ¬ (vx6_ ≤ k_) := of_decide_eq_false cx7_
      refine sm_T_go 2 (c1 := (54, [some (.inr (.inr (some (0, ii_)))), some (.inr (.inr (some (2, cc_)))), some (.inl a2_), some (.inl a3_), some (.inl a4_), some (.inl sz_), some (.inl k_), none], [.inl a2_, .inl k_], S_)) rfl ?_
      refine sm_T_br (a := 0) (z := 48) rfl (fun cx21_ => ?_) (fun cx21_ => ?_)
      · have cx21_ : k_ = a2_ := of_decide_eq_true cx21_
        refine sm_T_go 5 (c1 := (116, [some (.inr (.inr (some (0, ii_)))), some (.inr (.inr (some (2, cc_)))), some (.inl a2_), some (.inl a3_), some (.inl a4_), some (.inl sz_), some (.inl k_), some (.inl 1)], [], S_)) rfl ?_
        refine sm_T_inc (a := 6) (z := 1) (v := k_) (w := k_ + 1) rfl rfl (by omega) (by omega) (by omega) ?_ -- pc_ 116
        refine sm_T_go 1 (c1 := (42, [some (.inr (.inr (some (0, ii_)))), some (.inr (.inr (some (2, cc_)))), some (.inl a2_), some (.inl a3_), some (.inl a4_), some (.inl sz_), some (.inl (k_ + 1)), some (.inl 1)], [], S_)) rfl ?_
        refine sm_T_wk [some (.inr (.inr (some (0, ii_)))), some (.inr (.inr (some (2, cc_)))), some (.inl a2_), some (.inl a3_), some (.inl a4_), some (.inl sz_), some (.inl (k_ + 1)), none] (by exact ⟨rfl, rfl, rfl, rfl, rfl, rfl, rfl, trivial⟩) ?_
        refine ih_ sz_ (k_ + 1) S_ hI_ hF_ ⟨?_, ?_, ?_, ?_, trivial⟩ ?_
        · omega
        · exact hz_
        · exact hS_
        · exact hC_
        · omega
      · have cx21_ : ¬ (k_ = a2_) := of_decide_eq_false cx21_
        refine sm_T_go 3 (c1 := (63, [some (.inr (.inr (some (0, ii_)))), some (.inr (.inr (some (2, cc_)))), some (.inl a2_), some (.inl a3_), some (.inl a4_), some (.inl sz_), some (.inl k_), none], [.inl k_, .inr (.inr (some (15, (0 + ii_))))], S_)) rfl ?_
        refine sm_T_iald (n := 156) rfl rfl (by omega) (by omega) ?_
        have bx22_ : 0 ≤ S_.2.2.1 15 (0 + ii_) k_.toNat ∧ S_.2.2.1 15 (0 + ii_) k_.toNat ≤ 12 := hI_.2 15 (0 + ii_) _
        refine sm_T_go 1 (c1 := (66, [some (.inr (.inr (some (0, ii_)))), some (.inr (.inr (some (2, cc_)))), some (.inl a2_), some (.inl a3_), some (.inl a4_), some (.inl sz_), some (.inl k_), none], [.inl a4_, .inl (S_.2.2.1 15 (0 + ii_) k_.toNat)], S_)) rfl ?_
        refine sm_T_br (a := 1) (z := 36) rfl (fun cx23_ => ?_) (fun cx23_ => ?_)
        · have cx23_ : (S_.2.2.1 15 (0 + ii_) k_.toNat) ≠ a4_ := of_decide_eq_true cx23_
          refine sm_T_go 5 (c1 := (116, [some (.inr (.inr (some (0, ii_)))), some (.inr (.inr (some (2, cc_)))), some (.inl a2_), some (.inl a3_), some (.inl a4_), some (.inl sz_), some (.inl k_), some (.inl 1)], [], S_)) rfl ?_
          refine sm_T_inc (a := 6) (z := 1) (v := k_) (w := k_ + 1) rfl rfl (by omega) (by omega) (by omega) ?_ -- pc_ 116
          refine sm_T_go 1 (c1 := (42, [some (.inr (.inr (some (0, ii_)))), some (.inr (.inr (some (2, cc_)))), some (.inl a2_), some (.inl a3_), some (.inl a4_), some (.inl sz_), some (.inl (k_ + 1)), some (.inl 1)], [], S_)) rfl ?_
          refine sm_T_wk [some (.inr (.inr (some (0, ii_)))), some (.inr (.inr (some (2, cc_)))), some (.inl a2_), some (.inl a3_), some (.inl a4_), some (.inl sz_), some (.inl (k_ + 1)), none] (by exact ⟨rfl, rfl, rfl, rfl, rfl, rfl, rfl, trivial⟩) ?_
          refine ih_ sz_ (k_ + 1) S_ hI_ hF_ ⟨?_, ?_, ?_, ?_, trivial⟩ ?_
          · omega
          · exact hz_
          · exact hS_
          · exact hC_
          · omega
        · have cx23_ : ¬ ((S_.2.2.1 15 (0 + ii_) k_.toNat) ≠ a4_) := of_decide_eq_false cx23_
          refine sm_T_go 3 (c1 := (75, [some (.inr (.inr (some (0, ii_)))), some (.inr (.inr (some (2, cc_)))), some (.inl a2_), some (.inl a3_), some (.inl a4_), some (.inl sz_), some (.inl k_), none], [.inl k_, .inr (.inr (some (14, (0 + ii_))))], S_)) rfl ?_
          refine sm_T_iald (n := 156) rfl rfl (by omega) (by omega) ?_
          have bx24_ : 0 ≤ S_.2.2.1 14 (0 + ii_) k_.toNat ∧ S_.2.2.1 14 (0 + ii_) k_.toNat ≤ 60 := hI_.2 14 (0 + ii_) _
          refine sm_T_go 3 (c1 := (82, [some (.inr (.inr (some (0, ii_)))), some (.inr (.inr (some (2, cc_)))), some (.inl a2_), some (.inl a3_), some (.inl a4_), some (.inl sz_), some (.inl k_), none], [.inl k_, .inr (.inr (some (16, (0 + ii_)))), .inl (S_.2.2.1 14 (0 + ii_) k_.toNat)], S_)) rfl ?_
          refine sm_T_iald (n := 156) rfl rfl (by omega) (by omega) ?_
          have bx25_ : 0 ≤ S_.2.2.1 16 (0 + ii_) k_.toNat ∧ S_.2.2.1 16 (0 + ii_) k_.toNat ≤ 4 := hI_.2 16 (0 + ii_) _
          refine sm_T_bin (w := (S_.2.2.1 14 (0 + ii_) k_.toNat) + (S_.2.2.1 16 (0 + ii_) k_.toNat)) rfl (bi_add (by omega) (by omega) (by omega)) ?_ -- pc_ 83
          refine sm_T_go 1 (c1 := (85, [some (.inr (.inr (some (0, ii_)))), some (.inr (.inr (some (2, cc_)))), some (.inl a2_), some (.inl a3_), some (.inl a4_), some (.inl sz_), some (.inl k_), none], [.inl a3_, .inl ((S_.2.2.1 14 (0 + ii_) k_.toNat) + (S_.2.2.1 16 (0 + ii_) k_.toNat))], S_)) rfl ?_
          refine sm_T_br (a := 5) (z := 17) rfl (fun cx26_ => ?_) (fun cx26_ => ?_)
          · have cx26_ : (S_.2.2.1 14 (0 + ii_) k_.toNat) + (S_.2.2.1 16 (0 + ii_) k_.toNat) ≤ a3_ := of_decide_eq_true cx26_
            refine sm_T_go 5 (c1 := (116, [some (.inr (.inr (some (0, ii_)))), some (.inr (.inr (some (2, cc_)))), some (.inl a2_), some (.inl a3_), some (.inl a4_), some (.inl sz_), some (.inl k_), some (.inl 1)], [], S_)) rfl ?_
            refine sm_T_inc (a := 6) (z := 1) (v := k_) (w := k_ + 1) rfl rfl (by omega) (by omega) (by omega) ?_ -- pc_ 116
            refine sm_T_go 1 (c1 := (42, [some (.inr (.inr (some (0, ii_)))), some (.inr (.inr (some (2, cc_)))), some (.inl a2_), some (.inl a3_), some (.inl a4_), some (.inl sz_), some (.inl (k_ + 1)), some (.inl 1)], [], S_)) rfl ?_
            refine sm_T_wk [some (.inr (.inr (some (0, ii_)))), some (.inr (.inr (some (2, cc_)))), some (.inl a2_), some (.inl a3_), some (.inl a4_), some (.inl sz_), some (.inl (k_ + 1)), none] (by exact ⟨rfl, rfl, rfl, rfl, rfl, rfl, rfl, trivial⟩) ?_
            refine ih_ sz_ (k_ + 1) S_ hI_ hF_ ⟨?_, ?_, ?_, ?_, trivial⟩ ?_
            · omega
            · exact hz_
            · exact hS_
            · exact hC_
            · omega
          · have cx26_ : ¬ ((S_.2.2.1 14 (0 + ii_) k_.toNat) + (S_.2.2.1 16 (0 + ii_) k_.toNat) ≤ a3_) := of_decide_eq_false cx26_
            refine sm_T_go 2 (c1 := (91, [some (.inr (.inr (some (0, ii_)))), some (.inr (.inr (some (2, cc_)))), some (.inl a2_), some (.inl a3_), some (.inl a4_), some (.inl sz_), some (.inl k_), none], [.inl sz_, .inl a3_], S_)) rfl ?_
            refine sm_T_bin (w := a3_ + sz_) rfl (bi_add (by omega) (by omega) (by omega)) ?_ -- pc_ 91
            refine sm_T_go 3 (c1 := (98, [some (.inr (.inr (some (0, ii_)))), some (.inr (.inr (some (2, cc_)))), some (.inl a2_), some (.inl a3_), some (.inl a4_), some (.inl sz_), some (.inl k_), none], [.inl k_, .inr (.inr (some (14, (0 + ii_)))), .inl (a3_ + sz_)], S_)) rfl ?_
            refine sm_T_iald (n := 156) rfl rfl (by omega) (by omega) ?_
            refine sm_T_br (a := 4) (z := 7) rfl (fun cx27_ => ?_) (fun cx27_ => ?_)
            · have cx27_ : (S_.2.2.1 14 (0 + ii_) k_.toNat) < a3_ + sz_ := of_decide_eq_true cx27_
              refine sm_T_go 5 (c1 := (115, [some (.inr (.inr (some (0, ii_)))), some (.inr (.inr (some (2, cc_)))), some (.inl a2_), some (.inl a3_), some (.inl a4_), some (.inl sz_), some (.inl k_), some (.inl 0)], [.inl 0], S_)) rfl ?_
              refine sm_T_rz rfl (by omega) ⟨_, _, rfl, _, rfl, hI_, hF_, ?_⟩
              refine ⟨hC_, ?_⟩
              rw [hS_]
              exact ⟨by omega, hp_, Or.inl rfl⟩
            · have cx27_ : ¬ ((S_.2.2.1 14 (0 + ii_) k_.toNat) < a3_ + sz_) := of_decide_eq_false cx27_
              refine sm_T_go 5 (c1 := (116, [some (.inr (.inr (some (0, ii_)))), some (.inr (.inr (some (2, cc_)))), some (.inl a2_), some (.inl a3_), some (.inl a4_), some (.inl sz_), some (.inl k_), some (.inl 1)], [], S_)) rfl ?_
              refine sm_T_inc (a := 6) (z := 1) (v := k_) (w := k_ + 1) rfl rfl (by omega) (by omega) (by omega) ?_ -- pc_ 116
              refine sm_T_go 1 (c1 := (42, [some (.inr (.inr (some (0, ii_)))), some (.inr (.inr (some (2, cc_)))), some (.inl a2_), some (.inl a3_), some (.inl a4_), some (.inl sz_), some (.inl (k_ + 1)), some (.inl 1)], [], S_)) rfl ?_
              refine sm_T_wk [some (.inr (.inr (some (0, ii_)))), some (.inr (.inr (some (2, cc_)))), some (.inl a2_), some (.inl a3_), some (.inl a4_), some (.inl sz_), some (.inl (k_ + 1)), none] (by exact ⟨rfl, rfl, rfl, rfl, rfl, rfl, rfl, trivial⟩) ?_
              refine ih_ sz_ (k_ + 1) S_ hI_ hF_ ⟨?_, ?_, ?_, ?_, trivial⟩ ?_
              · omega
              · exact hz_
              · exact hS_
              · exact hC_
              · omega
set_option maxHeartbeats 400000 in
theorem vc_25 {sc_ : Nat × (Nat → Int)} (a2_ : Int) (a3_ : Int) (a4_ : Int) (ii_ : Nat) (cc_ : Nat) (S0_ : sm_S) (hI_ : gi S0_) (h2_ : 0 ≤ a2_ ∧ a2_ < (S0_.1 2 cc_ 2 + S0_.1 2 cc_ 8)) (hb_ : bpn ii_ S0_) (hs_ : S0_.1 2 cc_ 1 + S0_.1 2 cc_ 2 ≤ 12) (hp_ : bpl ii_ cc_ S0_) (hr_ : 0 < S0_.1 0 ii_ 1) : sm_T (mt_P sc_) 3 25 (0, [some (.inr (.inr (some (0, ii_)))), some (.inr (.inr (some (2, cc_)))), some (.inl a2_), some (.inl a3_), some (.inl a4_), none, none, none], [], S0_) (fun ro9_ => ∃ u_ S1_, ro9_ = (.inl u_, S1_, 0) ∧ vq_25 a2_ a3_ a4_ ii_ cc_ S0_ u_ S1_) := by
  have hF_ : ai_fr (sx_W vw_25) S0_ S0_ := ai_fr_rf
  have hC_ : cdf ii_ S0_ S0_ := cdf_rf
  have c2_ : 0 ≤ S0_.1 2 cc_ 2 ∧ S0_.1 2 cc_ 2 ≤ 6 := hI_.1 2 cc_ 2 rfl
  have c8_ : 0 ≤ S0_.1 2 cc_ 8 ∧ S0_.1 2 cc_ 8 ≤ 150 := hI_.1 2 cc_ 8 rfl
  refine sm_T_go 3 (c1 := (5, [some (.inr (.inr (some (0, ii_)))), some (.inr (.inr (some (2, cc_)))), some (.inl a2_), some (.inl a3_), some (.inl a4_), none, none, none], [.inl a2_, .inr (.inr (some (16, (0 + ii_))))], S0_)) rfl ?_
  refine sm_T_iald (n := 156) rfl rfl (by omega) (by omega) ?_
  have bx1_ : 0 ≤ S0_.2.2.1 16 (0 + ii_) a2_.toNat ∧ S0_.2.2.1 16 (0 + ii_) a2_.toNat ≤ 4 := hI_.2 16 (0 + ii_) _
  refine sm_T_go 2 (c1 := (10, [some (.inr (.inr (some (0, ii_)))), some (.inr (.inr (some (2, cc_)))), some (.inl a2_), some (.inl a3_), some (.inl a4_), some (.inl (S0_.2.2.1 16 (0 + ii_) a2_.toNat)), none, none], [.inl a4_], S0_)) rfl ?_
  refine sm_T_b0 (a := 2) (z := 27) rfl (fun cx2_ => ?_) (fun cx2_ => ?_)
  · have cx2_ : a4_ < 0 := of_decide_eq_true cx2_
    refine sm_T_go 1 (c1 := (38, [some (.inr (.inr (some (0, ii_)))), some (.inr (.inr (some (2, cc_)))), some (.inl a2_), some (.inl a3_), some (.inl a4_), some (.inl (S0_.2.2.1 16 (0 + ii_) a2_.toNat)), none, none], [.inl 0], S0_)) rfl ?_
    refine sm_T_rz rfl (by omega) ⟨_, _, rfl, _, rfl, hI_, hF_, ?_⟩
    refine ⟨hC_, ?_⟩
    exact ⟨by omega, hp_, Or.inl rfl⟩
  · have cx2_ : ¬ (a4_ < 0) := of_decide_eq_false cx2_
    have bx3_ : 0 ≤ S0_.1 0 ii_ 1 ∧ S0_.1 0 ii_ 1 ≤ 12 := hI_.1 0 ii_ 1 rfl
    refine sm_T_go 3 (c1 := (19, [some (.inr (.inr (some (0, ii_)))), some (.inr (.inr (some (2, cc_)))), some (.inl a2_), some (.inl a3_), some (.inl a4_), some (.inl (S0_.2.2.1 16 (0 + ii_) a2_.toNat)), none, none], [.inl (S0_.1 0 ii_ 1), .inl a4_], S0_)) rfl ?_
    refine sm_T_br (a := 3) (z := 18) rfl (fun cx4_ => ?_) (fun cx4_ => ?_)
    · have cx4_ : (S0_.1 0 ii_ 1) ≤ a4_ := of_decide_eq_true cx4_
      refine sm_T_go 1 (c1 := (38, [some (.inr (.inr (some (0, ii_)))), some (.inr (.inr (some (2, cc_)))), some (.inl a2_), some (.inl a3_), some (.inl a4_), some (.inl (S0_.2.2.1 16 (0 + ii_) a2_.toNat)), none, none], [.inl 0], S0_)) rfl ?_
      refine sm_T_rz rfl (by omega) ⟨_, _, rfl, _, rfl, hI_, hF_, ?_⟩
      refine ⟨hC_, ?_⟩
      exact ⟨by omega, hp_, Or.inl rfl⟩
    · have cx4_ : ¬ ((S0_.1 0 ii_ 1) ≤ a4_) := of_decide_eq_false cx4_
      refine sm_T_go 1 (c1 := (23, [some (.inr (.inr (some (0, ii_)))), some (.inr (.inr (some (2, cc_)))), some (.inl a2_), some (.inl a3_), some (.inl a4_), some (.inl (S0_.2.2.1 16 (0 + ii_) a2_.toNat)), none, none], [.inl a3_], S0_)) rfl ?_
      refine sm_T_b0 (a := 2) (z := 14) rfl (fun cx5_ => ?_) (fun cx5_ => ?_)
      · have cx5_ : a3_ < 0 := of_decide_eq_true cx5_
        refine sm_T_go 1 (c1 := (38, [some (.inr (.inr (some (0, ii_)))), some (.inr (.inr (some (2, cc_)))), some (.inl a2_), some (.inl a3_), some (.inl a4_), some (.inl (S0_.2.2.1 16 (0 + ii_) a2_.toNat)), none, none], [.inl 0], S0_)) rfl ?_
        refine sm_T_rz rfl (by omega) ⟨_, _, rfl, _, rfl, hI_, hF_, ?_⟩
        refine ⟨hC_, ?_⟩
        exact ⟨by omega, hp_, Or.inl rfl⟩
      · have cx5_ : ¬ (a3_ < 0) := of_decide_eq_false cx5_
        have bx6_ : 0 ≤ S0_.1 0 ii_ 0 ∧ S0_.1 0 ii_ 0 ≤ 60 := hI_.1 0 ii_ 0 rfl
        refine sm_T_go 4 (c1 := (33, [some (.inr (.inr (some (0, ii_)))), some (.inr (.inr (some (2, cc_)))), some (.inl a2_), some (.inl a3_), some (.inl a4_), some (.inl (S0_.2.2.1 16 (0 + ii_) a2_.toNat)), none, none], [.inl (S0_.2.2.1 16 (0 + ii_) a2_.toNat), .inl (S0_.1 0 ii_ 0), .inl a3_], S0_)) rfl ?_
        refine sm_T_bin (w := (S0_.1 0 ii_ 0) - (S0_.2.2.1 16 (0 + ii_) a2_.toNat)) rfl (bi_sub (by omega) (by omega) (by omega)) ?_ -- pc_ 33
        refine sm_T_br (a := 5) (z := 5) rfl (fun cx7_ => ?_) (fun cx7_ => ?_)
        · have cx7_ : a3_ ≤ (S0_.1 0 ii_ 0) - (S0_.2.2.1 16 (0 + ii_) a2_.toNat) := of_decide_eq_true cx7_
          refine sm_T_go 2 (c1 := (42, [some (.inr (.inr (some (0, ii_)))), some (.inr (.inr (some (2, cc_)))), some (.inl a2_), some (.inl a3_), some (.inl a4_), some (.inl (S0_.2.2.1 16 (0 + ii_) a2_.toNat)), some (.inl 0), none], [], S0_)) rfl ?_
          refine (vl_25 a2_ a3_ a4_ ii_ cc_ S0_ h2_ hb_ hs_ hp_ hr_ _) (S0_.2.2.1 16 (0 + ii_) a2_.toNat) 0 S0_ hI_ hF_ ⟨?_, ?_, ?_, ?_, trivial⟩ (Nat.lt_succ_self _)
          · omega
          · rfl
          · rfl
          · exact hC_
        · have cx7_ : ¬ (a3_ ≤ (S0_.1 0 ii_ 0) - (S0_.2.2.1 16 (0 + ii_) a2_.toNat)) := of_decide_eq_false cx7_
          refine sm_T_go 1 (c1 := (38, [some (.inr (.inr (some (0, ii_)))), some (.inr (.inr (some (2, cc_)))), some (.inl a2_), some (.inl a3_), some (.inl a4_), some (.inl (S0_.2.2.1 16 (0 + ii_) a2_.toNat)), none, none], [.inl 0], S0_)) rfl ?_
          refine sm_T_rz rfl (by omega) ⟨_, _, rfl, _, rfl, hI_, hF_, ?_⟩
          refine ⟨hC_, ?_⟩
          exact ⟨by omega, hp_, Or.inl rfl⟩
