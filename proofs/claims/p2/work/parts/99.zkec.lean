/-! Router.nearestPin -/
def vw_158 : sx_Wl := ([], [], [])
def vq_158 (a1_ : Int) (a2_ : Int) (bb_ : Nat) (S0_ : sm_S) (u_ : Option sm_V) (S1_ : sm_S) : Prop := S0_ = S1_ ∧ ∃ v_ : Int, u_ = some (.inl v_) ∧ ((v_ = -1 ∧ ∀ j_ : Nat, (j_ : Int) < S0_.2.2.1 20 (0 + bb_) a1_.toNat → (S0_.2.2.1 22 (0 + bb_) (ppk bb_ S0_ a1_.toNat j_).toNat = a1_ ∨ (a2_ ≠ -1 ∧ S0_.2.2.1 86 0 (ppk bb_ S0_ a1_.toNat j_).toNat ≠ a2_))) ∨ ((0 ≤ v_ ∧ v_ < S0_.1 8 0 2) ∧ S0_.2.2.1 22 (0 + bb_) (v_).toNat ≠ a1_ ∧ (a2_ = -1 ∨ S0_.2.2.1 86 0 (v_).toNat = a2_)))
set_option maxHeartbeats 2000000 in
theorem vl_158 {sc_ : Nat × (Nat → Int)} (a1_ : Int) (a2_ : Int) (bb_ : Nat) (S0_ : sm_S) (hb_ : S0_.2.1 8 0 0 = some bb_) (h1_ : 0 ≤ a1_ ∧ a1_ ≤ 161) (hn_ : bpn bb_ S0_) (hp_ : rpt bb_ S0_) : ∀ nn_ : Nat, (∀ (ls_ : Int) (k_ : Int) (S_ : sm_S), gi S_ → ai_fr (sx_W vw_158) S0_ S_ → ((0 ≤ k_ ∧ k_ ≤ 652 ∧ -1 ≤ ls_ ∧ ls_ ≤ 4711) ∧ (ls_ = -1 ∨ ((0 ≤ ls_ ∧ ls_ < S0_.1 8 0 2) ∧ S0_.2.2.1 22 (0 + bb_) (ls_).toNat ≠ a1_ ∧ (a2_ = -1 ∨ S0_.2.2.1 86 0 (ls_).toNat = a2_))) ∧ (ls_ = -1 → ∀ j_ : Nat, (j_ : Int) < k_ → (S0_.2.2.1 22 (0 + bb_) (ppk bb_ S0_ a1_.toNat j_).toNat = a1_ ∨ (a2_ ≠ -1 ∧ S0_.2.2.1 86 0 (ppk bb_ S0_ a1_.toNat j_).toNat ≠ a2_))) ∧ (S_ = S0_) ∧ True) → ((1000 - k_).toNat) < nn_ → sm_T (mt_P sc_) 2 158 (5, [some (.inr (.inr (some (8, 0)))), some (.inl a1_), some (.inl a2_), some (.inl ls_), some (.inl k_), none, none], [], S_) (fun ro9_ => ∃ u_ S1_, ro9_ = (.inl u_, S1_, 0) ∧ vq_158 a1_ a2_ bb_ S0_ u_ S1_)) := by
  intro nn_
  induction nn_ with
  | zero => exact fun _ _ _ _ _ _ h_ => absurd h_ (Nat.not_lt_zero _)
  | succ nn_ ih_ =>
    rintro ls_ k_ S_ hI_ hF_ ⟨h0_, hv_, hw_, hS_, -⟩ hm_
    refine sm_T_go 2 (c1 := (8, [some (.inr (.inr (some (8, 0)))), some (.inl a1_), some (.inl a2_), some (.inl ls_), some (.inl k_), none, none], [.inr (.inr (some (8, 0))), .inl k_], S_)) rfl ?_
    refine sm_T_gr rfl rfl ((hF_.2.1 8 0 0 rfl).trans hb_) ?_
    refine sm_T_go 2 (c1 := (15, [some (.inr (.inr (some (8, 0)))), some (.inl a1_), some (.inl a2_), some (.inl ls_), some (.inl k_), none, none], [.inl a1_, .inr (.inr (some (20, (0 + bb_)))), .inl k_], S_)) rfl ?_
    refine sm_T_iald (n := 162) rfl rfl (by omega) (by omega) ?_
    have bx1_ : 0 ≤ S_.2.2.1 20 (0 + bb_) a1_.toNat ∧ S_.2.2.1 20 (0 + bb_) a1_.toNat ≤ 652 := hI_.2 20 (0 + bb_) _
    refine sm_T_br (a := 3) (z := 84) rfl (fun cx2_ => ?_) (fun cx2_ => ?_)
    · have cx2_ : (S_.2.2.1 20 (0 + bb_) a1_.toNat) ≤ k_ := of_decide_eq_true cx2_
      refine sm_T_go 1 (c1 := (101, [some (.inr (.inr (some (8, 0)))), some (.inl a1_), some (.inl a2_), some (.inl ls_), some (.inl k_), none, none], [.inl ls_], S_)) rfl ?_
      refine sm_T_ri rfl ⟨_, _, rfl, (by first | rfl | exact hS_.symm), _, rfl, ?_⟩
      rcases hv_ with u9_ | u9_
      · left
        refine ⟨u9_, fun j_ hj_ => hw_ u9_ j_ ?_⟩
        rw [hS_] at *
        omega
      · right; exact u9_
    · have cx2_ : ¬ ((S_.2.2.1 20 (0 + bb_) a1_.toNat) ≤ k_) := of_decide_eq_false cx2_
      refine sm_T_go 1 (c1 := (20, [some (.inr (.inr (some (8, 0)))), some (.inl a1_), some (.inl a2_), some (.inl ls_), some (.inl k_), none, none], [.inr (.inr (some (8, 0)))], S_)) rfl ?_
      refine sm_T_gr rfl rfl ((hF_.2.1 8 0 0 rfl).trans hb_) ?_
      refine sm_T_go 1 (c1 := (24, [some (.inr (.inr (some (8, 0)))), some (.inl a1_), some (.inl a2_), some (.inl ls_), some (.inl k_), none, none], [.inr (.inr (some (8, 0))), .inr (.inr (some (0, bb_)))], S_)) rfl ?_
      refine sm_T_gr rfl rfl ((hF_.2.1 8 0 0 rfl).trans hb_) ?_
      refine sm_T_go 2 (c1 := (30, [some (.inr (.inr (some (8, 0)))), some (.inl a1_), some (.inl a2_), some (.inl ls_), some (.inl k_), none, none], [.inl k_, .inl a1_, .inr (.inr (some (0, bb_))), .inr (.inr (some (0, bb_)))], S_)) rfl ?_
      refine sm_T_cal (d1 := 0) (Q1 := vq_14 a1_ k_ bb_ S_) rfl rfl (by decide) (vc_14 a1_ k_ bb_ S_ hI_ (by omega) (by omega) (by (rw [hS_]; exact hn_))) (fun u_ Sx3_ px6_ => ?_)
      obtain ⟨rfl, vx8_, rfl, px6_⟩ := px6_
      have p9_ := px6_
      rw [hS_] at p9_
      refine sm_T_cal (d1 := 1) (Q1 := vq_19 vx8_ bb_ S_) rfl rfl (by decide) (vc_19 vx8_ bb_ S_ hI_ (by omega)) (fun u_ Sx9_ px12_ => ?_)
      obtain ⟨rfl, vx14_, rfl, px12_⟩ := px12_
      have q9_ := px12_
      have q8_ := q9_.2
      rw [hS_, p9_.2.1] at q8_
      have q7_ : vx14_ = ppk bb_ S0_ a1_.toNat k_.toNat := q8_
      have g9_ := hp_ a1_.toNat (by omega) k_.toNat (by rw [← hS_]; omega)
      rw [← q7_] at g9_
      refine sm_T_go 2 (c1 := (39, [some (.inr (.inr (some (8, 0)))), some (.inl a1_), some (.inl a2_), some (.inl ls_), some (.inl k_), some (.inl vx14_), none], [.inr (.inr (some (8, 0)))], S_)) rfl ?_
      refine sm_T_gr rfl rfl ((hF_.2.1 8 0 0 rfl).trans hb_) ?_
      refine sm_T_go 2 (c1 := (47, [some (.inr (.inr (some (8, 0)))), some (.inl a1_), some (.inl a2_), some (.inl ls_), some (.inl k_), some (.inl vx14_), none], [.inl vx14_, .inr (.inr (some (22, (0 + bb_))))], S_)) rfl ?_
      refine sm_T_iald (n := 4712) rfl rfl (by omega) (by omega) ?_
      have bx15_ : (-1) ≤ S_.2.2.1 22 (0 + bb_) vx14_.toNat ∧ S_.2.2.1 22 (0 + bb_) vx14_.toNat ≤ 161 := hI_.2 22 (0 + bb_) _
      refine sm_T_go 1 (c1 := (49, [some (.inr (.inr (some (8, 0)))), some (.inl a1_), some (.inl a2_), some (.inl ls_), some (.inl k_), some (.inl vx14_), none], [.inl a1_, .inl (S_.2.2.1 22 (0 + bb_) vx14_.toNat)], S_)) rfl ?_
      refine sm_T_br (a := 0) (z := 23) rfl (fun cx16_ => ?_) (fun cx16_ => ?_)
      · have cx16_ : (S_.2.2.1 22 (0 + bb_) vx14_.toNat) = a1_ := of_decide_eq_true cx16_
        refine sm_T_go 4 (c1 := (94, [some (.inr (.inr (some (8, 0)))), some (.inl a1_), some (.inl a2_), some (.inl ls_), some (.inl k_), some (.inl vx14_), some (.inl 0)], [], S_)) rfl ?_
        refine sm_T_inc (a := 4) (z := 1) (v := k_) (w := k_ + 1) rfl rfl (by omega) (by omega) (by omega) ?_ -- pc_ 94
        refine sm_T_go 1 (c1 := (5, [some (.inr (.inr (some (8, 0)))), some (.inl a1_), some (.inl a2_), some (.inl ls_), some (.inl (k_ + 1)), some (.inl vx14_), some (.inl 0)], [], S_)) rfl ?_
        refine sm_T_wk [some (.inr (.inr (some (8, 0)))), some (.inl a1_), some (.inl a2_), some (.inl ls_), some (.inl (k_ + 1)), none, none] (by exact ⟨rfl, rfl, rfl, rfl, rfl, trivial⟩) ?_
        refine ih_ ls_ (k_ + 1) S_ hI_ hF_ ⟨?_, ?_, ?_, ?_, trivial⟩ ?_
        · omega
        · rw [hS_] at *
          first | exact hv_ | (right; exact ⟨by omega, by omega, by omega⟩) | (rcases hv_ with u9_ | u9_; (exfalso; omega); (right; exact u9_))
        · rw [hS_] at *
          intro u9_ j_ hj_
          by_cases y9_ : (j_ : Int) = k_
          · rw [show j_ = k_.toNat by omega, ← q7_]; omega
          · first | exact hw_ u9_ j_ (by omega) | (exfalso; omega)
        · first | rfl | exact hS_
        · omega
      · have cx16_ : ¬ ((S_.2.2.1 22 (0 + bb_) vx14_.toNat) = a1_) := of_decide_eq_false cx16_
        refine sm_T_go 2 (c1 := (54, [some (.inr (.inr (some (8, 0)))), some (.inl a1_), some (.inl a2_), some (.inl ls_), some (.inl k_), some (.inl vx14_), none], [.inl (-1), .inl a2_], S_)) rfl ?_
        refine sm_T_br (a := 0) (z := 14) rfl (fun cx17_ => ?_) (fun cx17_ => ?_)
        · have cx17_ : a2_ = (-1) := of_decide_eq_true cx17_
          refine sm_T_go 7 (c1 := (82, [some (.inr (.inr (some (8, 0)))), some (.inl a1_), some (.inl a2_), some (.inl ls_), some (.inl k_), some (.inl vx14_), some (.inl 1)], [.inl (-1), .inl ls_], S_)) rfl ?_
          refine sm_T_br (a := 0) (z := 9) rfl (fun cx18_ => ?_) (fun cx18_ => ?_)
          · have cx18_ : ls_ = (-1) := of_decide_eq_true cx18_
            refine sm_T_go 2 (c1 := (94, [some (.inr (.inr (some (8, 0)))), some (.inl a1_), some (.inl a2_), some (.inl vx14_), some (.inl k_), some (.inl vx14_), some (.inl 1)], [], S_)) rfl ?_
            refine sm_T_inc (a := 4) (z := 1) (v := k_) (w := k_ + 1) rfl rfl (by omega) (by omega) (by omega) ?_ -- pc_ 94
            refine sm_T_go 1 (c1 := (5, [some (.inr (.inr (some (8, 0)))), some (.inl a1_), some (.inl a2_), some (.inl vx14_), some (.inl (k_ + 1)), some (.inl vx14_), some (.inl 1)], [], S_)) rfl ?_
            refine sm_T_wk [some (.inr (.inr (some (8, 0)))), some (.inl a1_), some (.inl a2_), some (.inl vx14_), some (.inl (k_ + 1)), none, none] (by exact ⟨rfl, rfl, rfl, rfl, rfl, trivial⟩) ?_
            refine ih_ vx14_ (k_ + 1) S_ hI_ hF_ ⟨?_, ?_, ?_, ?_, trivial⟩ ?_
            · omega
            · rw [hS_] at *
              first | exact hv_ | (right; exact ⟨by omega, by omega, by omega⟩) | (rcases hv_ with u9_ | u9_; (exfalso; omega); (right; exact u9_))
            · rw [hS_] at *
              intro u9_ j_ hj_
              by_cases y9_ : (j_ : Int) = k_
              · rw [show j_ = k_.toNat by omega, ← q7_]; omega
              · first | exact hw_ u9_ j_ (by omega) | (exfalso; omega)
            · first | rfl | exact hS_
            · omega
          · have cx18_ : ¬ (ls_ = (-1)) := of_decide_eq_false cx18_
            refine sm_T_go 2 (c1 := (88, [some (.inr (.inr (some (8, 0)))), some (.inl a1_), some (.inl a2_), some (.inl ls_), some (.inl k_), some (.inl vx14_), some (.inl 1)], [.inl ls_, .inl vx14_], S_)) rfl ?_
            refine sm_T_br (a := 3) (z := 6) rfl (fun cx19_ => ?_) (fun cx19_ => ?_)
            · have cx19_ : ls_ ≤ vx14_ := of_decide_eq_true cx19_
              refine sm_T_inc (a := 4) (z := 1) (v := k_) (w := k_ + 1) rfl rfl (by omega) (by omega) (by omega) ?_ -- pc_ 94
              refine sm_T_go 1 (c1 := (5, [some (.inr (.inr (some (8, 0)))), some (.inl a1_), some (.inl a2_), some (.inl ls_), some (.inl (k_ + 1)), some (.inl vx14_), some (.inl 1)], [], S_)) rfl ?_
              refine sm_T_wk [some (.inr (.inr (some (8, 0)))), some (.inl a1_), some (.inl a2_), some (.inl ls_), some (.inl (k_ + 1)), none, none] (by exact ⟨rfl, rfl, rfl, rfl, rfl, trivial⟩) ?_
              refine ih_ ls_ (k_ + 1) S_ hI_ hF_ ⟨?_, ?_, ?_, ?_, trivial⟩ ?_
              · omega
              · rw [hS_] at *
                first | exact hv_ | (right; exact ⟨by omega, by omega, by omega⟩) | (rcases hv_ with u9_ | u9_; (exfalso; omega); (right; exact u9_))
              · rw [hS_] at *
                intro u9_ j_ hj_
                by_cases y9_ : (j_ : Int) = k_
                · rw [show j_ = k_.toNat by omega, ← q7_]; omega
                · first | exact hw_ u9_ j_ (by omega) | (exfalso; omega)
              · first | rfl | exact hS_
              · omega
            · have cx19_ : ¬ (ls_ ≤ vx14_) := of_decide_eq_false cx19_
              refine sm_T_go 2 (c1 := (94, [some (.inr (.inr (some (8, 0)))), some (.inl a1_), some (.inl a2_), some (.inl vx14_), some (.inl k_), some (.inl vx14_), some (.inl 1)], [], S_)) rfl ?_
              refine sm_T_inc (a := 4) (z := 1) (v := k_) (w := k_ + 1) rfl rfl (by omega) (by omega) (by omega) ?_ -- pc_ 94
              refine sm_T_go 1 (c1 := (5, [some (.inr (.inr (some (8, 0)))), some (.inl a1_), some (.inl a2_), some (.inl vx14_), some (.inl (k_ + 1)), some (.inl vx14_), some (.inl 1)], [], S_)) rfl ?_
              refine sm_T_wk [some (.inr (.inr (some (8, 0)))), some (.inl a1_), some (.inl a2_), some (.inl vx14_), some (.inl (k_ + 1)), none, none] (by exact ⟨rfl, rfl, rfl, rfl, rfl, trivial⟩) ?_
              refine ih_ vx14_ (k_ + 1) S_ hI_ hF_ ⟨?_, ?_, ?_, ?_, trivial⟩ ?_
              · omega
              · rw [hS_] at *
                first | exact hv_ | (right; exact ⟨by omega, by omega, by omega⟩) | (rcases hv_ with u9_ | u9_; (exfalso; omega); (right; exact u9_))
              · rw [hS_] at *
                intro u9_ j_ hj_
                by_cases y9_ : (j_ : Int) = k_
                · rw [show j_ = k_.toNat by omega, ← q7_]; omega
                · first | exact hw_ u9_ j_ (by omega) | (exfalso; omega)
              · first | rfl | exact hS_
              · omega
        · have cx17_ : ¬ (a2_ = (-1)) := of_decide_eq_false cx17_
          refine sm_T_go 3 (c1 := (63, [some (.inr (.inr (some (8, 0)))), some (.inl a1_), some (.inl a2_), some (.inl ls_), some (.inl k_), some (.inl vx14_), none], [.inl vx14_, .inr (.inr (some (86, 0)))], S_)) rfl ?_
          refine sm_T_iald (n := 4712) rfl rfl (by omega) (by omega) ?_
          have bx20_ : (-1) ≤ S_.2.2.1 86 0 vx14_.toNat ∧ S_.2.2.1 86 0 vx14_.toNat ≤ 100000 := hI_.2 86 0 _
          refine sm_T_go 1 (c1 := (65, [some (.inr (.inr (some (8, 0)))), some (.inl a1_), some (.inl a2_), some (.inl ls_), some (.inl k_), some (.inl vx14_), none], [.inl a2_, .inl (S_.2.2.1 86 0 vx14_.toNat)], S_)) rfl ?_
          refine sm_T_br (a := 1) (z := 7) rfl (fun cx21_ => ?_) (fun cx21_ => ?_)
          · have cx21_ : (S_.2.2.1 86 0 vx14_.toNat) ≠ a2_ := of_decide_eq_true cx21_
            refine sm_T_go 4 (c1 := (94, [some (.inr (.inr (some (8, 0)))), some (.inl a1_), some (.inl a2_), some (.inl ls_), some (.inl k_), some (.inl vx14_), some (.inl 0)], [], S_)) rfl ?_
            refine sm_T_inc (a := 4) (z := 1) (v := k_) (w := k_ + 1) rfl rfl (by omega) (by omega) (by omega) ?_ -- pc_ 94
            refine sm_T_go 1 (c1 := (5, [some (.inr (.inr (some (8, 0)))), some (.inl a1_), some (.inl a2_), some (.inl ls_), some (.inl (k_ + 1)), some (.inl vx14_), some (.inl 0)], [], S_)) rfl ?_
            refine sm_T_wk [some (.inr (.inr (some (8, 0)))), some (.inl a1_), some (.inl a2_), some (.inl ls_), some (.inl (k_ + 1)), none, none] (by exact ⟨rfl, rfl, rfl, rfl, rfl, trivial⟩) ?_
            refine ih_ ls_ (k_ + 1) S_ hI_ hF_ ⟨?_, ?_, ?_, ?_, trivial⟩ ?_
            · omega
            · rw [hS_] at *
              first | exact hv_ | (right; exact ⟨by omega, by omega, by omega⟩) | (rcases hv_ with u9_ | u9_; (exfalso; omega); (right; exact u9_))
            · rw [hS_] at *
              intro u9_ j_ hj_
              by_cases y9_ : (j_ : Int) = k_
              · rw [show j_ = k_.toNat by omega, ← q7_]; omega
              · first | exact hw_ u9_ j_ (by omega) | (exfalso; omega)
            · first | rfl | exact hS_
            · omega
          · have cx21_ : ¬ ((S_.2.2.1 86 0 vx14_.toNat) ≠ a2_) := of_decide_eq_false cx21_
            refine sm_T_go 7 (c1 := (82, [some (.inr (.inr (some (8, 0)))), some (.inl a1_), some (.inl a2_), some (.inl ls_), some (.inl k_), some (.inl vx14_), some (.inl 1)], [.inl (-1), .inl ls_], S_)) rfl ?_
            refine sm_T_br (a := 0) (z := 9) rfl (fun cx22_ => ?_) (fun cx22_ => ?_)
            · have cx22_ : ls_ = (-1) := of_decide_eq_true cx22_
              refine sm_T_go 2 (c1 := (94, [some (.inr (.inr (some (8, 0)))), some (.inl a1_), some (.inl a2_), some (.inl vx14_), some (.inl k_), some (.inl vx14_), some (.inl 1)], [], S_)) rfl ?_
              refine sm_T_inc (a := 4) (z := 1) (v := k_) (w := k_ + 1) rfl rfl (by omega) (by omega) (by omega) ?_ -- pc_ 94
              refine sm_T_go 1 (c1 := (5, [some (.inr (.inr (some (8, 0)))), some (.inl a1_), some (.inl a2_), some (.inl vx14_), some (.inl (k_ + 1)), some (.inl vx14_), some (.inl 1)], [], S_)) rfl ?_
              refine sm_T_wk [some (.inr (.inr (some (8, 0)))), some (.inl a1_), some (.inl a2_), some (.inl vx14_), some (.inl (k_ + 1)), none, none] (by exact ⟨rfl, rfl, rfl, rfl, rfl, trivial⟩) ?_
              refine ih_ vx14_ (k_ + 1) S_ hI_ hF_ ⟨?_, ?_, ?_, ?_, trivial⟩ ?_
              · omega
              · rw [hS_] at *
                first | exact hv_ | (right; exact ⟨by omega, by omega, by omega⟩) | (rcases hv_ with u9_ | u9_; (exfalso; omega); (right; exact u9_))
              · rw [hS_] at *
                intro u9_ j_ hj_
                by_cases y9_ : (j_ : Int) = k_
                · rw [show j_ = k_.toNat by omega, ← q7_]; omega
                · first | exact hw_ u9_ j_ (by omega) | (exfalso; omega)
              · first | rfl | exact hS_
              · omega
            · have cx22_ : ¬ (ls_ = (-1)) := of_decide_eq_false cx22_
              refine sm_T_go 2 (c1 := (88, [some (.inr (.inr (some (8, 0)))), some (.inl a1_), some (.inl a2_), some (.inl ls_), some (.inl k_), some (.inl vx14_), some (.inl 1)], [.inl ls_, .inl vx14_], S_)) rfl ?_
              refine sm_T_br (a := 3) (z := 6) rfl (fun cx23_ => ?_) (fun cx23_ => ?_)
              · have cx23_ : ls_ ≤ vx14_ := of_decide_eq_true cx23_
                refine sm_T_inc (a := 4) (z := 1) (v := k_) (w := k_ + 1) rfl rfl (by omega) (by omega) (by omega) ?_ -- pc_ 94
                refine sm_T_go 1 (c1 := (5, [some (.inr (.inr (some (8, 0)))), some (.inl a1_), some (.inl a2_), some (.inl ls_), some (.inl (k_ + 1)), some (.inl vx14_), some (.inl 1)], [], S_)) rfl ?_
                refine sm_T_wk [some (.inr (.inr (some (8, 0)))), some (.inl a1_), some (.inl a2_), some (.inl ls_), some (.inl (k_ + 1)), none, none] (by exact ⟨rfl, rfl, rfl, rfl, rfl, trivial⟩) ?_
                refine ih_ ls_ (k_ + 1) S_ hI_ hF_ ⟨?_, ?_, ?_, ?_, trivial⟩ ?_
                · omega
                · rw [hS_] at *
                  first | exact hv_ | (right; exact ⟨by omega, by omega, by omega⟩) | (rcases hv_ with u9_ | u9_; (exfalso; omega); (right; exact u9_))
                · rw [hS_] at *
                  intro u9_ j_ hj_
                  by_cases y9_ : (j_ : Int) = k_
                  · rw [show j_ = k_.toNat by omega, ← q7_]; omega
                  · first | exact hw_ u9_ j_ (by omega) | (exfalso; omega)
                · first | rfl | exact hS_
                · omega
              · have cx23_ : ¬ (ls_ ≤ vx14_) := of_decide_eq_false cx23_
                refine sm_T_go 2 (c1 := (94, [some (.inr (.inr (some (8, 0)))), some (.inl a1_), some (.inl a2_), some (.inl vx14_), some (.inl k_), some (.inl vx14_), some (.inl 1)], [], S_)) rfl ?_
                refine sm_T_inc (a := 4) (z := 1) (v := k_) (w := k_ + 1) rfl rfl (by omega) (by omega) (by omega) ?_ -- pc_ 94
                refine sm_T_go 1 (c1 := (5, [some (.inr (.inr (some (8, 0)))), some (.inl a1_), some (.inl a2_), some (.inl vx14_), some (.inl (k_ + 1)), some (.inl vx14_), some (.inl 1)], [], S_)) rfl ?_
                refine sm_T_wk [some (.inr (.inr (some (8, 0)))), some (.inl a1_), some (.inl a2_), some (.inl vx14_), some (.inl (k_ + 1)), none, none] (by exact ⟨rfl, rfl, rfl, rfl, rfl, trivial⟩) ?_
                refine ih_ vx14_ (k_ + 1) S_ hI_ hF_ ⟨?_, ?_, ?_, ?_, trivial⟩ ?_
                · omega
                · rw [hS_] at *
                  first | exact hv_ | (right; exact ⟨by omega, by omega, by omega⟩) | (rcases hv_ with u9_ | u9_; (exfalso; omega); (right; exact u9_))
                · rw [hS_] at *
                  intro u9_ j_ hj_
                  by_cases y9_ : (j_ : Int) = k_
                  · rw [show j_ = k_.toNat by omega, ← q7_]; omega
                  · first | exact hw_ u9_ j_ (by omega) | (exfalso; omega)
                · first | rfl | exact hS_
                · omega
set_option maxHeartbeats 2000000 in
theorem vc_158 {sc_ : Nat × (Nat → Int)} (a1_ : Int) (a2_ : Int) (bb_ : Nat) (S0_ : sm_S) (hI_ : gi S0_) (hb_ : S0_.2.1 8 0 0 = some bb_) (h1_ : 0 ≤ a1_ ∧ a1_ ≤ 161) (hn_ : bpn bb_ S0_) (hp_ : rpt bb_ S0_) : sm_T (mt_P sc_) 2 158 (0, [some (.inr (.inr (some (8, 0)))), some (.inl a1_), some (.inl a2_), none, none, none, none], [], S0_) (fun ro9_ => ∃ u_ S1_, ro9_ = (.inl u_, S1_, 0) ∧ vq_158 a1_ a2_ bb_ S0_ u_ S1_) := by
  have hF_ : ai_fr (sx_W vw_158) S0_ S0_ := ai_fr_rf
  refine sm_T_go 4 (c1 := (5, [some (.inr (.inr (some (8, 0)))), some (.inl a1_), some (.inl a2_), some (.inl (-1)), some (.inl 0), none, none], [], S0_)) rfl ?_
  refine (vl_158 a1_ a2_ bb_ S0_ hb_ h1_ hn_ hp_ _) (-1) 0 S0_ hI_ hF_ ⟨?_, ?_, ?_, ?_, trivial⟩ (Nat.lt_succ_self _)
  · omega
  · (left; rfl)
  · (intro _ j_ hj_; exfalso; omega)
  · first | rfl | exact hS_
