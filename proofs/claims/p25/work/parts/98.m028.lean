/-! 99.zn4d -/
section
/-! Mapper.tableOver -/
def vw_105 : sx_Wl := ([], [70, 71], [])
def vq_105 (a1_ : Int) (a2_ : Int) (dd_ : Nat) (S0_ : sm_S) (u_ : Option sm_V) (S1_ : sm_S) : Prop := ∃ v_ : Int, u_ = some (.inl v_) ∧ gi S1_ ∧ ai_fr (sx_W vw_105) S0_ S1_ ∧ (0 ≤ v_ ∧ v_ ≤ 255)
set_option maxHeartbeats 400000 in
set_option maxRecDepth 20000 in
theorem vl_105 {sc_ : Nat × (Nat → Int)} (a1_ : Int) (a2_ : Int) (dd_ : Nat) (S0_ : sm_S) (hd_ : S0_.2.1 6 0 0 = some dd_) (h1_ : 0 ≤ a1_ ∧ a1_ ≤ 1012) (h2_ : 0 ≤ a2_ ∧ a2_ ≤ 1023) : ∀ nn_ : Nat, (∀ (ct : Int) (k_ : Int) (S_ : sm_S), gi S_ → ai_fr (sx_W vw_105) S0_ S_ → ((1 ≤ ct ∧ ct ≤ 1013 ∧ 0 ≤ k_ ∧ k_ ≤ 1013) ∧ True) → ((9000 - k_).toNat) < nn_ → sm_T (mt_P sc_) 2 105 (12, [some (.inr (.inr (some (6, 0)))), some (.inl a1_), some (.inl a2_), some (.inl ct), some (.inl k_), none, none], [], S_) (fun ro9_ => ∃ u_ S1_, ro9_ = (.inl u_, S1_, 0) ∧ vq_105 a1_ a2_ dd_ S0_ u_ S1_)) ∧ (∀ (ct : Int) (k_ : Int) (S_ : sm_S), gi S_ → ai_fr (sx_W vw_105) S0_ S_ → ((1 ≤ ct ∧ ct ≤ 1013 ∧ 0 ≤ k_ ∧ k_ ≤ 3) ∧ True) → ((7000 - k_).toNat) < nn_ → sm_T (mt_P sc_) 2 105 (125, [some (.inr (.inr (some (6, 0)))), some (.inl a1_), some (.inl a2_), some (.inl ct), some (.inl k_), none, none], [], S_) (fun ro9_ => ∃ u_ S1_, ro9_ = (.inl u_, S1_, 0) ∧ vq_105 a1_ a2_ dd_ S0_ u_ S1_)) ∧ (∀ (ct : Int) (k_ : Int) (S_ : sm_S), gi S_ → ai_fr (sx_W vw_105) S0_ S_ → ((-1 ≤ k_ ∧ k_ ≤ 1012) ∧ True) → ((k_ + 5).toNat) < nn_ → sm_T (mt_P sc_) 2 105 (179, [some (.inr (.inr (some (6, 0)))), some (.inl a1_), some (.inl a2_), some (.inl ct), some (.inl k_), none, none], [], S_) (fun ro9_ => ∃ u_ S1_, ro9_ = (.inl u_, S1_, 0) ∧ vq_105 a1_ a2_ dd_ S0_ u_ S1_)) := by
  intro nn_
  induction nn_ with
  | zero => exact ⟨fun _ _ _ _ _ _ h_ => absurd h_ (Nat.not_lt_zero _), fun _ _ _ _ _ _ h_ => absurd h_ (Nat.not_lt_zero _), fun _ _ _ _ _ _ h_ => absurd h_ (Nat.not_lt_zero _)⟩
  | succ nn_ ih_ =>
    refine ⟨?_, ?_, ?_⟩
    · rintro ct k_ S_ hI_ hF_ ⟨h0_, -⟩ hm_
      refine sm_T_go 2 (c1 := (15, [some (.inr (.inr (some (6, 0)))), some (.inl a1_), some (.inl a2_), some (.inl ct), some (.inl k_), none, none], [.inl ct, .inl k_], S_)) rfl ?_
      refine sm_T_br (a := 3) (z := 107) rfl (fun cx1_ => ?_) (fun cx1_ => ?_)
      · have cx1_ : ct ≤ k_ := of_decide_eq_true cx1_
        refine sm_T_go 2 (c1 := (125, [some (.inr (.inr (some (6, 0)))), some (.inl a1_), some (.inl a2_), some (.inl ct), some (.inl 0), none, none], [], S_)) rfl ?_
        refine ih_.2.1 ct 0 S_ hI_ hF_ ⟨?_, trivial⟩ ?_
        · omega
        · omega
      · have cx1_ : ¬ (ct ≤ k_) := of_decide_eq_false cx1_
        refine sm_T_go 4 (c1 := (25, [some (.inr (.inr (some (6, 0)))), some (.inl a1_), some (.inl a2_), some (.inl ct), some (.inl k_), none, none], [.inl 1013, .inl k_], S_)) rfl ?_
        refine sm_T_br (a := 3) (z := 97) rfl (fun cx2_ => ?_) (fun cx2_ => ?_)
        · have cx2_ : 1013 ≤ k_ := of_decide_eq_true cx2_
          refine sm_T_go 2 (c1 := (125, [some (.inr (.inr (some (6, 0)))), some (.inl a1_), some (.inl a2_), some (.inl ct), some (.inl 0), none, none], [], S_)) rfl ?_
          refine ih_.2.1 ct 0 S_ hI_ hF_ ⟨?_, trivial⟩ ?_
          · omega
          · omega
        · have cx2_ : ¬ (1013 ≤ k_) := of_decide_eq_false cx2_
          refine sm_T_go 4 (c1 := (35, [some (.inr (.inr (some (6, 0)))), some (.inl a1_), some (.inl a2_), some (.inl ct), some (.inl k_), none, none], [.inl k_, .inr (.inr (some (70, 0))), .inr (.inr (some (6, 0)))], S_)) rfl ?_
          refine sm_T_iald (n := 1013) rfl rfl (by omega) (by omega) ?_
          have bx3_ : 0 ≤ S_.2.2.1 70 0 k_.toNat ∧ S_.2.2.1 70 0 k_.toNat ≤ 1012 := hI_.2 70 0 _
          refine sm_T_cal (d1 := 1) (Q1 := vq_92 (S_.2.2.1 70 0 k_.toNat) dd_ S_) rfl rfl (by decide) (vc_92 (S_.2.2.1 70 0 k_.toNat) dd_ S_ hI_ (by exact (hF_.2.1 6 0 0 rfl).trans hd_) (by omega)) (fun u_ Sx4_ px7_ => ?_)
          obtain ⟨rfl, vx9_, rfl, px7_⟩ := px7_
          have l36_ := px7_.1
          refine sm_T_go 5 (c1 := (48, [some (.inr (.inr (some (6, 0)))), some (.inl a1_), some (.inl a2_), some (.inl ct), some (.inl k_), some (.inl vx9_), none], [.inl k_, .inr (.inr (some (70, 0))), .inr (.inr (some (6, 0)))], S_)) rfl ?_
          refine sm_T_iald (n := 1013) rfl rfl (by omega) (by omega) ?_
          refine sm_T_cal (d1 := 1) (Q1 := vq_93 (S_.2.2.1 70 0 k_.toNat) dd_ S_) rfl rfl (by decide) (vc_93 (S_.2.2.1 70 0 k_.toNat) dd_ S_ hI_ (by exact (hF_.2.1 6 0 0 rfl).trans hd_) (by omega)) (fun u_ Sx10_ px13_ => ?_)
          obtain ⟨rfl, vx15_, rfl, px13_⟩ := px13_
          have l49_ := px13_.1
          refine sm_T_go 4 (c1 := (58, [some (.inr (.inr (some (6, 0)))), some (.inl a1_), some (.inl a2_), some (.inl ct), some (.inl k_), some (.inl vx9_), some (.inl vx15_)], [.inl vx9_, .inl a2_, .inr (.inr (some (6, 0)))], S_)) rfl ?_
          refine sm_T_cal (d1 := 0) (Q1 := vq_106 a2_ vx9_ S_) rfl rfl (by decide) (vc_106 a2_ vx9_ S_ hI_ (by omega)) (fun u_ Sx16_ px19_ => ?_)
          obtain ⟨rfl, vx21_, rfl, px19_⟩ := px19_
          have p58_ := px19_
          refine sm_T_go 1 (c1 := (62, [some (.inr (.inr (some (6, 0)))), some (.inl a1_), some (.inl a2_), some (.inl ct), some (.inl k_), some (.inl vx9_), some (.inl vx15_)], [.inl (-1), .inl vx21_], S_)) rfl ?_
          refine sm_T_br (a := 1) (z := 23) rfl (fun cx22_ => ?_) (fun cx22_ => ?_)
          · have cx22_ : vx21_ ≠ (-1) := of_decide_eq_true cx22_
            refine sm_T_go 3 (c1 := (89, [some (.inr (.inr (some (6, 0)))), some (.inl a1_), some (.inl a2_), some (.inl ct), some (.inl k_), some (.inl vx9_), some (.inl vx15_)], [.inl vx15_, .inl a2_, .inr (.inr (some (6, 0)))], S_)) rfl ?_
            refine sm_T_cal (d1 := 0) (Q1 := vq_106 a2_ vx15_ S_) rfl rfl (by decide) (vc_106 a2_ vx15_ S_ hI_ (by omega)) (fun u_ Sx23_ px26_ => ?_)
            obtain ⟨rfl, vx28_, rfl, px26_⟩ := px26_
            have p89_ := px26_
            refine sm_T_go 1 (c1 := (93, [some (.inr (.inr (some (6, 0)))), some (.inl a1_), some (.inl a2_), some (.inl ct), some (.inl k_), some (.inl vx9_), some (.inl vx15_)], [.inl (-1), .inl vx28_], S_)) rfl ?_
            refine sm_T_br (a := 1) (z := 23) rfl (fun cx29_ => ?_) (fun cx29_ => ?_)
            · have cx29_ : vx28_ ≠ (-1) := of_decide_eq_true cx29_
              refine sm_T_inc (a := 4) (z := 1) (v := k_) (w := k_ + 1) rfl rfl (by omega) (by omega) (by omega) ?_ -- pc_ 116
              refine sm_T_go 1 (c1 := (12, [some (.inr (.inr (some (6, 0)))), some (.inl a1_), some (.inl a2_), some (.inl ct), some (.inl (k_ + 1)), some (.inl vx9_), some (.inl vx15_)], [], S_)) rfl ?_
              refine sm_T_wk [some (.inr (.inr (some (6, 0)))), some (.inl a1_), some (.inl a2_), some (.inl ct), some (.inl (k_ + 1)), none, none] (by exact ⟨rfl, rfl, rfl, rfl, rfl, trivial⟩) ?_
              refine ih_.1 ct (k_ + 1) S_ hI_ hF_ ⟨?_, trivial⟩ ?_
              · omega
              · omega
            · have cx29_ : ¬ (vx28_ ≠ (-1)) := of_decide_eq_false cx29_
              refine sm_T_go 4 (c1 := (102, [some (.inr (.inr (some (6, 0)))), some (.inl a1_), some (.inl a2_), some (.inl ct), some (.inl k_), some (.inl vx9_), some (.inl vx15_)], [.inl 1013, .inl ct], S_)) rfl ?_
              refine sm_T_br (a := 3) (z := 14) rfl (fun cx30_ => ?_) (fun cx30_ => ?_)
              · have cx30_ : 1013 ≤ ct := of_decide_eq_true cx30_
                refine sm_T_inc (a := 4) (z := 1) (v := k_) (w := k_ + 1) rfl rfl (by omega) (by omega) (by omega) ?_ -- pc_ 116
                refine sm_T_go 1 (c1 := (12, [some (.inr (.inr (some (6, 0)))), some (.inl a1_), some (.inl a2_), some (.inl ct), some (.inl (k_ + 1)), some (.inl vx9_), some (.inl vx15_)], [], S_)) rfl ?_
                refine sm_T_wk [some (.inr (.inr (some (6, 0)))), some (.inl a1_), some (.inl a2_), some (.inl ct), some (.inl (k_ + 1)), none, none] (by exact ⟨rfl, rfl, rfl, rfl, rfl, trivial⟩) ?_
                refine ih_.1 ct (k_ + 1) S_ hI_ hF_ ⟨?_, trivial⟩ ?_
                · omega
                · omega
              · have cx30_ : ¬ (1013 ≤ ct) := of_decide_eq_false cx30_
                refine sm_T_go 4 (c1 := (112, [some (.inr (.inr (some (6, 0)))), some (.inl a1_), some (.inl a2_), some (.inl ct), some (.inl k_), some (.inl vx9_), some (.inl vx15_)], [.inl vx15_, .inl ct, .inr (.inr (some (70, 0)))], S_)) rfl ?_
                refine sm_T_iast (n := 1013) rfl rfl (by omega) (by omega) ?_
                have hIx31_ : gi (sm_aI S_ 70 0 ct.toNat vx15_) := gi_aI hI_ (show 0 ≤ vx15_ ∧ vx15_ ≤ 1012 from ⟨by omega, by omega⟩)
                have hFx32_ : ai_fr (sx_W vw_105) S0_ (sm_aI S_ 70 0 ct.toNat vx15_) := ai_fr_tr hF_ (ai_fr_aI rfl)
                refine sm_T_inc (a := 3) (z := 1) (v := ct) (w := ct + 1) rfl rfl (by omega) (by omega) (by omega) ?_ -- pc_ 113
                refine sm_T_inc (a := 4) (z := 1) (v := k_) (w := k_ + 1) rfl rfl (by omega) (by omega) (by omega) ?_ -- pc_ 116
                refine sm_T_go 1 (c1 := (12, [some (.inr (.inr (some (6, 0)))), some (.inl a1_), some (.inl a2_), some (.inl (ct + 1)), some (.inl (k_ + 1)), some (.inl vx9_), some (.inl vx15_)], [], sm_aI S_ 70 0 ct.toNat vx15_)) rfl ?_
                refine sm_T_wk [some (.inr (.inr (some (6, 0)))), some (.inl a1_), some (.inl a2_), some (.inl (ct + 1)), some (.inl (k_ + 1)), none, none] (by exact ⟨rfl, rfl, rfl, rfl, rfl, trivial⟩) ?_
                refine ih_.1 (ct + 1) (k_ + 1) (sm_aI S_ 70 0 ct.toNat vx15_) hIx31_ hFx32_ ⟨?_, trivial⟩ ?_
                · omega
                · omega
          · have cx22_ : ¬ (vx21_ ≠ (-1)) := of_decide_eq_false cx22_
            refine sm_T_go 4 (c1 := (71, [some (.inr (.inr (some (6, 0)))), some (.inl a1_), some (.inl a2_), some (.inl ct), some (.inl k_), some (.inl vx9_), some (.inl vx15_)], [.inl 1013, .inl ct], S_)) rfl ?_
            refine sm_T_br (a := 3) (z := 14) rfl (fun cx33_ => ?_) (fun cx33_ => ?_)
            · have cx33_ : 1013 ≤ ct := of_decide_eq_true cx33_
              refine sm_T_go 3 (c1 := (89, [some (.inr (.inr (some (6, 0)))), some (.inl a1_), some (.inl a2_), some (.inl ct), some (.inl k_), some (.inl vx9_), some (.inl vx15_)], [.inl vx15_, .inl a2_, .inr (.inr (some (6, 0)))], S_)) rfl ?_
              refine sm_T_cal (d1 := 0) (Q1 := vq_106 a2_ vx15_ S_) rfl rfl (by decide) (vc_106 a2_ vx15_ S_ hI_ (by omega)) (fun u_ Sx34_ px37_ => ?_)
              obtain ⟨rfl, vx39_, rfl, px37_⟩ := px37_
              have p89_ := px37_
              refine sm_T_go 1 (c1 := (93, [some (.inr (.inr (some (6, 0)))), some (.inl a1_), some (.inl a2_), some (.inl ct), some (.inl k_), some (.inl vx9_), some (.inl vx15_)], [.inl (-1), .inl vx39_], S_)) rfl ?_
              refine sm_T_br (a := 1) (z := 23) rfl (fun cx40_ => ?_) (fun cx40_ => ?_)
              · have cx40_ : vx39_ ≠ (-1) := of_decide_eq_true cx40_
                refine sm_T_inc (a := 4) (z := 1) (v := k_) (w := k_ + 1) rfl rfl (by omega) (by omega) (by omega) ?_ -- pc_ 116
                refine sm_T_go 1 (c1 := (12, [some (.inr (.inr (some (6, 0)))), some (.inl a1_), some (.inl a2_), some (.inl ct), some (.inl (k_ + 1)), some (.inl vx9_), some (.inl vx15_)], [], S_)) rfl ?_
                refine sm_T_wk [some (.inr (.inr (some (6, 0)))), some (.inl a1_), some (.inl a2_), some (.inl ct), some (.inl (k_ + 1)), none, none] (by exact ⟨rfl, rfl, rfl, rfl, rfl, trivial⟩) ?_
                refine ih_.1 ct (k_ + 1) S_ hI_ hF_ ⟨?_, trivial⟩ ?_
                · omega
                · omega
              · have cx40_ : ¬ (vx39_ ≠ (-1)) := of_decide_eq_false cx40_
                refine sm_T_go 4 (c1 := (102, [some (.inr (.inr (some (6, 0)))), some (.inl a1_), some (.inl a2_), some (.inl ct), some (.inl k_), some (.inl vx9_), some (.inl vx15_)], [.inl 1013, .inl ct], S_)) rfl ?_
                refine sm_T_br (a := 3) (z := 14) rfl (fun cx41_ => ?_) (fun cx41_ => ?_)
                · have cx41_ : 1013 ≤ ct := of_decide_eq_true cx41_
                  refine sm_T_inc (a := 4) (z := 1) (v := k_) (w := k_ + 1) rfl rfl (by omega) (by omega) (by omega) ?_ -- pc_ 116
                  refine sm_T_go 1 (c1 := (12, [some (.inr (.inr (some (6, 0)))), some (.inl a1_), some (.inl a2_), some (.inl ct), some (.inl (k_ + 1)), some (.inl vx9_), some (.inl vx15_)], [], S_)) rfl ?_
                  refine sm_T_wk [some (.inr (.inr (some (6, 0)))), some (.inl a1_), some (.inl a2_), some (.inl ct), some (.inl (k_ + 1)), none, none] (by exact ⟨rfl, rfl, rfl, rfl, rfl, trivial⟩) ?_
                  refine ih_.1 ct (k_ + 1) S_ hI_ hF_ ⟨?_, trivial⟩ ?_
                  · omega
                  · omega
                · have cx41_ : ¬ (1013 ≤ ct) := of_decide_eq_false cx41_
                  exfalso; omega
            · have cx33_ : ¬ (1013 ≤ ct) := of_decide_eq_false cx33_
              refine sm_T_go 4 (c1 := (81, [some (.inr (.inr (some (6, 0)))), some (.inl a1_), some (.inl a2_), some (.inl ct), some (.inl k_), some (.inl vx9_), some (.inl vx15_)], [.inl vx9_, .inl ct, .inr (.inr (some (70, 0)))], S_)) rfl ?_
              refine sm_T_iast (n := 1013) rfl rfl (by omega) (by omega) ?_
              have hIx42_ : gi (sm_aI S_ 70 0 ct.toNat vx9_) := gi_aI hI_ (show 0 ≤ vx9_ ∧ vx9_ ≤ 1012 from ⟨by omega, by omega⟩)
              have hFx43_ : ai_fr (sx_W vw_105) S0_ (sm_aI S_ 70 0 ct.toNat vx9_) := ai_fr_tr hF_ (ai_fr_aI rfl)
              refine sm_T_inc (a := 3) (z := 1) (v := ct) (w := ct + 1) rfl rfl (by omega) (by omega) (by omega) ?_ -- pc_ 82
              refine sm_T_go 3 (c1 := (89, [some (.inr (.inr (some (6, 0)))), some (.inl a1_), some (.inl a2_), some (.inl (ct + 1)), some (.inl k_), some (.inl vx9_), some (.inl vx15_)], [.inl vx15_, .inl a2_, .inr (.inr (some (6, 0)))], sm_aI S_ 70 0 ct.toNat vx9_)) rfl ?_
              refine sm_T_cal (d1 := 0) (Q1 := vq_106 a2_ vx15_ (sm_aI S_ 70 0 ct.toNat vx9_)) rfl rfl (by decide) (vc_106 a2_ vx15_ (sm_aI S_ 70 0 ct.toNat vx9_) hIx42_ (by omega)) (fun u_ Sx44_ px47_ => ?_)
              obtain ⟨rfl, vx49_, rfl, px47_⟩ := px47_
              have p89_ := px47_
              refine sm_T_go 1 (c1 := (93, [some (.inr (.inr (some (6, 0)))), some (.inl a1_), some (.inl a2_), some (.inl (ct + 1)), some (.inl k_), some (.inl vx9_), some (.inl vx15_)], [.inl (-1), .inl vx49_], sm_aI S_ 70 0 ct.toNat vx9_)) rfl ?_
              refine sm_T_br (a := 1) (z := 23) rfl (fun cx50_ => ?_) (fun cx50_ => ?_)
              · have cx50_ : vx49_ ≠ (-1) := of_decide_eq_true cx50_
                refine sm_T_inc (a := 4) (z := 1) (v := k_) (w := k_ + 1) rfl rfl (by omega) (by omega) (by omega) ?_ -- pc_ 116
                refine sm_T_go 1 (c1 := (12, [some (.inr (.inr (some (6, 0)))), some (.inl a1_), some (.inl a2_), some (.inl (ct + 1)), some (.inl (k_ + 1)), some (.inl vx9_), some (.inl vx15_)], [], sm_aI S_ 70 0 ct.toNat vx9_)) rfl ?_
                refine sm_T_wk [some (.inr (.inr (some (6, 0)))), some (.inl a1_), some (.inl a2_), some (.inl (ct + 1)), some (.inl (k_ + 1)), none, none] (by exact ⟨rfl, rfl, rfl, rfl, rfl, trivial⟩) ?_
                refine ih_.1 (ct + 1) (k_ + 1) (sm_aI S_ 70 0 ct.toNat vx9_) hIx42_ hFx43_ ⟨?_, trivial⟩ ?_
                · omega
                · omega
              · have cx50_ : ¬ (vx49_ ≠ (-1)) := of_decide_eq_false cx50_
                refine sm_T_go 4 (c1 := (102, [some (.inr (.inr (some (6, 0)))), some (.inl a1_), some (.inl a2_), some (.inl (ct + 1)), some (.inl k_), some (.inl vx9_), some (.inl vx15_)], [.inl 1013, .inl (ct + 1)], sm_aI S_ 70 0 ct.toNat vx9_)) rfl ?_
                refine sm_T_br (a := 3) (z := 14) rfl (fun cx51_ => ?_) (fun cx51_ => ?_)
                · have cx51_ : 1013 ≤ ct + 1 := of_decide_eq_true cx51_
                  refine sm_T_inc (a := 4) (z := 1) (v := k_) (w := k_ + 1) rfl rfl (by omega) (by omega) (by omega) ?_ -- pc_ 116
                  refine sm_T_go 1 (c1 := (12, [some (.inr (.inr (some (6, 0)))), some (.inl a1_), some (.inl a2_), some (.inl (ct + 1)), some (.inl (k_ + 1)), some (.inl vx9_), some (.inl vx15_)], [], sm_aI S_ 70 0 ct.toNat vx9_)) rfl ?_
                  refine sm_T_wk [some (.inr (.inr (some (6, 0)))), some (.inl a1_), some (.inl a2_), some (.inl (ct + 1)), some (.inl (k_ + 1)), none, none] (by exact ⟨rfl, rfl, rfl, rfl, rfl, trivial⟩) ?_
                  refine ih_.1 (ct + 1) (k_ + 1) (sm_aI S_ 70 0 ct.toNat vx9_) hIx42_ hFx43_ ⟨?_, trivial⟩ ?_
                  · omega
                  · omega
                · have cx51_ : ¬ (1013 ≤ ct + 1) := of_decide_eq_false cx51_
                  refine sm_T_go 4 (c1 := (112, [some (.inr (.inr (some (6, 0)))), some (.inl a1_), some (.inl a2_), some (.inl (ct + 1)), some (.inl k_), some (.inl vx9_), some (.inl vx15_)], [.inl vx15_, .inl (ct + 1), .inr (.inr (some (70, 0)))], sm_aI S_ 70 0 ct.toNat vx9_)) rfl ?_
                  refine sm_T_iast (n := 1013) rfl rfl (by omega) (by omega) ?_
                  have hIx52_ : gi (sm_aI (sm_aI S_ 70 0 ct.toNat vx9_) 70 0 (ct + 1).toNat vx15_) := gi_aI hIx42_ (show 0 ≤ vx15_ ∧ vx15_ ≤ 1012 from ⟨by omega, by omega⟩)
                  have hFx53_ : ai_fr (sx_W vw_105) S0_ (sm_aI (sm_aI S_ 70 0 ct.toNat vx9_) 70 0 (ct + 1).toNat vx15_) := ai_fr_tr hFx43_ (ai_fr_aI rfl)
                  refine sm_T_inc (a := 3) (z := 1) (v := ct + 1) (w := ct + 2) rfl rfl (by omega) (by omega) (by omega) ?_ -- pc_ 113
                  refine sm_T_inc (a := 4) (z := 1) (v := k_) (w := k_ + 1) rfl rfl (by omega) (by omega) (by omega) ?_ -- pc_ 116
                  refine sm_T_go 1 (c1 := (12, [some (.inr (.inr (some (6, 0)))), some (.inl a1_), some (.inl a2_), some (.inl (ct + 2)), some (.inl (k_ + 1)), some (.inl vx9_), some (.inl vx15_)], [], sm_aI (sm_aI S_ 70 0 ct.toNat vx9_) 70 0 (ct + 1).toNat vx15_)) rfl ?_
                  refine sm_T_wk [some (.inr (.inr (some (6, 0)))), some (.inl a1_), some (.inl a2_), some (.inl (ct + 2)), some (.inl (k_ + 1)), none, none] (by exact ⟨rfl, rfl, rfl, rfl, rfl, trivial⟩) ?_
                  refine ih_.1 (ct + 2) (k_ + 1) (sm_aI (sm_aI S_ 70 0 ct.toNat vx9_) 70 0 (ct + 1).toNat vx15_) hIx52_ hFx53_ ⟨?_, trivial⟩ ?_
                  · omega
                  · omega
    · rintro ct k_ S_ hI_ hF_ ⟨h0_, -⟩ hm_
      refine sm_T_go 2 (c1 := (128, [some (.inr (.inr (some (6, 0)))), some (.inl a1_), some (.inl a2_), some (.inl ct), some (.inl k_), none, none], [.inl 3, .inl k_], S_)) rfl ?_
      refine sm_T_br (a := 3) (z := 46) rfl (fun cx1_ => ?_) (fun cx1_ => ?_)
      · have cx1_ : 3 ≤ k_ := of_decide_eq_true cx1_
        refine sm_T_go 2 (c1 := (176, [some (.inr (.inr (some (6, 0)))), some (.inl a1_), some (.inl a2_), some (.inl ct), some (.inl k_), none, none], [.inl 1, .inl ct], S_)) rfl ?_
        refine sm_T_bin (w := ct - 1) rfl (bi_sub (by omega) (by omega) (by omega)) ?_ -- pc_ 176
        refine sm_T_go 1 (c1 := (179, [some (.inr (.inr (some (6, 0)))), some (.inl a1_), some (.inl a2_), some (.inl ct), some (.inl (ct - 1)), none, none], [], S_)) rfl ?_
        refine ih_.2.2 ct (ct - 1) S_ hI_ hF_ ⟨?_, trivial⟩ ?_
        · omega
        · omega
      · have cx1_ : ¬ (3 ≤ k_) := of_decide_eq_false cx1_
        refine sm_T_go 4 (c1 := (137, [some (.inr (.inr (some (6, 0)))), some (.inl a1_), some (.inl a2_), some (.inl ct), some (.inl k_), none, none], [.inl a2_, .inl 3, .inr (.inr (some (65, 0)))], S_)) rfl ?_
        refine sm_T_bin (w := 3 * a2_) rfl (bi_mul (by omega) (by omega) (by omega)) ?_ -- pc_ 137
        refine sm_T_go 1 (c1 := (140, [some (.inr (.inr (some (6, 0)))), some (.inl a1_), some (.inl a2_), some (.inl ct), some (.inl k_), none, none], [.inl k_, .inl (3 * a2_), .inr (.inr (some (65, 0)))], S_)) rfl ?_
        refine sm_T_bin (w := 3 * a2_ + k_) rfl (bi_add (by omega) (by omega) (by omega)) ?_ -- pc_ 140
        refine sm_T_iald (n := 3072) rfl rfl (by omega) (by omega) ?_
        have bx2_ : (-1) ≤ S_.2.2.1 65 0 (3 * a2_ + k_).toNat ∧ S_.2.2.1 65 0 (3 * a2_ + k_).toNat ≤ 1012 := hI_.2 65 0 _
        refine sm_T_go 1 (c1 := (143, [some (.inr (.inr (some (6, 0)))), some (.inl a1_), some (.inl a2_), some (.inl ct), some (.inl k_), none, none], [.inl (-1), .inl (S_.2.2.1 65 0 (3 * a2_ + k_).toNat)], S_)) rfl ?_
        refine sm_T_br (a := 0) (z := 25) rfl (fun cx3_ => ?_) (fun cx3_ => ?_)
        · have cx3_ : (S_.2.2.1 65 0 (3 * a2_ + k_).toNat) = (-1) := of_decide_eq_true cx3_
          refine sm_T_inc (a := 4) (z := 1) (v := k_) (w := k_ + 1) rfl rfl (by omega) (by omega) (by omega) ?_ -- pc_ 168
          refine sm_T_go 1 (c1 := (125, [some (.inr (.inr (some (6, 0)))), some (.inl a1_), some (.inl a2_), some (.inl ct), some (.inl (k_ + 1)), none, none], [], S_)) rfl ?_
          refine ih_.2.1 ct (k_ + 1) S_ hI_ hF_ ⟨?_, trivial⟩ ?_
          · omega
          · omega
        · have cx3_ : ¬ ((S_.2.2.1 65 0 (3 * a2_ + k_).toNat) = (-1)) := of_decide_eq_false cx3_
          have vt9_ := vt3 (k_ := k_) (by omega)
          refine sm_T_go 6 (c1 := (156, [some (.inr (.inr (some (6, 0)))), some (.inl a1_), some (.inl a2_), some (.inl ct), some (.inl k_), none, none], [.inl a2_, .inl 3, .inr (.inr (some (65, 0))), .inr (.inr (some (71, 0)))], S_)) rfl ?_
          refine sm_T_bin (w := 3 * a2_) rfl (bi_mul (by omega) (by omega) (by omega)) ?_ -- pc_ 156
          refine sm_T_go 1 (c1 := (159, [some (.inr (.inr (some (6, 0)))), some (.inl a1_), some (.inl a2_), some (.inl ct), some (.inl k_), none, none], [.inl k_, .inl (3 * a2_), .inr (.inr (some (65, 0))), .inr (.inr (some (71, 0)))], S_)) rfl ?_
          refine sm_T_bin (w := 3 * a2_ + k_) rfl (bi_add (by omega) (by omega) (by omega)) ?_ -- pc_ 159
          refine sm_T_iald (n := 3072) rfl rfl (by omega) (by omega) ?_
          refine sm_T_nt (u := some (.inr (.inr (some (299, 0))))) (S1 := S_) rfl rfl rfl ?_
          refine sm_T_go 1 (c1 := (166, [some (.inr (.inr (some (6, 0)))), some (.inl a1_), some (.inl a2_), some (.inl ct), some (.inl k_), none, none], [.inl k_, .inr (.inr (some (299, 0))), .inl (S_.2.2.1 65 0 (3 * a2_ + k_).toNat), .inr (.inr (some (71, 0)))], S_)) rfl ?_
          refine sm_T_nt (u := some (.inl (st_at 3 k_))) (S1 := S_) rfl rfl (nt_st (sc := sc_) (j := 3) (n := 3) (by decide) rfl rfl (by omega) (by omega)) ?_
          refine sm_T_iast (n := 1013) rfl rfl (by omega) (by omega) ?_
          have hIx4_ : gi (sm_aI S_ 71 0 (S_.2.2.1 65 0 (3 * a2_ + k_).toNat).toNat (st_at 3 k_)) := gi_aI hI_ (show (-2147483648) ≤ (st_at 3 k_) ∧ (st_at 3 k_) ≤ 2147483647 from ⟨by omega, by omega⟩)
          have hFx5_ : ai_fr (sx_W vw_105) S0_ (sm_aI S_ 71 0 (S_.2.2.1 65 0 (3 * a2_ + k_).toNat).toNat (st_at 3 k_)) := ai_fr_tr hF_ (ai_fr_aI rfl)
          refine sm_T_inc (a := 4) (z := 1) (v := k_) (w := k_ + 1) rfl rfl (by omega) (by omega) (by omega) ?_ -- pc_ 168
          refine sm_T_go 1 (c1 := (125, [some (.inr (.inr (some (6, 0)))), some (.inl a1_), some (.inl a2_), some (.inl ct), some (.inl (k_ + 1)), none, none], [], sm_aI S_ 71 0 (S_.2.2.1 65 0 (3 * a2_ + k_).toNat).toNat (st_at 3 k_))) rfl ?_
          refine ih_.2.1 ct (k_ + 1) (sm_aI S_ 71 0 (S_.2.2.1 65 0 (3 * a2_ + k_).toNat).toNat (st_at 3 k_)) hIx4_ hFx5_ ⟨?_, trivial⟩ ?_
          · omega
          · omega
    · rintro ct k_ S_ hI_ hF_ ⟨h0_, -⟩ hm_
      refine sm_T_go 1 (c1 := (181, [some (.inr (.inr (some (6, 0)))), some (.inl a1_), some (.inl a2_), some (.inl ct), some (.inl k_), none, none], [.inl k_], S_)) rfl ?_
      refine sm_T_b0 (a := 2) (z := 100) rfl (fun cx1_ => ?_) (fun cx1_ => ?_)
      · have cx1_ : k_ < 0 := of_decide_eq_true cx1_
        refine sm_T_go 3 (c1 := (286, [some (.inr (.inr (some (6, 0)))), some (.inl a1_), some (.inl a2_), some (.inl ct), some (.inl k_), none, none], [.inl a1_, .inr (.inr (some (71, 0)))], S_)) rfl ?_
        refine sm_T_iald (n := 1013) rfl rfl (by omega) (by omega) ?_
        have bx2_ : (-2147483648) ≤ S_.2.2.1 71 0 a1_.toNat ∧ S_.2.2.1 71 0 a1_.toNat ≤ 2147483647 := hI_.2 71 0 _
        refine sm_T_go 4 (c1 := (293, [some (.inr (.inr (some (6, 0)))), some (.inl a1_), some (.inl a2_), some (.inl ct), some (.inl k_), none, none], [.inl a2_, .inl 3, .inr (.inr (some (65, 0))), .inl (S_.2.2.1 71 0 a1_.toNat)], S_)) rfl ?_
        refine sm_T_bin (w := 3 * a2_) rfl (bi_mul (by omega) (by omega) (by omega)) ?_ -- pc_ 293
        refine sm_T_go 1 (c1 := (295, [some (.inr (.inr (some (6, 0)))), some (.inl a1_), some (.inl a2_), some (.inl ct), some (.inl k_), none, none], [.inl 2, .inl (3 * a2_), .inr (.inr (some (65, 0))), .inl (S_.2.2.1 71 0 a1_.toNat)], S_)) rfl ?_
        refine sm_T_bin (w := 3 * a2_ + 2) rfl (bi_add (by omega) (by omega) (by omega)) ?_ -- pc_ 295
        refine sm_T_iald (n := 3072) rfl rfl (by omega) (by omega) ?_
        have bx3_ : (-1) ≤ S_.2.2.1 65 0 (3 * a2_ + 2).toNat ∧ S_.2.2.1 65 0 (3 * a2_ + 2).toNat ≤ 1012 := hI_.2 65 0 _
        refine sm_T_go 1 (c1 := (298, [some (.inr (.inr (some (6, 0)))), some (.inl a1_), some (.inl a2_), some (.inl ct), some (.inl k_), none, none], [.inl (-1), .inl (S_.2.2.1 65 0 (3 * a2_ + 2).toNat), .inl (S_.2.2.1 71 0 a1_.toNat)], S_)) rfl ?_
        refine sm_T_br (a := 1) (z := 8) rfl (fun cx4_ => ?_) (fun cx4_ => ?_)
        · have cx4_ : (S_.2.2.1 65 0 (3 * a2_ + 2).toNat) ≠ (-1) := of_decide_eq_true cx4_
          refine sm_T_go 1 (c1 := (309, [some (.inr (.inr (some (6, 0)))), some (.inl a1_), some (.inl a2_), some (.inl ct), some (.inl k_), none, none], [.inl 255, .inl (S_.2.2.1 71 0 a1_.toNat)], S_)) rfl ?_
          refine sm_T_bin (w := ((S_.2.2.1 71 0 a1_.toNat) % 256)) rfl (bi_msk (k := 8) (by decide)) ?_ -- pc_ 309
          refine sm_T_ri rfl ⟨_, _, rfl, _, rfl, hI_, hF_, ?_⟩
          omega
        · have cx4_ : ¬ ((S_.2.2.1 65 0 (3 * a2_ + 2).toNat) ≠ (-1)) := of_decide_eq_false cx4_
          refine sm_T_go 2 (c1 := (309, [some (.inr (.inr (some (6, 0)))), some (.inl a1_), some (.inl a2_), some (.inl ct), some (.inl k_), none, none], [.inl 15, .inl (S_.2.2.1 71 0 a1_.toNat)], S_)) rfl ?_
          refine sm_T_bin (w := ((S_.2.2.1 71 0 a1_.toNat) % 16)) rfl (bi_msk (k := 4) (by decide)) ?_ -- pc_ 309
          refine sm_T_ri rfl ⟨_, _, rfl, _, rfl, hI_, hF_, ?_⟩
          omega
      · have cx1_ : ¬ (k_ < 0) := of_decide_eq_false cx1_
        refine sm_T_go 1 (c1 := (185, [some (.inr (.inr (some (6, 0)))), some (.inl a1_), some (.inl a2_), some (.inl ct), some (.inl k_), none, none], [.inr (.inr (some (6, 0)))], S_)) rfl ?_
        refine sm_T_gr rfl rfl ((hF_.2.1 6 0 0 rfl).trans hd_) ?_
        refine sm_T_go 1 (c1 := (189, [some (.inr (.inr (some (6, 0)))), some (.inl a1_), some (.inl a2_), some (.inl ct), some (.inl k_), none, none], [.inr (.inr (some (6, 0))), .inr (.inr (some (3, dd_)))], S_)) rfl ?_
        refine sm_T_gr rfl rfl ((hF_.2.1 6 0 0 rfl).trans hd_) ?_
        refine sm_T_go 4 (c1 := (201, [some (.inr (.inr (some (6, 0)))), some (.inl a1_), some (.inl a2_), some (.inl ct), some (.inl k_), none, none], [.inl k_, .inr (.inr (some (70, 0))), .inr (.inr (some (42, (0 + dd_)))), .inr (.inr (some (3, dd_)))], S_)) rfl ?_
        refine sm_T_iald (n := 1013) rfl rfl (by omega) (by omega) ?_
        have bx5_ : 0 ≤ S_.2.2.1 70 0 k_.toNat ∧ S_.2.2.1 70 0 k_.toNat ≤ 1012 := hI_.2 70 0 _
        refine sm_T_iald (n := 1013) rfl rfl (by omega) (by omega) ?_
        have bx6_ : 0 ≤ S_.2.2.1 42 (0 + dd_) (S_.2.2.1 70 0 k_.toNat).toNat ∧ S_.2.2.1 42 (0 + dd_) (S_.2.2.1 70 0 k_.toNat).toNat ≤ 2025 := hI_.2 42 (0 + dd_) _
        refine sm_T_cal (d1 := 0) (Q1 := vq_64 (S_.2.2.1 42 (0 + dd_) (S_.2.2.1 70 0 k_.toNat).toNat) dd_ S_) rfl rfl (by decide) (vc_64 (S_.2.2.1 42 (0 + dd_) (S_.2.2.1 70 0 k_.toNat).toNat) dd_ S_ hI_ (by omega)) (fun u_ Sx7_ px10_ => ?_)
        obtain ⟨rfl, vx12_, rfl, px10_⟩ := px10_
        have x203_ : 0 ≤ vx12_ ∧ vx12_ ≤ 2025 := by (rw [px10_]; exact swx (hI_.2 44 (0 + dd_) _) (by omega))
        refine sm_T_go 2 (c1 := (209, [some (.inr (.inr (some (6, 0)))), some (.inl a1_), some (.inl a2_), some (.inl ct), some (.inl k_), some (.inl vx12_), none], [.inr (.inr (some (6, 0)))], S_)) rfl ?_
        refine sm_T_gr rfl rfl ((hF_.2.1 6 0 0 rfl).trans hd_) ?_
        refine sm_T_go 1 (c1 := (213, [some (.inr (.inr (some (6, 0)))), some (.inl a1_), some (.inl a2_), some (.inl ct), some (.inl k_), some (.inl vx12_), none], [.inr (.inr (some (6, 0))), .inr (.inr (some (3, dd_)))], S_)) rfl ?_
        refine sm_T_gr rfl rfl ((hF_.2.1 6 0 0 rfl).trans hd_) ?_
        refine sm_T_go 4 (c1 := (225, [some (.inr (.inr (some (6, 0)))), some (.inl a1_), some (.inl a2_), some (.inl ct), some (.inl k_), some (.inl vx12_), none], [.inl k_, .inr (.inr (some (70, 0))), .inr (.inr (some (43, (0 + dd_)))), .inr (.inr (some (3, dd_)))], S_)) rfl ?_
        refine sm_T_iald (n := 1013) rfl rfl (by omega) (by omega) ?_
        refine sm_T_iald (n := 1013) rfl rfl (by omega) (by omega) ?_
        have bx13_ : 0 ≤ S_.2.2.1 43 (0 + dd_) (S_.2.2.1 70 0 k_.toNat).toNat ∧ S_.2.2.1 43 (0 + dd_) (S_.2.2.1 70 0 k_.toNat).toNat ≤ 2025 := hI_.2 43 (0 + dd_) _
        refine sm_T_cal (d1 := 0) (Q1 := vq_64 (S_.2.2.1 43 (0 + dd_) (S_.2.2.1 70 0 k_.toNat).toNat) dd_ S_) rfl rfl (by decide) (vc_64 (S_.2.2.1 43 (0 + dd_) (S_.2.2.1 70 0 k_.toNat).toNat) dd_ S_ hI_ (by omega)) (fun u_ Sx14_ px17_ => ?_)
        obtain ⟨rfl, vx19_, rfl, px17_⟩ := px17_
        have x227_ : 0 ≤ vx19_ ∧ vx19_ ≤ 2025 := by (rw [px17_]; exact swx (hI_.2 44 (0 + dd_) _) (by omega))
        refine sm_T_go 6 (c1 := (242, [some (.inr (.inr (some (6, 0)))), some (.inl a1_), some (.inl a2_), some (.inl ct), some (.inl k_), some (.inl vx12_), some (.inl vx19_)], [.inl k_, .inr (.inr (some (70, 0))), .inr (.inr (some (71, 0)))], S_)) rfl ?_
        refine sm_T_iald (n := 1013) rfl rfl (by omega) (by omega) ?_
        refine sm_T_go 4 (c1 := (250, [some (.inr (.inr (some (6, 0)))), some (.inl a1_), some (.inl a2_), some (.inl ct), some (.inl k_), some (.inl vx12_), some (.inl vx19_)], [.inl 1, .inl vx12_, .inr (.inr (some (71, 0))), .inl (S_.2.2.1 70 0 k_.toNat), .inr (.inr (some (71, 0)))], S_)) rfl ?_
        refine sm_T_bin (w := (vx12_ / 2)) rfl (bi_shr (k := 1) (by decide) (by omega) (by omega)) ?_ -- pc_ 250
        refine sm_T_iald (n := 1013) rfl rfl (by omega) (by omega) ?_
        have bx20_ : (-2147483648) ≤ S_.2.2.1 71 0 (vx12_ / 2).toNat ∧ S_.2.2.1 71 0 (vx12_ / 2).toNat ≤ 2147483647 := hI_.2 71 0 _
        refine sm_T_go 2 (c1 := (255, [some (.inr (.inr (some (6, 0)))), some (.inl a1_), some (.inl a2_), some (.inl ct), some (.inl k_), some (.inl vx12_), some (.inl vx19_)], [.inl 1, .inl vx12_, .inl (S_.2.2.1 71 0 (vx12_ / 2).toNat), .inl (S_.2.2.1 70 0 k_.toNat), .inr (.inr (some (71, 0)))], S_)) rfl ?_
        refine sm_T_bin (w := (vx12_ % 2)) rfl (bi_msk (k := 1) (by decide)) ?_ -- pc_ 255
        refine sm_T_neg (w := -(vx12_ % 2)) rfl (by omega) (by omega) (by omega) ?_ -- pc_ 256
        refine sm_T_bin (w := (i_xor (S_.2.2.1 71 0 (vx12_ / 2).toNat) (-(vx12_ % 2)))) rfl rfl ?_ -- pc_ 257
        have bx21_ := i_xor_n (S_.2.2.1 71 0 (vx12_ / 2).toNat) (-(vx12_ % 2))
        refine sm_T_go 4 (c1 := (265, [some (.inr (.inr (some (6, 0)))), some (.inl a1_), some (.inl a2_), some (.inl ct), some (.inl k_), some (.inl vx12_), some (.inl vx19_)], [.inl 1, .inl vx19_, .inr (.inr (some (71, 0))), .inl (i_xor (S_.2.2.1 71 0 (vx12_ / 2).toNat) (-(vx12_ % 2))), .inl (S_.2.2.1 70 0 k_.toNat), .inr (.inr (some (71, 0)))], S_)) rfl ?_
        refine sm_T_bin (w := (vx19_ / 2)) rfl (bi_shr (k := 1) (by decide) (by omega) (by omega)) ?_ -- pc_ 265
        refine sm_T_iald (n := 1013) rfl rfl (by omega) (by omega) ?_
        have bx22_ : (-2147483648) ≤ S_.2.2.1 71 0 (vx19_ / 2).toNat ∧ S_.2.2.1 71 0 (vx19_ / 2).toNat ≤ 2147483647 := hI_.2 71 0 _
        refine sm_T_go 2 (c1 := (270, [some (.inr (.inr (some (6, 0)))), some (.inl a1_), some (.inl a2_), some (.inl ct), some (.inl k_), some (.inl vx12_), some (.inl vx19_)], [.inl 1, .inl vx19_, .inl (S_.2.2.1 71 0 (vx19_ / 2).toNat), .inl (i_xor (S_.2.2.1 71 0 (vx12_ / 2).toNat) (-(vx12_ % 2))), .inl (S_.2.2.1 70 0 k_.toNat), .inr (.inr (some (71, 0)))], S_)) rfl ?_
        refine sm_T_bin (w := (vx19_ % 2)) rfl (bi_msk (k := 1) (by decide)) ?_ -- pc_ 270
        refine sm_T_neg (w := -(vx19_ % 2)) rfl (by omega) (by omega) (by omega) ?_ -- pc_ 271
        refine sm_T_bin (w := (i_xor (S_.2.2.1 71 0 (vx19_ / 2).toNat) (-(vx19_ % 2)))) rfl rfl ?_ -- pc_ 272
        have bx23_ := i_xor_n (S_.2.2.1 71 0 (vx19_ / 2).toNat) (-(vx19_ % 2))
        refine sm_T_bin (w := (i_and (i_xor (S_.2.2.1 71 0 (vx12_ / 2).toNat) (-(vx12_ % 2))) (i_xor (S_.2.2.1 71 0 (vx19_ / 2).toNat) (-(vx19_ % 2))))) rfl rfl ?_ -- pc_ 273
        have bx24_ := i_and_n (i_xor (S_.2.2.1 71 0 (vx12_ / 2).toNat) (-(vx12_ % 2))) (i_xor (S_.2.2.1 71 0 (vx19_ / 2).toNat) (-(vx19_ % 2)))
        refine sm_T_iast (n := 1013) rfl rfl (by omega) (by omega) ?_
        have hIx25_ : gi (sm_aI S_ 71 0 (S_.2.2.1 70 0 k_.toNat).toNat (i_and (i_xor (S_.2.2.1 71 0 (vx12_ / 2).toNat) (-(vx12_ % 2))) (i_xor (S_.2.2.1 71 0 (vx19_ / 2).toNat) (-(vx19_ % 2))))) := gi_aI hI_ (show (-2147483648) ≤ (i_and (i_xor (S_.2.2.1 71 0 (vx12_ / 2).toNat) (-(vx12_ % 2))) (i_xor (S_.2.2.1 71 0 (vx19_ / 2).toNat) (-(vx19_ % 2)))) ∧ (i_and (i_xor (S_.2.2.1 71 0 (vx12_ / 2).toNat) (-(vx12_ % 2))) (i_xor (S_.2.2.1 71 0 (vx19_ / 2).toNat) (-(vx19_ % 2)))) ≤ 2147483647 from ⟨by omega, by omega⟩)
        have hFx26_ : ai_fr (sx_W vw_105) S0_ (sm_aI S_ 71 0 (S_.2.2.1 70 0 k_.toNat).toNat (i_and (i_xor (S_.2.2.1 71 0 (vx12_ / 2).toNat) (-(vx12_ % 2))) (i_xor (S_.2.2.1 71 0 (vx19_ / 2).toNat) (-(vx19_ % 2))))) := ai_fr_tr hF_ (ai_fr_aI rfl)
        refine sm_T_inc (a := 4) (z := (-1)) (v := k_) (w := k_ - 1) rfl rfl (by omega) (by omega) (by omega) ?_ -- pc_ 275
        refine sm_T_go 1 (c1 := (179, [some (.inr (.inr (some (6, 0)))), some (.inl a1_), some (.inl a2_), some (.inl ct), some (.inl (k_ - 1)), some (.inl vx12_), some (.inl vx19_)], [], sm_aI S_ 71 0 (S_.2.2.1 70 0 k_.toNat).toNat (i_and (i_xor (S_.2.2.1 71 0 (vx12_ / 2).toNat) (-(vx12_ % 2))) (i_xor (S_.2.2.1 71 0 (vx19_ / 2).toNat) (-(vx19_ % 2)))))) rfl ?_
        refine sm_T_wk [some (.inr (.inr (some (6, 0)))), some (.inl a1_), some (.inl a2_), some (.inl ct), some (.inl (k_ - 1)), none, none] (by exact ⟨rfl, rfl, rfl, rfl, rfl, trivial⟩) ?_
        refine ih_.2.2 ct (k_ - 1) (sm_aI S_ 71 0 (S_.2.2.1 70 0 k_.toNat).toNat (i_and (i_xor (S_.2.2.1 71 0 (vx12_ / 2).toNat) (-(vx12_ % 2))) (i_xor (S_.2.2.1 71 0 (vx19_ / 2).toNat) (-(vx19_ % 2))))) hIx25_ hFx26_ ⟨?_, trivial⟩ ?_
        · omega
        · omega
set_option maxHeartbeats 400000 in
set_option maxRecDepth 20000 in
theorem vc_105 {sc_ : Nat × (Nat → Int)} (a1_ : Int) (a2_ : Int) (dd_ : Nat) (S0_ : sm_S) (hI_ : gi S0_) (hd_ : S0_.2.1 6 0 0 = some dd_) (h1_ : 0 ≤ a1_ ∧ a1_ ≤ 1012) (h2_ : 0 ≤ a2_ ∧ a2_ ≤ 1023) : sm_T (mt_P sc_) 2 105 (0, [some (.inr (.inr (some (6, 0)))), some (.inl a1_), some (.inl a2_), none, none, none, none], [], S0_) (fun ro9_ => ∃ u_ S1_, ro9_ = (.inl u_, S1_, 0) ∧ vq_105 a1_ a2_ dd_ S0_ u_ S1_) := by
  have hF_ : ai_fr (sx_W vw_105) S0_ S0_ := ai_fr_rf
  refine sm_T_go 4 (c1 := (6, [some (.inr (.inr (some (6, 0)))), some (.inl a1_), some (.inl a2_), none, none, none, none], [.inl a1_, .inl 0, .inr (.inr (some (70, 0)))], S0_)) rfl ?_
  refine sm_T_iast (n := 1013) rfl rfl (by omega) (by omega) ?_
  have hIx1_ : gi (sm_aI S0_ 70 0 (0 : Int).toNat a1_) := gi_aI hI_ (show 0 ≤ a1_ ∧ a1_ ≤ 1012 from ⟨by omega, by omega⟩)
  have hFx2_ : ai_fr (sx_W vw_105) S0_ (sm_aI S0_ 70 0 (0 : Int).toNat a1_) := ai_fr_tr hF_ (ai_fr_aI rfl)
  refine sm_T_go 4 (c1 := (12, [some (.inr (.inr (some (6, 0)))), some (.inl a1_), some (.inl a2_), some (.inl 1), some (.inl 0), none, none], [], sm_aI S0_ 70 0 (0 : Int).toNat a1_)) rfl ?_
  refine (vl_105 a1_ a2_ dd_ S0_ hd_ h1_ h2_ _).1 1 0 (sm_aI S0_ 70 0 (0 : Int).toNat a1_) hIx1_ hFx2_ ⟨?_, trivial⟩ (Nat.lt_succ_self _)
  · omega
end
/-! 99.zn5a -/
section
/-! views of cells; written by wip/p55/gen/vg -/

/-! views of_ cells -/
theorem vsh {x_ k_ : Int} (hx_ : 0 ≤ x_ ∧ x_ ≤ 1) (hk_ : 0 ≤ k_ ∧ k_ ≤ 2) : 0 ≤ i_shl x_ k_ ∧ i_shl x_ k_ < 2 ^ 3 := by
  have a_ : x_ = 0 ∨ x_ = 1 := by omega
  have b_ : k_ = 0 ∨ k_ = 1 ∨ k_ = 2 := by omega
  rcases a_ with a_ | a_ <;> rcases b_ with b_ | b_ | b_ <;> rw [a_, b_] <;> decide
theorem vpw {e_ : Int} (h_ : e_ = 2 ∨ e_ = 3) : (e_ = 2 ∧ i_shl 1 e_ = 4 ∧ i_shl 2 e_ = 8) ∨ (e_ = 3 ∧ i_shl 1 e_ = 8 ∧ i_shl 6 e_ = 48) := by
  rcases h_ with h_ | h_ <;> rw [h_]
  · left; decide
  · right; decide
theorem vor {v_ e_ : Int} (hv_ : 0 ≤ v_ ∧ v_ < 48) (h_ : e_ = 2 ∨ e_ = 3) : (e_ = 2 ∧ i_shr v_ e_ = v_ / 4) ∨ (e_ = 3 ∧ i_shr v_ e_ = v_ / 8) := by
  rcases h_ with h_ | h_
  · left; exact ⟨h_, by rw [h_, i_shrv (by decide) (by decide) (by omega)]; rfl⟩
  · right; exact ⟨h_, by rw [h_, i_shrv (by decide) (by decide) (by omega)]; rfl⟩
/-! Mapper.viewCells -/
def vw_97 : sx_Wl := ([], [69], [])
def vq_97 (ll_ : Nat) (S0_ : sm_S) (u_ : Option sm_V) (S1_ : sm_S) : Prop := u_ = none ∧ gi S1_ ∧ ai_fr (sx_W vw_97) S0_ S1_ ∧ (True)
set_option maxHeartbeats 3000000 in
set_option maxRecDepth 20000 in
theorem vl_97 {sc_ : Nat × (Nat → Int)} (ll_ : Nat) (S0_ : sm_S) (hc_ : S0_.2.1 6 0 1 = some ll_) : ∀ nn_ : Nat, (∀ (c9_ : Int) (S_ : sm_S), gi S_ → ai_fr (sx_W vw_97) S0_ S_ → ((0 ≤ c9_ ∧ c9_ ≤ 12) ∧ True) → ((100000 * (20 - c9_) + 90000).toNat) < nn_ → sm_T (mt_P sc_) 1 97 (2, [some (.inr (.inr (some (6, 0)))), some (.inl c9_), none, none, none, none, none, none, none, none, none], [], S_) (fun ro9_ => ∃ u_ S1_, ro9_ = (.inl u_, S1_, 0) ∧ vq_97 ll_ S0_ u_ S1_)) ∧ (∀ (c9_ : Int) (is_ : Int) (od_ : Int) (vw_ : Int) (S_ : sm_S), gi S_ → ai_fr (sx_W vw_97) S0_ S_ → ((0 ≤ c9_ ∧ c9_ < 12 ∧ ((is_ = 2 ∧ od_ = 2) ∨ (is_ = 3 ∧ od_ = 6) ∨ is_ ≤ 1) ∧ 0 ≤ is_ ∧ is_ ≤ 3 ∧ 0 ≤ vw_ ∧ vw_ ≤ 48) ∧ True) → ((100000 * (20 - c9_) + 1000 * (60 - vw_) + 900).toNat) < nn_ → sm_T (mt_P sc_) 1 97 (38, [some (.inr (.inr (some (6, 0)))), some (.inl c9_), some (.inl is_), some (.inl od_), some (.inl vw_), none, none, none, none, none, none], [], S_) (fun ro9_ => ∃ u_ S1_, ro9_ = (.inl u_, S1_, 0) ∧ vq_97 ll_ S0_ u_ S1_)) ∧ (∀ (c9_ : Int) (is_ : Int) (od_ : Int) (vw_ : Int) (ox_ : Int) (tn_ : Int) (tb_ : Int) (sx_ : Int) (S_ : sm_S), gi S_ → ai_fr (sx_W vw_97) S0_ S_ → ((0 ≤ c9_ ∧ c9_ < 12 ∧ ((is_ = 2 ∧ od_ = 2) ∨ (is_ = 3 ∧ od_ = 6)) ∧ 0 ≤ is_ ∧ is_ ≤ 3 ∧ 0 ≤ vw_ ∧ ((is_ = 2 ∧ vw_ < 8) ∨ (is_ = 3 ∧ vw_ < 48)) ∧ 0 ≤ ox_ ∧ ((is_ = 2 ∧ ox_ ≤ 1) ∨ (is_ = 3 ∧ ox_ ≤ 5)) ∧ 0 ≤ tn_ ∧ tn_ ≤ 7 ∧ 0 ≤ tb_ ∧ tb_ ≤ 255 ∧ 0 ≤ sx_ ∧ sx_ ≤ 8) ∧ True) → ((100000 * (20 - c9_) + 1000 * (60 - vw_) + 20 * (20 - sx_) + 19).toNat) < nn_ → sm_T (mt_P sc_) 1 97 (73, [some (.inr (.inr (some (6, 0)))), some (.inl c9_), some (.inl is_), some (.inl od_), some (.inl vw_), some (.inl ox_), some (.inl tn_), some (.inl tb_), some (.inl sx_), none, none], [], S_) (fun ro9_ => ∃ u_ S1_, ro9_ = (.inl u_, S1_, 0) ∧ vq_97 ll_ S0_ u_ S1_)) ∧ (∀ (c9_ : Int) (is_ : Int) (od_ : Int) (vw_ : Int) (ox_ : Int) (tn_ : Int) (tb_ : Int) (sx_ : Int) (st_ : Int) (k_ : Int) (S_ : sm_S), gi S_ → ai_fr (sx_W vw_97) S0_ S_ → ((0 ≤ c9_ ∧ c9_ < 12 ∧ ((is_ = 2 ∧ od_ = 2) ∨ (is_ = 3 ∧ od_ = 6)) ∧ 0 ≤ is_ ∧ is_ ≤ 3 ∧ 0 ≤ vw_ ∧ ((is_ = 2 ∧ vw_ < 8) ∨ (is_ = 3 ∧ vw_ < 48)) ∧ 0 ≤ ox_ ∧ ((is_ = 2 ∧ ox_ ≤ 1) ∨ (is_ = 3 ∧ ox_ ≤ 5)) ∧ 0 ≤ tn_ ∧ tn_ ≤ 7 ∧ 0 ≤ tb_ ∧ tb_ ≤ 255 ∧ 0 ≤ sx_ ∧ sx_ ≤ 8 ∧ sx_ < 8 ∧ 0 ≤ st_ ∧ st_ ≤ 7 ∧ 0 ≤ k_ ∧ k_ ≤ 3) ∧ True) → ((100000 * (20 - c9_) + 1000 * (60 - vw_) + 20 * (20 - sx_) + 18 - k_).toNat) < nn_ → sm_T (mt_P sc_) 1 97 (88, [some (.inr (.inr (some (6, 0)))), some (.inl c9_), some (.inl is_), some (.inl od_), some (.inl vw_), some (.inl ox_), some (.inl tn_), some (.inl tb_), some (.inl sx_), some (.inl st_), some (.inl k_)], [], S_) (fun ro9_ => ∃ u_ S1_, ro9_ = (.inl u_, S1_, 0) ∧ vq_97 ll_ S0_ u_ S1_)) := by
  intro nn_
  induction nn_ with
  | zero => exact ⟨fun _ _ _ _ _ h_ => absurd h_ (Nat.not_lt_zero _), fun _ _ _ _ _ _ _ _ h_ => absurd h_ (Nat.not_lt_zero _), fun _ _ _ _ _ _ _ _ _ _ _ _ h_ => absurd h_ (Nat.not_lt_zero _), fun _ _ _ _ _ _ _ _ _ _ _ _ _ _ h_ => absurd h_ (Nat.not_lt_zero _)⟩
  | succ nn_ ih_ =>
    refine ⟨?_, ?_, ?_, ?_⟩
    · rintro c9_ S_ hI_ hF_ ⟨h0_, -⟩ hm_
      refine sm_T_go 2 (c1 := (4, [some (.inr (.inr (some (6, 0)))), some (.inl c9_), none, none, none, none, none, none, none, none, none], [.inr (.inr (some (6, 0))), .inl c9_], S_)) rfl ?_
      refine sm_T_gr rfl rfl ((hF_.2.1 6 0 1 rfl).trans hc_) ?_
      have bx1_ : 0 ≤ S_.1 5 ll_ 1 ∧ S_.1 5 ll_ 1 ≤ 12 := hI_.1 5 ll_ 1 rfl
      refine sm_T_go 1 (c1 := (10, [some (.inr (.inr (some (6, 0)))), some (.inl c9_), none, none, none, none, none, none, none, none, none], [.inl (S_.1 5 ll_ 1), .inl c9_], S_)) rfl ?_
      refine sm_T_br (a := 3) (z := 165) rfl (fun cx2_ => ?_) (fun cx2_ => ?_)
      · have cx2_ : (S_.1 5 ll_ 1) ≤ c9_ := of_decide_eq_true cx2_
        refine sm_T_rv rfl ⟨_, _, rfl, rfl, hI_, hF_, ?_⟩
        trivial
      · have cx2_ : ¬ ((S_.1 5 ll_ 1) ≤ c9_) := of_decide_eq_false cx2_
        refine sm_T_go 1 (c1 := (14, [some (.inr (.inr (some (6, 0)))), some (.inl c9_), none, none, none, none, none, none, none, none, none], [.inr (.inr (some (6, 0)))], S_)) rfl ?_
        refine sm_T_gr rfl rfl ((hF_.2.1 6 0 1 rfl).trans hc_) ?_
        refine sm_T_go 2 (c1 := (21, [some (.inr (.inr (some (6, 0)))), some (.inl c9_), none, none, none, none, none, none, none, none, none], [.inl c9_, .inr (.inr (some (55, (0 + ll_))))], S_)) rfl ?_
        refine sm_T_iald (n := 12) rfl rfl (by omega) (by omega) ?_
        have bx3_ : 0 ≤ S_.2.2.1 55 (0 + ll_) c9_.toNat ∧ S_.2.2.1 55 (0 + ll_) c9_.toNat ≤ 3 := hI_.2 55 (0 + ll_) _
        refine sm_T_go 3 (c1 := (25, [some (.inr (.inr (some (6, 0)))), some (.inl c9_), some (.inl (S_.2.2.1 55 (0 + ll_) c9_.toNat)), none, none, none, none, none, none, none, none], [.inl 2, .inl (S_.2.2.1 55 (0 + ll_) c9_.toNat)], S_)) rfl ?_
        refine sm_T_br (a := 1) (z := 7) rfl (fun cx4_ => ?_) (fun cx4_ => ?_)
        · have cx4_ : (S_.2.2.1 55 (0 + ll_) c9_.toNat) ≠ 2 := of_decide_eq_true cx4_
          refine sm_T_go 4 (c1 := (38, [some (.inr (.inr (some (6, 0)))), some (.inl c9_), some (.inl (S_.2.2.1 55 (0 + ll_) c9_.toNat)), some (.inl 6), some (.inl 0), none, none, none, none, none, none], [], S_)) rfl ?_
          refine ih_.2.1 c9_ (S_.2.2.1 55 (0 + ll_) c9_.toNat) 6 0 S_ hI_ hF_ ⟨?_, trivial⟩ ?_
          · omega
          · omega
        · have cx4_ : ¬ ((S_.2.2.1 55 (0 + ll_) c9_.toNat) ≠ 2) := of_decide_eq_false cx4_
          refine sm_T_go 5 (c1 := (38, [some (.inr (.inr (some (6, 0)))), some (.inl c9_), some (.inl (S_.2.2.1 55 (0 + ll_) c9_.toNat)), some (.inl 2), some (.inl 0), none, none, none, none, none, none], [], S_)) rfl ?_
          refine ih_.2.1 c9_ (S_.2.2.1 55 (0 + ll_) c9_.toNat) 2 0 S_ hI_ hF_ ⟨?_, trivial⟩ ?_
          · omega
          · omega
    · rintro c9_ is_ od_ vw_ S_ hI_ hF_ ⟨h0_, -⟩ hm_
      refine sm_T_go 2 (c1 := (40, [some (.inr (.inr (some (6, 0)))), some (.inl c9_), some (.inl is_), some (.inl od_), some (.inl vw_), none, none, none, none, none, none], [.inl 1, .inl is_], S_)) rfl ?_
      refine sm_T_br (a := 5) (z := 129) rfl (fun cx1_ => ?_) (fun cx1_ => ?_)
      · have cx1_ : is_ ≤ 1 := of_decide_eq_true cx1_
        refine sm_T_inc (a := 1) (z := 1) (v := c9_) (w := c9_ + 1) rfl rfl (by omega) (by omega) (by omega) ?_ -- pc_ 169
        refine sm_T_go 1 (c1 := (2, [some (.inr (.inr (some (6, 0)))), some (.inl (c9_ + 1)), some (.inl is_), some (.inl od_), some (.inl vw_), none, none, none, none, none, none], [], S_)) rfl ?_
        refine sm_T_wk [some (.inr (.inr (some (6, 0)))), some (.inl (c9_ + 1)), none, none, none, none, none, none, none, none, none] (by exact ⟨rfl, rfl, trivial⟩) ?_
        refine ih_.1 (c9_ + 1) S_ hI_ hF_ ⟨?_, trivial⟩ ?_
        · omega
        · omega
      · have cx1_ : ¬ (is_ ≤ 1) := of_decide_eq_false cx1_
        have vp9_ := vpw (e_ := is_) (by omega)
        refine sm_T_go 3 (c1 := (47, [some (.inr (.inr (some (6, 0)))), some (.inl c9_), some (.inl is_), some (.inl od_), some (.inl vw_), none, none, none, none, none, none], [.inl is_, .inl od_, .inl vw_], S_)) rfl ?_
        refine sm_T_bin (w := (i_shl od_ is_)) rfl rfl ?_ -- pc_ 47
        have bx2_ : i_shl od_ is_ = 8 ∨ i_shl od_ is_ = 48 := by (rcases vp9_ with u9_ | u9_; (have w9_ : od_ = 2 := (by omega); rw [w9_]; left; exact u9_.2.2); (have w9_ : od_ = 6 := (by omega); rw [w9_]; right; exact u9_.2.2))
        have od9_ : (is_ = 2 ∧ i_shl od_ is_ = 8) ∨ (is_ = 3 ∧ i_shl od_ is_ = 48) := by (rcases vp9_ with u9_ | u9_; (have w9_ : od_ = 2 := (by omega); rw [w9_]; left; exact ⟨u9_.1, u9_.2.2⟩); (have w9_ : od_ = 6 := (by omega); rw [w9_]; right; exact ⟨u9_.1, u9_.2.2⟩))
        refine sm_T_br (a := 3) (z := 121) rfl (fun cx4_ => ?_) (fun cx4_ => ?_)
        · have cx4_ : (i_shl od_ is_) ≤ vw_ := of_decide_eq_true cx4_
          refine sm_T_inc (a := 1) (z := 1) (v := c9_) (w := c9_ + 1) rfl rfl (by omega) (by omega) (by omega) ?_ -- pc_ 169
          refine sm_T_go 1 (c1 := (2, [some (.inr (.inr (some (6, 0)))), some (.inl (c9_ + 1)), some (.inl is_), some (.inl od_), some (.inl vw_), none, none, none, none, none, none], [], S_)) rfl ?_
          refine sm_T_wk [some (.inr (.inr (some (6, 0)))), some (.inl (c9_ + 1)), none, none, none, none, none, none, none, none, none] (by exact ⟨rfl, rfl, trivial⟩) ?_
          refine ih_.1 (c9_ + 1) S_ hI_ hF_ ⟨?_, trivial⟩ ?_
          · omega
          · omega
        · have cx4_ : ¬ ((i_shl od_ is_) ≤ vw_) := of_decide_eq_false cx4_
          have vo9_ := vor (v_ := vw_) (e_ := is_) (by omega) (by omega)
          refine sm_T_go 2 (c1 := (54, [some (.inr (.inr (some (6, 0)))), some (.inl c9_), some (.inl is_), some (.inl od_), some (.inl vw_), none, none, none, none, none, none], [.inl is_, .inl vw_], S_)) rfl ?_
          refine sm_T_bin (w := (i_shr vw_ is_)) rfl rfl ?_ -- pc_ 54
          refine sm_T_go 4 (c1 := (61, [some (.inr (.inr (some (6, 0)))), some (.inl c9_), some (.inl is_), some (.inl od_), some (.inl vw_), some (.inl (i_shr vw_ is_)), none, none, none, none, none], [.inl is_, .inl 1, .inl vw_], S_)) rfl ?_
          refine sm_T_bin (w := (i_shl 1 is_)) rfl rfl ?_ -- pc_ 61
          refine sm_T_go 1 (c1 := (63, [some (.inr (.inr (some (6, 0)))), some (.inl c9_), some (.inl is_), some (.inl od_), some (.inl vw_), some (.inl (i_shr vw_ is_)), none, none, none, none, none], [.inl 1, .inl (i_shl 1 is_), .inl vw_], S_)) rfl ?_
          refine sm_T_bin (w := (i_shl 1 is_) - 1) rfl (bi_sub (by omega) (by omega) (by omega)) ?_ -- pc_ 63
          refine sm_T_bin (w := (i_and vw_ ((i_shl 1 is_) - 1))) rfl rfl ?_ -- pc_ 64
          have bx5_ := i_and_y vw_ (y_ := ((i_shl 1 is_) - 1)) (by omega)
          refine sm_T_go 5 (c1 := (73, [some (.inr (.inr (some (6, 0)))), some (.inl c9_), some (.inl is_), some (.inl od_), some (.inl vw_), some (.inl (i_shr vw_ is_)), some (.inl (i_and vw_ ((i_shl 1 is_) - 1))), some (.inl 0), some (.inl 0), none, none], [], S_)) rfl ?_
          refine ih_.2.2.1 c9_ is_ od_ vw_ (i_shr vw_ is_) (i_and vw_ ((i_shl 1 is_) - 1)) 0 0 S_ hI_ hF_ ⟨?_, trivial⟩ ?_
          · omega
          · omega
    · rintro c9_ is_ od_ vw_ ox_ tn_ tb_ sx_ S_ hI_ hF_ ⟨h0_, -⟩ hm_
      refine sm_T_go 3 (c1 := (77, [some (.inr (.inr (some (6, 0)))), some (.inl c9_), some (.inl is_), some (.inl od_), some (.inl vw_), some (.inl ox_), some (.inl tn_), some (.inl tb_), some (.inl sx_), none, none], [.inl is_, .inl 1, .inl sx_], S_)) rfl ?_
      refine sm_T_bin (w := (i_shl 1 is_)) rfl rfl ?_ -- pc_ 77
      have vq9_ := vpw (e_ := is_) (by omega)
      refine sm_T_br (a := 3) (z := 71) rfl (fun cx2_ => ?_) (fun cx2_ => ?_)
      · have cx2_ : (i_shl 1 is_) ≤ sx_ := of_decide_eq_true cx2_
        refine sm_T_go 4 (c1 := (156, [some (.inr (.inr (some (6, 0)))), some (.inl c9_), some (.inl is_), some (.inl od_), some (.inl vw_), some (.inl ox_), some (.inl tn_), some (.inl tb_), some (.inl sx_), none, none], [.inl 48, .inl c9_, .inr (.inr (some (69, 0)))], S_)) rfl ?_
        refine sm_T_bin (w := 48 * c9_) rfl (bi_mul (by omega) (by omega) (by omega)) ?_ -- pc_ 156
        refine sm_T_go 1 (c1 := (159, [some (.inr (.inr (some (6, 0)))), some (.inl c9_), some (.inl is_), some (.inl od_), some (.inl vw_), some (.inl ox_), some (.inl tn_), some (.inl tb_), some (.inl sx_), none, none], [.inl vw_, .inl (48 * c9_), .inr (.inr (some (69, 0)))], S_)) rfl ?_
        refine sm_T_bin (w := 48 * c9_ + vw_) rfl (bi_add (by omega) (by omega) (by omega)) ?_ -- pc_ 159
        refine sm_T_go 1 (c1 := (162, [some (.inr (.inr (some (6, 0)))), some (.inl c9_), some (.inl is_), some (.inl od_), some (.inl vw_), some (.inl ox_), some (.inl tn_), some (.inl tb_), some (.inl sx_), none, none], [.inl tb_, .inl (48 * c9_ + vw_), .inr (.inr (some (69, 0)))], S_)) rfl ?_
        refine sm_T_iast (n := 576) rfl rfl (by omega) (by omega) ?_
        have hIx3_ : gi (sm_aI S_ 69 0 (48 * c9_ + vw_).toNat tb_) := gi_aI hI_ (show 0 ≤ tb_ ∧ tb_ ≤ 255 from ⟨by omega, by omega⟩)
        have hFx4_ : ai_fr (sx_W vw_97) S0_ (sm_aI S_ 69 0 (48 * c9_ + vw_).toNat tb_) := ai_fr_tr hF_ (ai_fr_aI rfl)
        refine sm_T_inc (a := 4) (z := 1) (v := vw_) (w := vw_ + 1) rfl rfl (by omega) (by omega) (by omega) ?_ -- pc_ 163
        refine sm_T_go 1 (c1 := (38, [some (.inr (.inr (some (6, 0)))), some (.inl c9_), some (.inl is_), some (.inl od_), some (.inl (vw_ + 1)), some (.inl ox_), some (.inl tn_), some (.inl tb_), some (.inl sx_), none, none], [], sm_aI S_ 69 0 (48 * c9_ + vw_).toNat tb_)) rfl ?_
        refine sm_T_wk [some (.inr (.inr (some (6, 0)))), some (.inl c9_), some (.inl is_), some (.inl od_), some (.inl (vw_ + 1)), none, none, none, none, none, none] (by exact ⟨rfl, rfl, rfl, rfl, rfl, trivial⟩) ?_
        refine ih_.2.1 c9_ is_ od_ (vw_ + 1) (sm_aI S_ 69 0 (48 * c9_ + vw_).toNat tb_) hIx3_ hFx4_ ⟨?_, trivial⟩ ?_
        · omega
        · omega
      · have cx2_ : ¬ ((i_shl 1 is_) ≤ sx_) := of_decide_eq_false cx2_
        refine sm_T_go 4 (c1 := (88, [some (.inr (.inr (some (6, 0)))), some (.inl c9_), some (.inl is_), some (.inl od_), some (.inl vw_), some (.inl ox_), some (.inl tn_), some (.inl tb_), some (.inl sx_), some (.inl tn_), some (.inl 0)], [], S_)) rfl ?_
        refine ih_.2.2.2 c9_ is_ od_ vw_ ox_ tn_ tb_ sx_ tn_ 0 S_ hI_ hF_ ⟨?_, trivial⟩ ?_
        · omega
        · omega
    · rintro c9_ is_ od_ vw_ ox_ tn_ tb_ sx_ st_ k_ S_ hI_ hF_ ⟨h0_, -⟩ hm_
      refine sm_T_go 2 (c1 := (91, [some (.inr (.inr (some (6, 0)))), some (.inl c9_), some (.inl is_), some (.inl od_), some (.inl vw_), some (.inl ox_), some (.inl tn_), some (.inl tb_), some (.inl sx_), some (.inl st_), some (.inl k_)], [.inl is_, .inl k_], S_)) rfl ?_
      refine sm_T_br (a := 3) (z := 30) rfl (fun cx1_ => ?_) (fun cx1_ => ?_)
      · have cx1_ : is_ ≤ k_ := of_decide_eq_true cx1_
        refine sm_T_go 2 (c1 := (124, [some (.inr (.inr (some (6, 0)))), some (.inl c9_), some (.inl is_), some (.inl od_), some (.inl vw_), some (.inl ox_), some (.inl tn_), some (.inl tb_), some (.inl sx_), some (.inl st_), some (.inl k_)], [.inr (.inr (some (6, 0))), .inl tb_], S_)) rfl ?_
        refine sm_T_gr rfl rfl ((hF_.2.1 6 0 1 rfl).trans hc_) ?_
        refine sm_T_go 2 (c1 := (131, [some (.inr (.inr (some (6, 0)))), some (.inl c9_), some (.inl is_), some (.inl od_), some (.inl vw_), some (.inl ox_), some (.inl tn_), some (.inl tb_), some (.inl sx_), some (.inl st_), some (.inl k_)], [.inl c9_, .inr (.inr (some (56, (0 + ll_)))), .inl tb_], S_)) rfl ?_
        refine sm_T_iald (n := 12) rfl rfl (by omega) (by omega) ?_
        have bx2_ : 0 ≤ S_.2.2.1 56 (0 + ll_) c9_.toNat ∧ S_.2.2.1 56 (0 + ll_) c9_.toNat ≤ 255 := hI_.2 56 (0 + ll_) _
        refine sm_T_go 1 (c1 := (134, [some (.inr (.inr (some (6, 0)))), some (.inl c9_), some (.inl is_), some (.inl od_), some (.inl vw_), some (.inl ox_), some (.inl tn_), some (.inl tb_), some (.inl sx_), some (.inl st_), some (.inl k_)], [.inl st_, .inl (S_.2.2.1 56 (0 + ll_) c9_.toNat), .inl tb_], S_)) rfl ?_
        refine sm_T_bin (w := (i_shr (S_.2.2.1 56 (0 + ll_) c9_.toNat) st_)) rfl rfl ?_ -- pc_ 134
        have bx3_ := i_shr_p (x_ := (S_.2.2.1 56 (0 + ll_) c9_.toNat)) (e_ := st_) (by omega) (by omega) (by omega)
        refine sm_T_go 1 (c1 := (136, [some (.inr (.inr (some (6, 0)))), some (.inl c9_), some (.inl is_), some (.inl od_), some (.inl vw_), some (.inl ox_), some (.inl tn_), some (.inl tb_), some (.inl sx_), some (.inl st_), some (.inl k_)], [.inl 1, .inl (i_shr (S_.2.2.1 56 (0 + ll_) c9_.toNat) st_), .inl tb_], S_)) rfl ?_
        refine sm_T_bin (w := ((i_shr (S_.2.2.1 56 (0 + ll_) c9_.toNat) st_) % 2)) rfl (bi_msk (k := 1) (by decide)) ?_ -- pc_ 136
        refine sm_T_go 1 (c1 := (139, [some (.inr (.inr (some (6, 0)))), some (.inl c9_), some (.inl is_), some (.inl od_), some (.inl vw_), some (.inl ox_), some (.inl tn_), some (.inl tb_), some (.inl sx_), some (.inl st_), some (.inl k_)], [.inl sx_, .inl ((i_shr (S_.2.2.1 56 (0 + ll_) c9_.toNat) st_) % 2), .inl tb_], S_)) rfl ?_
        refine sm_T_bin (w := (i_shl ((i_shr (S_.2.2.1 56 (0 + ll_) c9_.toNat) st_) % 2) sx_)) rfl rfl ?_ -- pc_ 139
        have bx4_ := bsh (x_ := ((i_shr (S_.2.2.1 56 (0 + ll_) c9_.toNat) st_) % 2)) (e_ := sx_) (k_ := 8) (by omega) (by omega) (by omega) (by decide)
        refine sm_T_bin (w := (i_or tb_ (i_shl ((i_shr (S_.2.2.1 56 (0 + ll_) c9_.toNat) st_) % 2) sx_))) rfl rfl ?_ -- pc_ 140
        have bx5_ := i_orp (x_ := tb_) (y_ := (i_shl ((i_shr (S_.2.2.1 56 (0 + ll_) c9_.toNat) st_) % 2) sx_)) (k_ := 8) (by decide) (by omega) (by omega)
        refine sm_T_go 1 (c1 := (143, [some (.inr (.inr (some (6, 0)))), some (.inl c9_), some (.inl is_), some (.inl od_), some (.inl vw_), some (.inl ox_), some (.inl tn_), some (.inl (i_or tb_ (i_shl ((i_shr (S_.2.2.1 56 (0 + ll_) c9_.toNat) st_) % 2) sx_))), some (.inl sx_), some (.inl st_), some (.inl k_)], [], S_)) rfl ?_
        refine sm_T_inc (a := 8) (z := 1) (v := sx_) (w := sx_ + 1) rfl rfl (by omega) (by omega) (by omega) ?_ -- pc_ 143
        refine sm_T_go 1 (c1 := (73, [some (.inr (.inr (some (6, 0)))), some (.inl c9_), some (.inl is_), some (.inl od_), some (.inl vw_), some (.inl ox_), some (.inl tn_), some (.inl (i_or tb_ (i_shl ((i_shr (S_.2.2.1 56 (0 + ll_) c9_.toNat) st_) % 2) sx_))), some (.inl (sx_ + 1)), some (.inl st_), some (.inl k_)], [], S_)) rfl ?_
        refine sm_T_wk [some (.inr (.inr (some (6, 0)))), some (.inl c9_), some (.inl is_), some (.inl od_), some (.inl vw_), some (.inl ox_), some (.inl tn_), some (.inl (i_or tb_ (i_shl ((i_shr (S_.2.2.1 56 (0 + ll_) c9_.toNat) st_) % 2) sx_))), some (.inl (sx_ + 1)), none, none] (by exact ⟨rfl, rfl, rfl, rfl, rfl, rfl, rfl, rfl, rfl, trivial⟩) ?_
        refine ih_.2.2.1 c9_ is_ od_ vw_ ox_ tn_ (i_or tb_ (i_shl ((i_shr (S_.2.2.1 56 (0 + ll_) c9_.toNat) st_) % 2) sx_)) (sx_ + 1) S_ hI_ hF_ ⟨?_, trivial⟩ ?_
        · omega
        · omega
      · have cx1_ : ¬ (is_ ≤ k_) := of_decide_eq_false cx1_
        refine sm_T_go 5 (c1 := (103, [some (.inr (.inr (some (6, 0)))), some (.inl c9_), some (.inl is_), some (.inl od_), some (.inl vw_), some (.inl ox_), some (.inl tn_), some (.inl tb_), some (.inl sx_), some (.inl st_), some (.inl k_)], [.inl k_, .inl ox_, .inl is_, .inl sx_, .inl st_], S_)) rfl ?_
        refine sm_T_cal (d1 := 0) (Q1 := vq_98 is_ ox_ k_ S_) rfl rfl (by decide) (vc_98 is_ ox_ k_ S_ hI_ (by omega)) (fun u_ Sx6_ px9_ => ?_)
        obtain ⟨rfl, vx11_, rfl, px9_⟩ := px9_
        have pl9_ := px9_.1
        refine sm_T_bin (w := (i_shr sx_ vx11_)) rfl rfl ?_ -- pc_ 106
        have bx12_ := i_shr_p (x_ := sx_) (e_ := vx11_) (by omega) (by omega) (by omega)
        refine sm_T_go 1 (c1 := (108, [some (.inr (.inr (some (6, 0)))), some (.inl c9_), some (.inl is_), some (.inl od_), some (.inl vw_), some (.inl ox_), some (.inl tn_), some (.inl tb_), some (.inl sx_), some (.inl st_), some (.inl k_)], [.inl 1, .inl (i_shr sx_ vx11_), .inl st_], S_)) rfl ?_
        refine sm_T_bin (w := ((i_shr sx_ vx11_) % 2)) rfl (bi_msk (k := 1) (by decide)) ?_ -- pc_ 108
        refine sm_T_go 1 (c1 := (111, [some (.inr (.inr (some (6, 0)))), some (.inl c9_), some (.inl is_), some (.inl od_), some (.inl vw_), some (.inl ox_), some (.inl tn_), some (.inl tb_), some (.inl sx_), some (.inl st_), some (.inl k_)], [.inl k_, .inl ((i_shr sx_ vx11_) % 2), .inl st_], S_)) rfl ?_
        refine sm_T_bin (w := (i_shl ((i_shr sx_ vx11_) % 2) k_)) rfl rfl ?_ -- pc_ 111
        have bx13_ := vsh (x_ := ((i_shr sx_ vx11_) % 2)) (k_ := k_) (by omega) (by omega)
        refine sm_T_bin (w := (i_xor st_ (i_shl ((i_shr sx_ vx11_) % 2) k_))) rfl rfl ?_ -- pc_ 112
        have bx14_ := i_xrp (x_ := st_) (y_ := (i_shl ((i_shr sx_ vx11_) % 2) k_)) (k_ := 3) (by decide) (by omega) (by omega)
        refine sm_T_go 1 (c1 := (115, [some (.inr (.inr (some (6, 0)))), some (.inl c9_), some (.inl is_), some (.inl od_), some (.inl vw_), some (.inl ox_), some (.inl tn_), some (.inl tb_), some (.inl sx_), some (.inl (i_xor st_ (i_shl ((i_shr sx_ vx11_) % 2) k_))), some (.inl k_)], [], S_)) rfl ?_
        refine sm_T_inc (a := 10) (z := 1) (v := k_) (w := k_ + 1) rfl rfl (by omega) (by omega) (by omega) ?_ -- pc_ 115
        refine sm_T_go 1 (c1 := (88, [some (.inr (.inr (some (6, 0)))), some (.inl c9_), some (.inl is_), some (.inl od_), some (.inl vw_), some (.inl ox_), some (.inl tn_), some (.inl tb_), some (.inl sx_), some (.inl (i_xor st_ (i_shl ((i_shr sx_ vx11_) % 2) k_))), some (.inl (k_ + 1))], [], S_)) rfl ?_
        refine ih_.2.2.2 c9_ is_ od_ vw_ ox_ tn_ tb_ sx_ (i_xor st_ (i_shl ((i_shr sx_ vx11_) % 2) k_)) (k_ + 1) S_ hI_ hF_ ⟨?_, trivial⟩ ?_
        · omega
        · omega
set_option maxHeartbeats 3000000 in
set_option maxRecDepth 20000 in
theorem vc_97 {sc_ : Nat × (Nat → Int)} (ll_ : Nat) (S0_ : sm_S) (hI_ : gi S0_) (hc_ : S0_.2.1 6 0 1 = some ll_) : sm_T (mt_P sc_) 1 97 (0, [some (.inr (.inr (some (6, 0)))), none, none, none, none, none, none, none, none, none, none], [], S0_) (fun ro9_ => ∃ u_ S1_, ro9_ = (.inl u_, S1_, 0) ∧ vq_97 ll_ S0_ u_ S1_) := by
  have hF_ : ai_fr (sx_W vw_97) S0_ S0_ := ai_fr_rf
  refine sm_T_go 2 (c1 := (2, [some (.inr (.inr (some (6, 0)))), some (.inl 0), none, none, none, none, none, none, none, none, none], [], S0_)) rfl ?_
  refine (vl_97 ll_ S0_ hc_ _).1 0 S0_ hI_ hF_ ⟨?_, trivial⟩ (Nat.lt_succ_self _)
  · omega
end
/-! 99.zn6a -/
section
/-! ways of making a literal; written by wip/p55/gen/vg -/

/-! ways of_ making a_ literal -/
theorem tbit {v_ e_ k_ : Int} (hv_ : 0 ≤ v_ ∧ v_ < 48) (he_ : e_ = 2 ∨ e_ = 3) (hk_ : 0 ≤ k_ ∧ k_ < e_) : i_shr (i_and v_ (i_shl 1 e_ - 1)) k_ % 2 = i_shr v_ k_ % 2 := by
  have c2_ : ∀ j_ : Fin 48, ∀ i_ : Fin 2, i_shr (i_and ((j_.val : Nat) : Int) (i_shl 1 2 - 1)) ((i_.val : Nat) : Int) % 2 = i_shr ((j_.val : Nat) : Int) ((i_.val : Nat) : Int) % 2 := by decide +kernel
  have c3_ : ∀ j_ : Fin 48, ∀ i_ : Fin 3, i_shr (i_and ((j_.val : Nat) : Int) (i_shl 1 3 - 1)) ((i_.val : Nat) : Int) % 2 = i_shr ((j_.val : Nat) : Int) ((i_.val : Nat) : Int) % 2 := by decide +kernel
  have hv1_ : ((v_.toNat : Nat) : Int) = v_ := by omega
  have hk1_ : ((k_.toNat : Nat) : Int) = k_ := by omega
  rcases he_ with he_ | he_
  · have q_ := c2_ ⟨v_.toNat, by omega⟩ ⟨k_.toNat, by omega⟩
    simp only [hv1_, hk1_] at q_
    rw [he_]; exact q_
  · have q_ := c3_ ⟨v_.toNat, by omega⟩ ⟨k_.toNat, by omega⟩
    simp only [hv1_, hk1_] at q_
    rw [he_]; exact q_
theorem mcs_b {P_ : Int → Prop} {S_ : sm_S} (g_ : mcs P_ S_) {i_ k_ : Int} (hi_ : 0 ≤ i_ ∧ i_ < S_.1 6 0 11) (hk_ : 0 ≤ k_ ∧ k_ ≤ 2) (hn_ : k_ = 2 → S_.2.2.1 65 0 (3 * i_ + 2).toNat ≠ -1) : P_ (S_.2.2.1 65 0 (3 * i_ + k_).toNat) := by
  have q_ := g_ i_.toNat (by omega)
  have c_ : k_ = 0 ∨ k_ = 1 ∨ k_ = 2 := by omega
  rcases c_ with c_ | c_ | c_
  · rw [show (3 * i_ + k_).toNat = 3 * i_.toNat by omega]; exact q_.1
  · rw [show (3 * i_ + k_).toNat = 3 * i_.toNat + 1 by omega]; exact q_.2.1
  · have w_ := hn_ c_
    rw [show (3 * i_ + 2).toNat = 3 * i_.toNat + 2 by omega] at w_
    rw [show (3 * i_ + k_).toNat = 3 * i_.toNat + 2 by omega]
    exact q_.2.2.resolve_left w_
/-- a_ part may_ be_ made: node x_, turned or not; inverter iv_ -/
def wpt (F_ n_ iv_ : Int) (u_ r_ need : Nat → Int) (x_ t_ : Int) : Prop := npd n_ u_ x_ ∧ imq ((x_ < F_ ∨ r_ x_.toNat ≠ 0) ∧ t_ ≠ 0) (iv_ ≠ -1) ∧ imq (F_ ≤ x_ ∧ r_ x_.toNat = 0) (need (2 * x_ + t_).toNat < 268435456)
/-- a_ literal has_ no_ way_, or a_ cell with its_ parts -/
def wo3 (F_ n_ : Int) (ll_ : Nat) (S_ : sm_S) (l_ : Nat) : Prop := (S_.2.2.1 62 0 l_ = -1 ∧ S_.2.2.1 61 0 l_ = 268435456) ∨ (0 ≤ S_.2.2.1 62 0 l_ ∧ S_.2.2.1 61 0 l_ < 268435456 ∧ ∀ k_ : Nat, (k_ : Int) < S_.2.2.1 55 (0 + ll_) (S_.2.2.1 62 0 l_).toNat → wpt F_ n_ (S_.1 5 ll_ 2) (S_.2.2.1 59 0) (S_.2.2.1 60 0) (S_.2.2.1 61 0) (S_.2.2.1 64 0 (3 * l_ + k_)) (i_shr (S_.2.2.1 63 0 l_) (k_ : Int) % 2))
/-- only literal l_ has_ changed -/
def wfl (l_ : Nat) (S_ S'_ : sm_S) : Prop := (∀ j_, j_ ≠ l_ → S'_.2.2.1 61 0 j_ = S_.2.2.1 61 0 j_ ∧ S'_.2.2.1 62 0 j_ = S_.2.2.1 62 0 j_ ∧ S'_.2.2.1 63 0 j_ = S_.2.2.1 63 0 j_) ∧ ∀ j_, (j_ < 3 * l_ ∨ 3 * l_ + 3 ≤ j_) → S'_.2.2.1 64 0 j_ = S_.2.2.1 64 0 j_
theorem wfl_rf {l_ : Nat} {S_ : sm_S} : wfl l_ S_ S_ := ⟨fun _ _ => ⟨rfl, rfl, rfl⟩, fun _ _ => rfl⟩
theorem wfl_tr {l_ : Nat} {S_ S'_ S2_ : sm_S} (h_ : wfl l_ S_ S'_) (g_ : wfl l_ S'_ S2_) : wfl l_ S_ S2_ := ⟨fun j_ hj_ => ⟨(g_.1 j_ hj_).1.trans (h_.1 j_ hj_).1, (g_.1 j_ hj_).2.1.trans (h_.1 j_ hj_).2.1, (g_.1 j_ hj_).2.2.trans (h_.1 j_ hj_).2.2⟩, fun j_ hj_ => (g_.2 j_ hj_).trans (h_.2 j_ hj_)⟩
theorem wpt_cg {F_ n_ iv_ : Int} {u_ r_ f_ g_ : Nat → Int} {x_ t_ : Int} (h_ : wpt F_ n_ iv_ u_ r_ f_ x_ t_) (ht_ : 0 ≤ t_ ∧ t_ ≤ 1) (e_ : ∀ j_ : Nat, (j_ : Int) < 2 * n_ → g_ j_ = f_ j_) : wpt F_ n_ iv_ u_ r_ g_ x_ t_ := by
  obtain ⟨a_, b_, c_⟩ := h_
  refine ⟨a_, b_, fun q_ => ?_⟩
  have a1_ := a_.1
  have a2_ := a_.2.1
  rw [e_ _ (by omega)]
  exact c_ q_
/-- another literal's way_ stays -/
theorem wo3_cg {F_ n_ : Int} {ll_ l_ m_ : Nat} {S_ S'_ : sm_S} (h_ : wo3 F_ n_ ll_ S_ l_) (g_ : wfl m_ S_ S'_) (ne_ : l_ ≠ m_) (hm_ : 2 * n_ ≤ (m_ : Int)) (e5_ : S'_.1 5 ll_ 2 = S_.1 5 ll_ 2) (e55_ : S'_.2.2.1 55 (0 + ll_) = S_.2.2.1 55 (0 + ll_)) (e59_ : S'_.2.2.1 59 0 = S_.2.2.1 59 0) (e60_ : S'_.2.2.1 60 0 = S_.2.2.1 60 0) (c55_ : ∀ k_, S_.2.2.1 55 (0 + ll_) k_ ≤ 3) : wo3 F_ n_ ll_ S'_ l_ := by
  unfold wo3
  rw [(g_.1 l_ ne_).1, (g_.1 l_ ne_).2.1, (g_.1 l_ ne_).2.2, e5_, e55_, e59_, e60_]
  rcases h_ with h_ | h_
  · exact Or.inl h_
  · refine Or.inr ⟨h_.1, h_.2.1, fun k_ hk_ => ?_⟩
    have w_ := c55_ (S_.2.2.1 62 0 l_).toNat
    rw [g_.2 (3 * l_ + k_) (by omega)]
    exact wpt_cg (h_.2.2 k_ hk_) (by omega) (fun j_ hj_ => (g_.1 j_ (by omega)).1)
/-! Mapper.offer -/
def vw_108 : sx_Wl := ([], [61, 62, 63, 64], [])
def vq_108 (a1_ : Int) (a2_ : Int) (a3_ : Int) (a4_ : Int) (dd_ : Nat) (ll_ : Nat) (n9_ : Int) (S0_ : sm_S) (u_ : Option sm_V) (S1_ : sm_S) : Prop := u_ = none ∧ gi S1_ ∧ ai_fr (sx_W vw_108) S0_ S1_ ∧ (wo3 (1 + S0_.1 3 dd_ 1 + S0_.1 3 dd_ 2) n9_ ll_ S1_ a1_.toNat ∧ wfl a1_.toNat S0_ S1_)
set_option maxHeartbeats 3000000 in
set_option maxRecDepth 20000 in
theorem vl_108 {sc_ : Nat × (Nat → Int)} (a1_ : Int) (a2_ : Int) (a3_ : Int) (a4_ : Int) (dd_ : Nat) (ll_ : Nat) (n9_ : Int) (S0_ : sm_S) (hd_ : S0_.2.1 6 0 0 = some dd_) (hc_ : S0_.2.1 6 0 1 = some ll_) (h1_ : (a1_ = 2 * n9_ ∨ a1_ = 2 * n9_ + 1) ∧ 1 ≤ n9_ ∧ n9_ ≤ 1012) (h2_ : 0 ≤ a2_ ∧ a2_ ≤ 11) (h3_ : 0 ≤ a3_ ∧ a3_ < S0_.1 6 0 11) (his_ : ((S0_.2.2.1 55 (0 + ll_) a2_.toNat) = 2 ∧ 0 ≤ a4_ ∧ a4_ < 8) ∨ ((S0_.2.2.1 55 (0 + ll_) a2_.toNat) = 3 ∧ 0 ≤ a4_ ∧ a4_ < 48 ∧ S0_.2.2.1 65 0 (3 * a3_ + 2).toNat ≠ -1)) (hcs_ : mcs (npd n9_ (S0_.2.2.1 59 0)) S0_) (hw_ : wo3 (1 + S0_.1 3 dd_ 1 + S0_.1 3 dd_ 2) n9_ ll_ S0_ a1_.toNat) : ∀ nn_ : Nat, (∀ (is_ : Int) (co_ : Int) (k_ : Int) (S_ : sm_S), gi S_ → ai_fr (sx_W vw_108) S0_ S_ → ((is_ = (S0_.2.2.1 55 (0 + ll_) a2_.toNat) ∧ 0 ≤ co_ ∧ co_ ≤ 268435456 ∧ 0 ≤ k_ ∧ k_ ≤ is_) ∧ (S_ = S0_) ∧ (co_ < 268435456 → ∀ j_ : Nat, (j_ : Int) < k_ → wpt (1 + S0_.1 3 dd_ 1 + S0_.1 3 dd_ 2) n9_ (S0_.1 5 ll_ 2) (S0_.2.2.1 59 0) (S0_.2.2.1 60 0) (S0_.2.2.1 61 0) (S0_.2.2.1 65 0 (3 * a3_ + plo (S0_.2.2.1 55 (0 + ll_) a2_.toNat) (i_shr a4_ (S0_.2.2.1 55 (0 + ll_) a2_.toNat)) (j_ : Int)).toNat) (i_shr a4_ (j_ : Int) % 2)) ∧ True) → ((1000 - k_).toNat) < nn_ → sm_T (mt_P sc_) 2 108 (25, [some (.inr (.inr (some (6, 0)))), some (.inl a1_), some (.inl a2_), some (.inl a3_), some (.inl a4_), some (.inl is_), some (.inl co_), some (.inl k_), none, none], [], S_) (fun ro9_ => ∃ u_ S1_, ro9_ = (.inl u_, S1_, 0) ∧ vq_108 a1_ a2_ a3_ a4_ dd_ ll_ n9_ S0_ u_ S1_)) ∧ (∀ (is_ : Int) (co_ : Int) (k_ : Int) (S_ : sm_S), gi S_ → ai_fr (sx_W vw_108) S0_ S_ → ((is_ = (S0_.2.2.1 55 (0 + ll_) a2_.toNat) ∧ 0 ≤ k_ ∧ k_ ≤ is_ ∧ 0 ≤ co_ ∧ co_ < 268435456) ∧ (∀ j_ : Nat, (j_ : Int) < is_ → wpt (1 + S0_.1 3 dd_ 1 + S0_.1 3 dd_ 2) n9_ (S0_.1 5 ll_ 2) (S0_.2.2.1 59 0) (S0_.2.2.1 60 0) (S0_.2.2.1 61 0) (S0_.2.2.1 65 0 (3 * a3_ + plo (S0_.2.2.1 55 (0 + ll_) a2_.toNat) (i_shr a4_ (S0_.2.2.1 55 (0 + ll_) a2_.toNat)) (j_ : Int)).toNat) (i_shr a4_ (j_ : Int) % 2)) ∧ (S_.2.2.1 61 0 a1_.toNat = co_ ∧ S_.2.2.1 62 0 a1_.toNat = a2_ ∧ S_.2.2.1 63 0 a1_.toNat = i_and a4_ (i_shl 1 is_ - 1)) ∧ (wfl a1_.toNat S0_ S_) ∧ (∀ j_ : Nat, (j_ : Int) < k_ → S_.2.2.1 64 0 (3 * a1_.toNat + j_) = (S0_.2.2.1 65 0 (3 * a3_ + plo (S0_.2.2.1 55 (0 + ll_) a2_.toNat) (i_shr a4_ (S0_.2.2.1 55 (0 + ll_) a2_.toNat)) (j_ : Int)).toNat)) ∧ True) → ((100 - k_).toNat) < nn_ → sm_T (mt_P sc_) 2 108 (193, [some (.inr (.inr (some (6, 0)))), some (.inl a1_), some (.inl a2_), some (.inl a3_), some (.inl a4_), some (.inl is_), some (.inl co_), some (.inl k_), none, none], [], S_) (fun ro9_ => ∃ u_ S1_, ro9_ = (.inl u_, S1_, 0) ∧ vq_108 a1_ a2_ a3_ a4_ dd_ ll_ n9_ S0_ u_ S1_)) := by
  intro nn_
  induction nn_ with
  | zero => exact ⟨fun _ _ _ _ _ _ _ h_ => absurd h_ (Nat.not_lt_zero _), fun _ _ _ _ _ _ _ h_ => absurd h_ (Nat.not_lt_zero _)⟩
  | succ nn_ ih_ =>
    refine ⟨?_, ?_⟩
    · rintro is_ co_ k_ S_ hI_ hF_ ⟨h0_, hS_, hp_, -⟩ hm_
      have f55_ : S_.2.2.1 55 (0 + ll_) = S0_.2.2.1 55 (0 + ll_) := fr_arr hF_ rfl
      have f65_ : S_.2.2.1 65 0 = S0_.2.2.1 65 0 := fr_arr hF_ rfl
      have f60_ : S_.2.2.1 60 0 = S0_.2.2.1 60 0 := fr_arr hF_ rfl
      have f1_ : S_.1 3 dd_ 1 = S0_.1 3 dd_ 1 := hF_.1 3 dd_ 1 rfl
      have f2_ : S_.1 3 dd_ 2 = S0_.1 3 dd_ 2 := hF_.1 3 dd_ 2 rfl
      have f5_ : S_.1 5 ll_ 2 = S0_.1 5 ll_ 2 := hF_.1 5 ll_ 2 rfl
      have ck_ : 0 ≤ S_.1 6 0 11 ∧ S_.1 6 0 11 ≤ 1024 := hI_.1 6 0 11 rfl
      have ek_ : S_.1 6 0 11 = S0_.1 6 0 11 := by rw [hS_]
      refine sm_T_go 2 (c1 := (29, [some (.inr (.inr (some (6, 0)))), some (.inl a1_), some (.inl a2_), some (.inl a3_), some (.inl a4_), some (.inl is_), some (.inl co_), some (.inl k_), none, none], [.inl is_, .inl k_], S_)) rfl ?_
      refine sm_T_br (a := 3) (z := 120) rfl (fun cx1_ => ?_) (fun cx1_ => ?_)
      · have cx1_ : is_ ≤ k_ := of_decide_eq_true cx1_
        refine sm_T_go 4 (c1 := (156, [some (.inr (.inr (some (6, 0)))), some (.inl a1_), some (.inl a2_), some (.inl a3_), some (.inl a4_), some (.inl is_), some (.inl co_), some (.inl k_), none, none], [.inl a1_, .inr (.inr (some (61, 0))), .inl co_], S_)) rfl ?_
        refine sm_T_iald (n := 2026) rfl rfl (by omega) (by omega) ?_
        have bx2_ : 0 ≤ S_.2.2.1 61 0 a1_.toNat ∧ S_.2.2.1 61 0 a1_.toNat ≤ 268435456 := hI_.2 61 0 _
        refine sm_T_br (a := 3) (z := 81) rfl (fun cx3_ => ?_) (fun cx3_ => ?_)
        · have cx3_ : (S_.2.2.1 61 0 a1_.toNat) ≤ co_ := of_decide_eq_true cx3_
          refine sm_T_rv rfl ⟨_, _, rfl, rfl, hI_, hF_, ?_⟩
          first | exact ⟨by (rw [hS_]; exact hw_), by (rw [hS_]; exact wfl_rf)⟩ | (refine ⟨Or.inr ⟨by rw [hv_.2.1]; exact h2_.1, by rw [hv_.1]; exact h0_.2.2.2.2, fun j_ hj_ => ?_⟩, hf_⟩; rw [hv_.2.1, f55_, ← h0_.1] at hj_; rw [f5_, fr_arr (t := 59) (i := 0) hF_ rfl, f60_, hn_ j_ (by omega), hv_.2.2, tbit (by omega) (by omega) (by omega)]; exact wpt_cg (hp_ j_ hj_) (by omega) (fun q9_ w9_ => (hf_.1 q9_ (by omega)).1))
        · have cx3_ : ¬ ((S_.2.2.1 61 0 a1_.toNat) ≤ co_) := of_decide_eq_false cx3_
          refine sm_T_go 4 (c1 := (167, [some (.inr (.inr (some (6, 0)))), some (.inl a1_), some (.inl a2_), some (.inl a3_), some (.inl a4_), some (.inl is_), some (.inl co_), some (.inl k_), none, none], [.inl co_, .inl a1_, .inr (.inr (some (61, 0)))], S_)) rfl ?_
          refine sm_T_iast (n := 2026) rfl rfl (by omega) (by omega) ?_
          have hIx4_ : gi (sm_aI S_ 61 0 a1_.toNat co_) := gi_aI hI_ (show 0 ≤ co_ ∧ co_ ≤ 268435456 from ⟨by omega, by omega⟩)
          have hFx5_ : ai_fr (sx_W vw_108) S0_ (sm_aI S_ 61 0 a1_.toNat co_) := ai_fr_tr hF_ (ai_fr_aI rfl)
          refine sm_T_go 4 (c1 := (174, [some (.inr (.inr (some (6, 0)))), some (.inl a1_), some (.inl a2_), some (.inl a3_), some (.inl a4_), some (.inl is_), some (.inl co_), some (.inl k_), none, none], [.inl a2_, .inl a1_, .inr (.inr (some (62, 0)))], sm_aI S_ 61 0 a1_.toNat co_)) rfl ?_
          refine sm_T_iast (n := 2026) rfl rfl (by omega) (by omega) ?_
          have hIx6_ : gi (sm_aI (sm_aI S_ 61 0 a1_.toNat co_) 62 0 a1_.toNat a2_) := gi_aI hIx4_ (show (-2) ≤ a2_ ∧ a2_ ≤ 11 from ⟨by omega, by omega⟩)
          have hFx7_ : ai_fr (sx_W vw_108) S0_ (sm_aI (sm_aI S_ 61 0 a1_.toNat co_) 62 0 a1_.toNat a2_) := ai_fr_tr hFx5_ (ai_fr_aI rfl)
          refine sm_T_go 6 (c1 := (185, [some (.inr (.inr (some (6, 0)))), some (.inl a1_), some (.inl a2_), some (.inl a3_), some (.inl a4_), some (.inl is_), some (.inl co_), some (.inl k_), none, none], [.inl is_, .inl 1, .inl a4_, .inl a1_, .inr (.inr (some (63, 0)))], sm_aI (sm_aI S_ 61 0 a1_.toNat co_) 62 0 a1_.toNat a2_)) rfl ?_
          refine sm_T_bin (w := (i_shl 1 is_)) rfl rfl ?_ -- pc_ 185
          have vp8_ := vpw (e_ := is_) (by omega)
          refine sm_T_go 1 (c1 := (187, [some (.inr (.inr (some (6, 0)))), some (.inl a1_), some (.inl a2_), some (.inl a3_), some (.inl a4_), some (.inl is_), some (.inl co_), some (.inl k_), none, none], [.inl 1, .inl (i_shl 1 is_), .inl a4_, .inl a1_, .inr (.inr (some (63, 0)))], sm_aI (sm_aI S_ 61 0 a1_.toNat co_) 62 0 a1_.toNat a2_)) rfl ?_
          refine sm_T_bin (w := (i_shl 1 is_) - 1) rfl (bi_sub (by omega) (by omega) (by omega)) ?_ -- pc_ 187
          refine sm_T_bin (w := (i_and a4_ ((i_shl 1 is_) - 1))) rfl rfl ?_ -- pc_ 188
          have bx9_ := i_and_y a4_ (y_ := ((i_shl 1 is_) - 1)) (by omega)
          refine sm_T_iast (n := 2026) rfl rfl (by omega) (by omega) ?_
          have hIx10_ : gi (sm_aI (sm_aI (sm_aI S_ 61 0 a1_.toNat co_) 62 0 a1_.toNat a2_) 63 0 a1_.toNat (i_and a4_ ((i_shl 1 is_) - 1))) := gi_aI hIx6_ (show 0 ≤ (i_and a4_ ((i_shl 1 is_) - 1)) ∧ (i_and a4_ ((i_shl 1 is_) - 1)) ≤ 15 from ⟨by omega, by omega⟩)
          have hFx11_ : ai_fr (sx_W vw_108) S0_ (sm_aI (sm_aI (sm_aI S_ 61 0 a1_.toNat co_) 62 0 a1_.toNat a2_) 63 0 a1_.toNat (i_and a4_ ((i_shl 1 is_) - 1))) := ai_fr_tr hFx7_ (ai_fr_aI rfl)
          refine sm_T_go 2 (c1 := (193, [some (.inr (.inr (some (6, 0)))), some (.inl a1_), some (.inl a2_), some (.inl a3_), some (.inl a4_), some (.inl is_), some (.inl co_), some (.inl 0), none, none], [], sm_aI (sm_aI (sm_aI S_ 61 0 a1_.toNat co_) 62 0 a1_.toNat a2_) 63 0 a1_.toNat (i_and a4_ ((i_shl 1 is_) - 1)))) rfl ?_
          refine ih_.2 is_ co_ 0 (sm_aI (sm_aI (sm_aI S_ 61 0 a1_.toNat co_) 62 0 a1_.toNat a2_) 63 0 a1_.toNat (i_and a4_ ((i_shl 1 is_) - 1))) hIx10_ hFx11_ ⟨?_, ?_, ?_, ?_, ?_, trivial⟩ ?_
          · omega
          · (intro j_ hj_; exact hp_ (by omega) j_ (by omega))
          · (rw [rd_ne (by decide), rd_ne (by decide), rd_eq, if_pos rfl, rd_ne (by decide), rd_eq, if_pos rfl, rd_eq, if_pos rfl]; exact ⟨rfl, rfl, rfl⟩)
          · refine ⟨fun j_ hj_ => ?_, fun j_ hj_ => ?_⟩
            · rw [hS_, rd_ne (by decide), rd_ne (by decide), rd_eq, if_neg hj_, rd_ne (by decide), rd_eq, if_neg hj_, rd_ne (by decide), rd_eq, if_neg hj_, rd_ne (by decide), rd_ne (by decide)]; exact ⟨rfl, rfl, rfl⟩
            · rw [hS_, rd_ne (by decide), rd_ne (by decide), rd_ne (by decide)]
          · (intro j_ hj_; exfalso; omega)
          · omega
      · have cx1_ : ¬ (is_ ≤ k_) := of_decide_eq_false cx1_
        refine sm_T_go 4 (c1 := (38, [some (.inr (.inr (some (6, 0)))), some (.inl a1_), some (.inl a2_), some (.inl a3_), some (.inl a4_), some (.inl is_), some (.inl co_), some (.inl k_), none, none], [.inl a3_, .inl 3, .inr (.inr (some (65, 0)))], S_)) rfl ?_
        refine sm_T_bin (w := 3 * a3_) rfl (bi_mul (by omega) (by omega) (by omega)) ?_ -- pc_ 38
        refine sm_T_go 3 (c1 := (45, [some (.inr (.inr (some (6, 0)))), some (.inl a1_), some (.inl a2_), some (.inl a3_), some (.inl a4_), some (.inl is_), some (.inl co_), some (.inl k_), none, none], [.inl is_, .inl a4_, .inl is_, .inl (3 * a3_), .inr (.inr (some (65, 0)))], S_)) rfl ?_
        refine sm_T_bin (w := (i_shr a4_ is_)) rfl rfl ?_ -- pc_ 45
        have vo9_ := vor (v_ := a4_) (e_ := is_) (by omega) (by omega)
        refine sm_T_go 1 (c1 := (48, [some (.inr (.inr (some (6, 0)))), some (.inl a1_), some (.inl a2_), some (.inl a3_), some (.inl a4_), some (.inl is_), some (.inl co_), some (.inl k_), none, none], [.inl k_, .inl (i_shr a4_ is_), .inl is_, .inl (3 * a3_), .inr (.inr (some (65, 0)))], S_)) rfl ?_
        refine sm_T_cal (d1 := 0) (Q1 := vq_98 is_ (i_shr a4_ is_) k_ S_) rfl rfl (by decide) (vc_98 is_ (i_shr a4_ is_) k_ S_ hI_ (by omega)) (fun u_ Sx13_ px16_ => ?_)
        obtain ⟨rfl, vx18_, rfl, px16_⟩ := px16_
        have p48_ := px16_.1
        have q48_ : vx18_ = plo (S0_.2.2.1 55 (0 + ll_) a2_.toNat) (i_shr a4_ (S0_.2.2.1 55 (0 + ll_) a2_.toNat)) k_ := by (have z9_ := px16_.2; rw [h0_.1] at z9_; exact z9_)
        have nx9_ : npd n9_ (S0_.2.2.1 59 0) (S0_.2.2.1 65 0 (3 * a3_ + vx18_).toNat) := mcs_b hcs_ h3_ (by omega) (fun u9_ => by rcases his_ with w9_ | w9_; (exfalso; omega); exact w9_.2.2.2)
        have nx1_ := nx9_.1
        have nx2_ := nx9_.2.1
        have nx0_ : S_.2.2.1 65 0 (3 * a3_ + vx18_).toNat = S0_.2.2.1 65 0 (3 * a3_ + vx18_).toNat := by rw [f65_]
        have xk9_ : S0_.2.2.1 65 0 (3 * a3_ + vx18_).toNat = (S0_.2.2.1 65 0 (3 * a3_ + plo (S0_.2.2.1 55 (0 + ll_) a2_.toNat) (i_shr a4_ (S0_.2.2.1 55 (0 + ll_) a2_.toNat)) k_).toNat) := by rw [q48_]
        refine sm_T_bin (w := 3 * a3_ + vx18_) rfl (bi_add (by omega) (by omega) (by omega)) ?_ -- pc_ 51
        refine sm_T_iald (n := 3072) rfl rfl (by omega) (by omega) ?_
        have bx19_ : (-1) ≤ S_.2.2.1 65 0 (3 * a3_ + vx18_).toNat ∧ S_.2.2.1 65 0 (3 * a3_ + vx18_).toNat ≤ 1012 := hI_.2 65 0 _
        refine sm_T_go 3 (c1 := (59, [some (.inr (.inr (some (6, 0)))), some (.inl a1_), some (.inl a2_), some (.inl a3_), some (.inl a4_), some (.inl is_), some (.inl co_), some (.inl k_), some (.inl (S_.2.2.1 65 0 (3 * a3_ + vx18_).toNat)), none], [.inl k_, .inl a4_], S_)) rfl ?_
        refine sm_T_bin (w := (i_shr a4_ k_)) rfl rfl ?_ -- pc_ 59
        first | have bx20_ := i_shr_p (x_ := a4_) (e_ := k_) (by omega) (by omega) (by omega) | have bx20_ := i_shr_n a4_ k_
        refine sm_T_go 1 (c1 := (61, [some (.inr (.inr (some (6, 0)))), some (.inl a1_), some (.inl a2_), some (.inl a3_), some (.inl a4_), some (.inl is_), some (.inl co_), some (.inl k_), some (.inl (S_.2.2.1 65 0 (3 * a3_ + vx18_).toNat)), none], [.inl 1, .inl (i_shr a4_ k_)], S_)) rfl ?_
        refine sm_T_bin (w := ((i_shr a4_ k_) % 2)) rfl (bi_msk (k := 1) (by decide)) ?_ -- pc_ 61
        refine sm_T_go 3 (c1 := (67, [some (.inr (.inr (some (6, 0)))), some (.inl a1_), some (.inl a2_), some (.inl a3_), some (.inl a4_), some (.inl is_), some (.inl co_), some (.inl k_), some (.inl (S_.2.2.1 65 0 (3 * a3_ + vx18_).toNat)), some (.inl ((i_shr a4_ k_) % 2))], [.inl (S_.2.2.1 65 0 (3 * a3_ + vx18_).toNat), .inr (.inr (some (6, 0)))], S_)) rfl ?_
        refine sm_T_cal (d1 := 1) (Q1 := vq_94 (S_.2.2.1 65 0 (3 * a3_ + vx18_).toNat) dd_ S_) rfl rfl (by decide) (vc_94 (S_.2.2.1 65 0 (3 * a3_ + vx18_).toNat) dd_ S_ hI_ (by exact (hF_.2.1 6 0 0 rfl).trans hd_) (by omega)) (fun u_ Sx21_ px24_ => ?_)
        obtain ⟨rfl, vx26_, rfl, px24_⟩ := px24_
        have lf9_ := px24_
        rw [f1_, f2_, f60_] at lf9_
        refine sm_T_b0 (a := 1) (z := 23) rfl (fun cx27_ => ?_) (fun cx27_ => ?_)
        · have cx27_ : vx26_ ≠ 0 := of_decide_eq_true cx27_
          refine sm_T_go 1 (c1 := (95, [some (.inr (.inr (some (6, 0)))), some (.inl a1_), some (.inl a2_), some (.inl a3_), some (.inl a4_), some (.inl is_), some (.inl co_), some (.inl k_), some (.inl (S_.2.2.1 65 0 (3 * a3_ + vx18_).toNat)), some (.inl ((i_shr a4_ k_) % 2))], [.inl ((i_shr a4_ k_) % 2)], S_)) rfl ?_
          refine sm_T_b0 (a := 0) (z := 39) rfl (fun cx28_ => ?_) (fun cx28_ => ?_)
          · have cx28_ : ((i_shr a4_ k_) % 2) = 0 := of_decide_eq_true cx28_
            refine sm_T_go 1 (c1 := (136, [some (.inr (.inr (some (6, 0)))), some (.inl a1_), some (.inl a2_), some (.inl a3_), some (.inl a4_), some (.inl is_), some (.inl co_), some (.inl k_), some (.inl (S_.2.2.1 65 0 (3 * a3_ + vx18_).toNat)), some (.inl ((i_shr a4_ k_) % 2))], [.inl co_], S_)) rfl ?_
            refine sm_T_nt (u := some (.inl 268435456)) (S1 := S_) rfl rfl rfl ?_
            refine sm_T_nt (u := some (.inl (sm_mn co_ 268435456))) (S1 := S_) rfl rfl rfl ?_
            have bx29_ := sm_mn_d co_ 268435456
            refine sm_T_go 1 (c1 := (143, [some (.inr (.inr (some (6, 0)))), some (.inl a1_), some (.inl a2_), some (.inl a3_), some (.inl a4_), some (.inl is_), some (.inl (sm_mn co_ 268435456)), some (.inl k_), some (.inl (S_.2.2.1 65 0 (3 * a3_ + vx18_).toNat)), some (.inl ((i_shr a4_ k_) % 2))], [], S_)) rfl ?_
            refine sm_T_inc (a := 7) (z := 1) (v := k_) (w := k_ + 1) rfl rfl (by omega) (by omega) (by omega) ?_ -- pc_ 143
            refine sm_T_go 1 (c1 := (25, [some (.inr (.inr (some (6, 0)))), some (.inl a1_), some (.inl a2_), some (.inl a3_), some (.inl a4_), some (.inl is_), some (.inl (sm_mn co_ 268435456)), some (.inl (k_ + 1)), some (.inl (S_.2.2.1 65 0 (3 * a3_ + vx18_).toNat)), some (.inl ((i_shr a4_ k_) % 2))], [], S_)) rfl ?_
            refine sm_T_wk [some (.inr (.inr (some (6, 0)))), some (.inl a1_), some (.inl a2_), some (.inl a3_), some (.inl a4_), some (.inl is_), some (.inl (sm_mn co_ 268435456)), some (.inl (k_ + 1)), none, none] (by exact ⟨rfl, rfl, rfl, rfl, rfl, rfl, rfl, rfl, trivial⟩) ?_
            refine ih_.1 is_ (sm_mn co_ 268435456) (k_ + 1) S_ hI_ hF_ ⟨?_, ?_, ?_, trivial⟩ ?_
            · omega
            · exact hS_
            · intro lt9_ j_ hj_
              by_cases y9_ : (j_ : Int) = k_
              · rw [y9_, ← xk9_]
                have lf8_ := lf9_
                rw [nx0_] at lf8_
                refine ⟨nx9_, fun q9_ => ?_, fun q9_ => ?_⟩
                · have q8_ := q9_.1; have q7_ := q9_.2; simp only [hS_] at *; omega
                · have q8_ := q9_.1; have q7_ := q9_.2; simp only [hS_] at *; first | omega | (exfalso; omega)
              · exact hp_ (by simp only [hS_] at *; omega) j_ (by omega)
            · omega
          · have cx28_ : ¬ (((i_shr a4_ k_) % 2) = 0) := of_decide_eq_false cx28_
            refine sm_T_go 2 (c1 := (101, [some (.inr (.inr (some (6, 0)))), some (.inl a1_), some (.inl a2_), some (.inl a3_), some (.inl a4_), some (.inl is_), some (.inl co_), some (.inl k_), some (.inl (S_.2.2.1 65 0 (3 * a3_ + vx18_).toNat)), some (.inl ((i_shr a4_ k_) % 2))], [.inr (.inr (some (6, 0))), .inl co_], S_)) rfl ?_
            refine sm_T_gr rfl rfl ((hF_.2.1 6 0 1 rfl).trans hc_) ?_
            have bx30_ : (-1) ≤ S_.1 5 ll_ 2 ∧ S_.1 5 ll_ 2 ≤ 11 := hI_.1 5 ll_ 2 rfl
            refine sm_T_go 2 (c1 := (108, [some (.inr (.inr (some (6, 0)))), some (.inl a1_), some (.inl a2_), some (.inl a3_), some (.inl a4_), some (.inl is_), some (.inl co_), some (.inl k_), some (.inl (S_.2.2.1 65 0 (3 * a3_ + vx18_).toNat)), some (.inl ((i_shr a4_ k_) % 2))], [.inl (-1), .inl (S_.1 5 ll_ 2), .inl co_], S_)) rfl ?_
            refine sm_T_br (a := 1) (z := 8) rfl (fun cx31_ => ?_) (fun cx31_ => ?_)
            · have cx31_ : (S_.1 5 ll_ 2) ≠ (-1) := of_decide_eq_true cx31_
              refine sm_T_go 1 (c1 := (117, [some (.inr (.inr (some (6, 0)))), some (.inl a1_), some (.inl a2_), some (.inl a3_), some (.inl a4_), some (.inl is_), some (.inl co_), some (.inl k_), some (.inl (S_.2.2.1 65 0 (3 * a3_ + vx18_).toNat)), some (.inl ((i_shr a4_ k_) % 2))], [.inr (.inr (some (6, 0))), .inl co_], S_)) rfl ?_
              refine sm_T_gr rfl rfl ((hF_.2.1 6 0 1 rfl).trans hc_) ?_
              refine sm_T_go 2 (c1 := (124, [some (.inr (.inr (some (6, 0)))), some (.inl a1_), some (.inl a2_), some (.inl a3_), some (.inl a4_), some (.inl is_), some (.inl co_), some (.inl k_), some (.inl (S_.2.2.1 65 0 (3 * a3_ + vx18_).toNat)), some (.inl ((i_shr a4_ k_) % 2))], [.inr (.inr (some (6, 0))), .inr (.inr (some (57, (0 + ll_)))), .inl co_], S_)) rfl ?_
              refine sm_T_gr rfl rfl ((hF_.2.1 6 0 1 rfl).trans hc_) ?_
              refine sm_T_go 1 (c1 := (130, [some (.inr (.inr (some (6, 0)))), some (.inl a1_), some (.inl a2_), some (.inl a3_), some (.inl a4_), some (.inl is_), some (.inl co_), some (.inl k_), some (.inl (S_.2.2.1 65 0 (3 * a3_ + vx18_).toNat)), some (.inl ((i_shr a4_ k_) % 2))], [.inl (S_.1 5 ll_ 2), .inr (.inr (some (57, (0 + ll_)))), .inl co_], S_)) rfl ?_
              refine sm_T_iald (n := 12) rfl rfl (by omega) (by omega) ?_
              have bx32_ : 0 ≤ S_.2.2.1 57 (0 + ll_) (S_.1 5 ll_ 2).toNat ∧ S_.2.2.1 57 (0 + ll_) (S_.1 5 ll_ 2).toNat ≤ 1000 := hI_.2 57 (0 + ll_) _
              refine sm_T_bin (w := co_ + (S_.2.2.1 57 (0 + ll_) (S_.1 5 ll_ 2).toNat)) rfl (bi_add (by omega) (by omega) (by omega)) ?_ -- pc_ 131
              refine sm_T_go 2 (c1 := (136, [some (.inr (.inr (some (6, 0)))), some (.inl a1_), some (.inl a2_), some (.inl a3_), some (.inl a4_), some (.inl is_), some (.inl (co_ + (S_.2.2.1 57 (0 + ll_) (S_.1 5 ll_ 2).toNat))), some (.inl k_), some (.inl (S_.2.2.1 65 0 (3 * a3_ + vx18_).toNat)), some (.inl ((i_shr a4_ k_) % 2))], [.inl (co_ + (S_.2.2.1 57 (0 + ll_) (S_.1 5 ll_ 2).toNat))], S_)) rfl ?_
              refine sm_T_nt (u := some (.inl 268435456)) (S1 := S_) rfl rfl rfl ?_
              refine sm_T_nt (u := some (.inl (sm_mn (co_ + (S_.2.2.1 57 (0 + ll_) (S_.1 5 ll_ 2).toNat)) 268435456))) (S1 := S_) rfl rfl rfl ?_
              have bx33_ := sm_mn_d (co_ + (S_.2.2.1 57 (0 + ll_) (S_.1 5 ll_ 2).toNat)) 268435456
              refine sm_T_go 1 (c1 := (143, [some (.inr (.inr (some (6, 0)))), some (.inl a1_), some (.inl a2_), some (.inl a3_), some (.inl a4_), some (.inl is_), some (.inl (sm_mn (co_ + (S_.2.2.1 57 (0 + ll_) (S_.1 5 ll_ 2).toNat)) 268435456)), some (.inl k_), some (.inl (S_.2.2.1 65 0 (3 * a3_ + vx18_).toNat)), some (.inl ((i_shr a4_ k_) % 2))], [], S_)) rfl ?_
              refine sm_T_inc (a := 7) (z := 1) (v := k_) (w := k_ + 1) rfl rfl (by omega) (by omega) (by omega) ?_ -- pc_ 143
              refine sm_T_go 1 (c1 := (25, [some (.inr (.inr (some (6, 0)))), some (.inl a1_), some (.inl a2_), some (.inl a3_), some (.inl a4_), some (.inl is_), some (.inl (sm_mn (co_ + (S_.2.2.1 57 (0 + ll_) (S_.1 5 ll_ 2).toNat)) 268435456)), some (.inl (k_ + 1)), some (.inl (S_.2.2.1 65 0 (3 * a3_ + vx18_).toNat)), some (.inl ((i_shr a4_ k_) % 2))], [], S_)) rfl ?_
              refine sm_T_wk [some (.inr (.inr (some (6, 0)))), some (.inl a1_), some (.inl a2_), some (.inl a3_), some (.inl a4_), some (.inl is_), some (.inl (sm_mn (co_ + (S_.2.2.1 57 (0 + ll_) (S_.1 5 ll_ 2).toNat)) 268435456)), some (.inl (k_ + 1)), none, none] (by exact ⟨rfl, rfl, rfl, rfl, rfl, rfl, rfl, rfl, trivial⟩) ?_
              refine ih_.1 is_ (sm_mn (co_ + (S_.2.2.1 57 (0 + ll_) (S_.1 5 ll_ 2).toNat)) 268435456) (k_ + 1) S_ hI_ hF_ ⟨?_, ?_, ?_, trivial⟩ ?_
              · omega
              · exact hS_
              · intro lt9_ j_ hj_
                by_cases y9_ : (j_ : Int) = k_
                · rw [y9_, ← xk9_]
                  have lf8_ := lf9_
                  rw [nx0_] at lf8_
                  refine ⟨nx9_, fun q9_ => ?_, fun q9_ => ?_⟩
                  · have q8_ := q9_.1; have q7_ := q9_.2; simp only [hS_] at *; omega
                  · have q8_ := q9_.1; have q7_ := q9_.2; simp only [hS_] at *; first | omega | (exfalso; omega)
                · exact hp_ (by simp only [hS_] at *; omega) j_ (by omega)
              · omega
            · have cx31_ : ¬ ((S_.1 5 ll_ 2) ≠ (-1)) := of_decide_eq_false cx31_
              refine sm_T_nt (u := some (.inl 268435456)) (S1 := S_) rfl rfl rfl ?_
              refine sm_T_go 1 (c1 := (131, [some (.inr (.inr (some (6, 0)))), some (.inl a1_), some (.inl a2_), some (.inl a3_), some (.inl a4_), some (.inl is_), some (.inl co_), some (.inl k_), some (.inl (S_.2.2.1 65 0 (3 * a3_ + vx18_).toNat)), some (.inl ((i_shr a4_ k_) % 2))], [.inl 268435456, .inl co_], S_)) rfl ?_
              refine sm_T_bin (w := co_ + 268435456) rfl (bi_add (by omega) (by omega) (by omega)) ?_ -- pc_ 131
              refine sm_T_go 2 (c1 := (136, [some (.inr (.inr (some (6, 0)))), some (.inl a1_), some (.inl a2_), some (.inl a3_), some (.inl a4_), some (.inl is_), some (.inl (co_ + 268435456)), some (.inl k_), some (.inl (S_.2.2.1 65 0 (3 * a3_ + vx18_).toNat)), some (.inl ((i_shr a4_ k_) % 2))], [.inl (co_ + 268435456)], S_)) rfl ?_
              refine sm_T_nt (u := some (.inl 268435456)) (S1 := S_) rfl rfl rfl ?_
              refine sm_T_nt (u := some (.inl (sm_mn (co_ + 268435456) 268435456))) (S1 := S_) rfl rfl rfl ?_
              have bx34_ := sm_mn_d (co_ + 268435456) 268435456
              refine sm_T_go 1 (c1 := (143, [some (.inr (.inr (some (6, 0)))), some (.inl a1_), some (.inl a2_), some (.inl a3_), some (.inl a4_), some (.inl is_), some (.inl (sm_mn (co_ + 268435456) 268435456)), some (.inl k_), some (.inl (S_.2.2.1 65 0 (3 * a3_ + vx18_).toNat)), some (.inl ((i_shr a4_ k_) % 2))], [], S_)) rfl ?_
              refine sm_T_inc (a := 7) (z := 1) (v := k_) (w := k_ + 1) rfl rfl (by omega) (by omega) (by omega) ?_ -- pc_ 143
              refine sm_T_go 1 (c1 := (25, [some (.inr (.inr (some (6, 0)))), some (.inl a1_), some (.inl a2_), some (.inl a3_), some (.inl a4_), some (.inl is_), some (.inl (sm_mn (co_ + 268435456) 268435456)), some (.inl (k_ + 1)), some (.inl (S_.2.2.1 65 0 (3 * a3_ + vx18_).toNat)), some (.inl ((i_shr a4_ k_) % 2))], [], S_)) rfl ?_
              refine sm_T_wk [some (.inr (.inr (some (6, 0)))), some (.inl a1_), some (.inl a2_), some (.inl a3_), some (.inl a4_), some (.inl is_), some (.inl (sm_mn (co_ + 268435456) 268435456)), some (.inl (k_ + 1)), none, none] (by exact ⟨rfl, rfl, rfl, rfl, rfl, rfl, rfl, rfl, trivial⟩) ?_
              refine ih_.1 is_ (sm_mn (co_ + 268435456) 268435456) (k_ + 1) S_ hI_ hF_ ⟨?_, ?_, ?_, trivial⟩ ?_
              · omega
              · exact hS_
              · intro lt9_ j_ hj_
                by_cases y9_ : (j_ : Int) = k_
                · rw [y9_, ← xk9_]
                  have lf8_ := lf9_
                  rw [nx0_] at lf8_
                  refine ⟨nx9_, fun q9_ => ?_, fun q9_ => ?_⟩
                  · have q8_ := q9_.1; have q7_ := q9_.2; simp only [hS_] at *; omega
                  · have q8_ := q9_.1; have q7_ := q9_.2; simp only [hS_] at *; first | omega | (exfalso; omega)
                · exact hp_ (by simp only [hS_] at *; omega) j_ (by omega)
              · omega
        · have cx27_ : ¬ (vx26_ ≠ 0) := of_decide_eq_false cx27_
          refine sm_T_go 5 (c1 := (82, [some (.inr (.inr (some (6, 0)))), some (.inl a1_), some (.inl a2_), some (.inl a3_), some (.inl a4_), some (.inl is_), some (.inl co_), some (.inl k_), some (.inl (S_.2.2.1 65 0 (3 * a3_ + vx18_).toNat)), some (.inl ((i_shr a4_ k_) % 2))], [.inl (S_.2.2.1 65 0 (3 * a3_ + vx18_).toNat), .inl 2, .inr (.inr (some (61, 0))), .inl co_], S_)) rfl ?_
          refine sm_T_bin (w := 2 * (S_.2.2.1 65 0 (3 * a3_ + vx18_).toNat)) rfl (bi_mul (by omega) (by omega) (by omega)) ?_ -- pc_ 82
          refine sm_T_go 1 (c1 := (85, [some (.inr (.inr (some (6, 0)))), some (.inl a1_), some (.inl a2_), some (.inl a3_), some (.inl a4_), some (.inl is_), some (.inl co_), some (.inl k_), some (.inl (S_.2.2.1 65 0 (3 * a3_ + vx18_).toNat)), some (.inl ((i_shr a4_ k_) % 2))], [.inl ((i_shr a4_ k_) % 2), .inl (2 * (S_.2.2.1 65 0 (3 * a3_ + vx18_).toNat)), .inr (.inr (some (61, 0))), .inl co_], S_)) rfl ?_
          refine sm_T_bin (w := 2 * (S_.2.2.1 65 0 (3 * a3_ + vx18_).toNat) + ((i_shr a4_ k_) % 2)) rfl (bi_add (by omega) (by omega) (by omega)) ?_ -- pc_ 85
          refine sm_T_iald (n := 2026) rfl rfl (by omega) (by omega) ?_
          have bx35_ : 0 ≤ S_.2.2.1 61 0 (2 * (S_.2.2.1 65 0 (3 * a3_ + vx18_).toNat) + ((i_shr a4_ k_) % 2)).toNat ∧ S_.2.2.1 61 0 (2 * (S_.2.2.1 65 0 (3 * a3_ + vx18_).toNat) + ((i_shr a4_ k_) % 2)).toNat ≤ 268435456 := hI_.2 61 0 _
          refine sm_T_bin (w := co_ + (S_.2.2.1 61 0 (2 * (S_.2.2.1 65 0 (3 * a3_ + vx18_).toNat) + ((i_shr a4_ k_) % 2)).toNat)) rfl (bi_add (by omega) (by omega) (by omega)) ?_ -- pc_ 87
          refine sm_T_go 3 (c1 := (136, [some (.inr (.inr (some (6, 0)))), some (.inl a1_), some (.inl a2_), some (.inl a3_), some (.inl a4_), some (.inl is_), some (.inl (co_ + (S_.2.2.1 61 0 (2 * (S_.2.2.1 65 0 (3 * a3_ + vx18_).toNat) + ((i_shr a4_ k_) % 2)).toNat))), some (.inl k_), some (.inl (S_.2.2.1 65 0 (3 * a3_ + vx18_).toNat)), some (.inl ((i_shr a4_ k_) % 2))], [.inl (co_ + (S_.2.2.1 61 0 (2 * (S_.2.2.1 65 0 (3 * a3_ + vx18_).toNat) + ((i_shr a4_ k_) % 2)).toNat))], S_)) rfl ?_
          refine sm_T_nt (u := some (.inl 268435456)) (S1 := S_) rfl rfl rfl ?_
          refine sm_T_nt (u := some (.inl (sm_mn (co_ + (S_.2.2.1 61 0 (2 * (S_.2.2.1 65 0 (3 * a3_ + vx18_).toNat) + ((i_shr a4_ k_) % 2)).toNat)) 268435456))) (S1 := S_) rfl rfl rfl ?_
          have bx36_ := sm_mn_d (co_ + (S_.2.2.1 61 0 (2 * (S_.2.2.1 65 0 (3 * a3_ + vx18_).toNat) + ((i_shr a4_ k_) % 2)).toNat)) 268435456
          refine sm_T_go 1 (c1 := (143, [some (.inr (.inr (some (6, 0)))), some (.inl a1_), some (.inl a2_), some (.inl a3_), some (.inl a4_), some (.inl is_), some (.inl (sm_mn (co_ + (S_.2.2.1 61 0 (2 * (S_.2.2.1 65 0 (3 * a3_ + vx18_).toNat) + ((i_shr a4_ k_) % 2)).toNat)) 268435456)), some (.inl k_), some (.inl (S_.2.2.1 65 0 (3 * a3_ + vx18_).toNat)), some (.inl ((i_shr a4_ k_) % 2))], [], S_)) rfl ?_
          refine sm_T_inc (a := 7) (z := 1) (v := k_) (w := k_ + 1) rfl rfl (by omega) (by omega) (by omega) ?_ -- pc_ 143
          refine sm_T_go 1 (c1 := (25, [some (.inr (.inr (some (6, 0)))), some (.inl a1_), some (.inl a2_), some (.inl a3_), some (.inl a4_), some (.inl is_), some (.inl (sm_mn (co_ + (S_.2.2.1 61 0 (2 * (S_.2.2.1 65 0 (3 * a3_ + vx18_).toNat) + ((i_shr a4_ k_) % 2)).toNat)) 268435456)), some (.inl (k_ + 1)), some (.inl (S_.2.2.1 65 0 (3 * a3_ + vx18_).toNat)), some (.inl ((i_shr a4_ k_) % 2))], [], S_)) rfl ?_
          refine sm_T_wk [some (.inr (.inr (some (6, 0)))), some (.inl a1_), some (.inl a2_), some (.inl a3_), some (.inl a4_), some (.inl is_), some (.inl (sm_mn (co_ + (S_.2.2.1 61 0 (2 * (S_.2.2.1 65 0 (3 * a3_ + vx18_).toNat) + ((i_shr a4_ k_) % 2)).toNat)) 268435456)), some (.inl (k_ + 1)), none, none] (by exact ⟨rfl, rfl, rfl, rfl, rfl, rfl, rfl, rfl, trivial⟩) ?_
          refine ih_.1 is_ (sm_mn (co_ + (S_.2.2.1 61 0 (2 * (S_.2.2.1 65 0 (3 * a3_ + vx18_).toNat) + ((i_shr a4_ k_) % 2)).toNat)) 268435456) (k_ + 1) S_ hI_ hF_ ⟨?_, ?_, ?_, trivial⟩ ?_
          · omega
          · exact hS_
          · intro lt9_ j_ hj_
            by_cases y9_ : (j_ : Int) = k_
            · rw [y9_, ← xk9_]
              have lf8_ := lf9_
              rw [nx0_] at lf8_
              refine ⟨nx9_, fun q9_ => ?_, fun q9_ => ?_⟩
              · have q8_ := q9_.1; have q7_ := q9_.2; simp only [hS_] at *; omega
              · have q8_ := q9_.1; have q7_ := q9_.2; simp only [hS_] at *; first | omega | (exfalso; omega)
            · exact hp_ (by simp only [hS_] at *; omega) j_ (by omega)
          · omega
    · rintro is_ co_ k_ S_ hI_ hF_ ⟨h0_, hp_, hv_, hf_, hn_, -⟩ hm_
      have f55_ : S_.2.2.1 55 (0 + ll_) = S0_.2.2.1 55 (0 + ll_) := fr_arr hF_ rfl
      have f65_ : S_.2.2.1 65 0 = S0_.2.2.1 65 0 := fr_arr hF_ rfl
      have f60_ : S_.2.2.1 60 0 = S0_.2.2.1 60 0 := fr_arr hF_ rfl
      have f1_ : S_.1 3 dd_ 1 = S0_.1 3 dd_ 1 := hF_.1 3 dd_ 1 rfl
      have f2_ : S_.1 3 dd_ 2 = S0_.1 3 dd_ 2 := hF_.1 3 dd_ 2 rfl
      have f5_ : S_.1 5 ll_ 2 = S0_.1 5 ll_ 2 := hF_.1 5 ll_ 2 rfl
      have ck_ : 0 ≤ S_.1 6 0 11 ∧ S_.1 6 0 11 ≤ 1024 := hI_.1 6 0 11 rfl
      have ek_ : S_.1 6 0 11 = S0_.1 6 0 11 := hF_.1 6 0 11 rfl
      refine sm_T_go 2 (c1 := (197, [some (.inr (.inr (some (6, 0)))), some (.inl a1_), some (.inl a2_), some (.inl a3_), some (.inl a4_), some (.inl is_), some (.inl co_), some (.inl k_), none, none], [.inl is_, .inl k_], S_)) rfl ?_
      refine sm_T_br (a := 3) (z := 41) rfl (fun cx1_ => ?_) (fun cx1_ => ?_)
      · have cx1_ : is_ ≤ k_ := of_decide_eq_true cx1_
        refine sm_T_rv rfl ⟨_, _, rfl, rfl, hI_, hF_, ?_⟩
        first | exact ⟨by (rw [hS_]; exact hw_), by (rw [hS_]; exact wfl_rf)⟩ | (refine ⟨Or.inr ⟨by rw [hv_.2.1]; exact h2_.1, by rw [hv_.1]; exact h0_.2.2.2.2, fun j_ hj_ => ?_⟩, hf_⟩; rw [hv_.2.1, f55_, ← h0_.1] at hj_; rw [f5_, fr_arr (t := 59) (i := 0) hF_ rfl, f60_, hn_ j_ (by omega), hv_.2.2, tbit (by omega) (by omega) (by omega)]; exact wpt_cg (hp_ j_ hj_) (by omega) (fun q9_ w9_ => (hf_.1 q9_ (by omega)).1))
      · have cx1_ : ¬ (is_ ≤ k_) := of_decide_eq_false cx1_
        refine sm_T_go 4 (c1 := (206, [some (.inr (.inr (some (6, 0)))), some (.inl a1_), some (.inl a2_), some (.inl a3_), some (.inl a4_), some (.inl is_), some (.inl co_), some (.inl k_), none, none], [.inl a1_, .inl 3, .inr (.inr (some (64, 0)))], S_)) rfl ?_
        refine sm_T_bin (w := 3 * a1_) rfl (bi_mul (by omega) (by omega) (by omega)) ?_ -- pc_ 206
        refine sm_T_go 1 (c1 := (209, [some (.inr (.inr (some (6, 0)))), some (.inl a1_), some (.inl a2_), some (.inl a3_), some (.inl a4_), some (.inl is_), some (.inl co_), some (.inl k_), none, none], [.inl k_, .inl (3 * a1_), .inr (.inr (some (64, 0)))], S_)) rfl ?_
        refine sm_T_bin (w := 3 * a1_ + k_) rfl (bi_add (by omega) (by omega) (by omega)) ?_ -- pc_ 209
        refine sm_T_go 4 (c1 := (216, [some (.inr (.inr (some (6, 0)))), some (.inl a1_), some (.inl a2_), some (.inl a3_), some (.inl a4_), some (.inl is_), some (.inl co_), some (.inl k_), none, none], [.inl a3_, .inl 3, .inr (.inr (some (65, 0))), .inl (3 * a1_ + k_), .inr (.inr (some (64, 0)))], S_)) rfl ?_
        refine sm_T_bin (w := 3 * a3_) rfl (bi_mul (by omega) (by omega) (by omega)) ?_ -- pc_ 216
        refine sm_T_go 3 (c1 := (223, [some (.inr (.inr (some (6, 0)))), some (.inl a1_), some (.inl a2_), some (.inl a3_), some (.inl a4_), some (.inl is_), some (.inl co_), some (.inl k_), none, none], [.inl is_, .inl a4_, .inl is_, .inl (3 * a3_), .inr (.inr (some (65, 0))), .inl (3 * a1_ + k_), .inr (.inr (some (64, 0)))], S_)) rfl ?_
        refine sm_T_bin (w := (i_shr a4_ is_)) rfl rfl ?_ -- pc_ 223
        have vo9_ := vor (v_ := a4_) (e_ := is_) (by omega) (by omega)
        refine sm_T_go 1 (c1 := (226, [some (.inr (.inr (some (6, 0)))), some (.inl a1_), some (.inl a2_), some (.inl a3_), some (.inl a4_), some (.inl is_), some (.inl co_), some (.inl k_), none, none], [.inl k_, .inl (i_shr a4_ is_), .inl is_, .inl (3 * a3_), .inr (.inr (some (65, 0))), .inl (3 * a1_ + k_), .inr (.inr (some (64, 0)))], S_)) rfl ?_
        refine sm_T_cal (d1 := 0) (Q1 := vq_98 is_ (i_shr a4_ is_) k_ S_) rfl rfl (by decide) (vc_98 is_ (i_shr a4_ is_) k_ S_ hI_ (by omega)) (fun u_ Sx3_ px6_ => ?_)
        obtain ⟨rfl, vx8_, rfl, px6_⟩ := px6_
        have p226_ := px6_.1
        have q226_ : vx8_ = plo (S0_.2.2.1 55 (0 + ll_) a2_.toNat) (i_shr a4_ (S0_.2.2.1 55 (0 + ll_) a2_.toNat)) k_ := by (have z9_ := px6_.2; rw [h0_.1] at z9_; exact z9_)
        have nx9_ : npd n9_ (S0_.2.2.1 59 0) (S0_.2.2.1 65 0 (3 * a3_ + vx8_).toNat) := mcs_b hcs_ h3_ (by omega) (fun u9_ => by rcases his_ with w9_ | w9_; (exfalso; omega); exact w9_.2.2.2)
        have nx1_ := nx9_.1
        have nx2_ := nx9_.2.1
        have nx0_ : S_.2.2.1 65 0 (3 * a3_ + vx8_).toNat = S0_.2.2.1 65 0 (3 * a3_ + vx8_).toNat := by rw [f65_]
        have xk9_ : S0_.2.2.1 65 0 (3 * a3_ + vx8_).toNat = (S0_.2.2.1 65 0 (3 * a3_ + plo (S0_.2.2.1 55 (0 + ll_) a2_.toNat) (i_shr a4_ (S0_.2.2.1 55 (0 + ll_) a2_.toNat)) k_).toNat) := by rw [q226_]
        refine sm_T_bin (w := 3 * a3_ + vx8_) rfl (bi_add (by omega) (by omega) (by omega)) ?_ -- pc_ 229
        refine sm_T_iald (n := 3072) rfl rfl (by omega) (by omega) ?_
        have bx9_ : (-1) ≤ S_.2.2.1 65 0 (3 * a3_ + vx8_).toNat ∧ S_.2.2.1 65 0 (3 * a3_ + vx8_).toNat ≤ 1012 := hI_.2 65 0 _
        refine sm_T_iast (n := 6078) rfl rfl (by omega) (by omega) ?_
        have hIx10_ : gi (sm_aI S_ 64 0 (3 * a1_ + k_).toNat (S_.2.2.1 65 0 (3 * a3_ + vx8_).toNat)) := gi_aI hI_ (show 0 ≤ (S_.2.2.1 65 0 (3 * a3_ + vx8_).toNat) ∧ (S_.2.2.1 65 0 (3 * a3_ + vx8_).toNat) ≤ 1012 from ⟨by omega, by omega⟩)
        have hFx11_ : ai_fr (sx_W vw_108) S0_ (sm_aI S_ 64 0 (3 * a1_ + k_).toNat (S_.2.2.1 65 0 (3 * a3_ + vx8_).toNat)) := ai_fr_tr hF_ (ai_fr_aI rfl)
        refine sm_T_inc (a := 7) (z := 1) (v := k_) (w := k_ + 1) rfl rfl (by omega) (by omega) (by omega) ?_ -- pc_ 232
        refine sm_T_go 1 (c1 := (193, [some (.inr (.inr (some (6, 0)))), some (.inl a1_), some (.inl a2_), some (.inl a3_), some (.inl a4_), some (.inl is_), some (.inl co_), some (.inl (k_ + 1)), none, none], [], sm_aI S_ 64 0 (3 * a1_ + k_).toNat (S_.2.2.1 65 0 (3 * a3_ + vx8_).toNat))) rfl ?_
        refine ih_.2 is_ co_ (k_ + 1) (sm_aI S_ 64 0 (3 * a1_ + k_).toNat (S_.2.2.1 65 0 (3 * a3_ + vx8_).toNat)) hIx10_ hFx11_ ⟨?_, ?_, ?_, ?_, ?_, trivial⟩ ?_
        · omega
        · exact hp_
        · (rw [rd_ne (by decide), rd_ne (by decide), rd_ne (by decide)]; exact hv_)
        · refine ⟨fun j_ hj_ => ?_, fun j_ hj_ => ?_⟩
          · rw [rd_ne (by decide), rd_ne (by decide), rd_ne (by decide)]; exact hf_.1 j_ hj_
          · rw [rd_eq, if_neg (by omega)]; exact hf_.2 j_ hj_
        · intro j_ hj_
          rw [rd_eq]
          by_cases y9_ : (j_ : Int) = k_
          · rw [if_pos (by omega), nx0_, xk9_, y9_]
          · rw [if_neg (by omega)]; exact hn_ j_ (by omega)
        · omega
set_option maxHeartbeats 3000000 in
set_option maxRecDepth 20000 in
theorem vc_108 {sc_ : Nat × (Nat → Int)} (a1_ : Int) (a2_ : Int) (a3_ : Int) (a4_ : Int) (dd_ : Nat) (ll_ : Nat) (n9_ : Int) (S0_ : sm_S) (hI_ : gi S0_) (hd_ : S0_.2.1 6 0 0 = some dd_) (hc_ : S0_.2.1 6 0 1 = some ll_) (h1_ : (a1_ = 2 * n9_ ∨ a1_ = 2 * n9_ + 1) ∧ 1 ≤ n9_ ∧ n9_ ≤ 1012) (h2_ : 0 ≤ a2_ ∧ a2_ ≤ 11) (h3_ : 0 ≤ a3_ ∧ a3_ < S0_.1 6 0 11) (his_ : ((S0_.2.2.1 55 (0 + ll_) a2_.toNat) = 2 ∧ 0 ≤ a4_ ∧ a4_ < 8) ∨ ((S0_.2.2.1 55 (0 + ll_) a2_.toNat) = 3 ∧ 0 ≤ a4_ ∧ a4_ < 48 ∧ S0_.2.2.1 65 0 (3 * a3_ + 2).toNat ≠ -1)) (hcs_ : mcs (npd n9_ (S0_.2.2.1 59 0)) S0_) (hw_ : wo3 (1 + S0_.1 3 dd_ 1 + S0_.1 3 dd_ 2) n9_ ll_ S0_ a1_.toNat) : sm_T (mt_P sc_) 2 108 (0, [some (.inr (.inr (some (6, 0)))), some (.inl a1_), some (.inl a2_), some (.inl a3_), some (.inl a4_), none, none, none, none, none], [], S0_) (fun ro9_ => ∃ u_ S1_, ro9_ = (.inl u_, S1_, 0) ∧ vq_108 a1_ a2_ a3_ a4_ dd_ ll_ n9_ S0_ u_ S1_) := by
  have hF_ : ai_fr (sx_W vw_108) S0_ S0_ := ai_fr_rf
  have ck0_ : 0 ≤ S0_.1 6 0 11 ∧ S0_.1 6 0 11 ≤ 1024 := hI_.1 6 0 11 rfl
  refine sm_T_go 1 (c1 := (1, [some (.inr (.inr (some (6, 0)))), some (.inl a1_), some (.inl a2_), some (.inl a3_), some (.inl a4_), none, none, none, none, none], [.inr (.inr (some (6, 0)))], S0_)) rfl ?_
  refine sm_T_gr rfl rfl ((hF_.2.1 6 0 1 rfl).trans hc_) ?_
  refine sm_T_go 2 (c1 := (8, [some (.inr (.inr (some (6, 0)))), some (.inl a1_), some (.inl a2_), some (.inl a3_), some (.inl a4_), none, none, none, none, none], [.inl a2_, .inr (.inr (some (55, (0 + ll_))))], S0_)) rfl ?_
  refine sm_T_iald (n := 12) rfl rfl (by omega) (by omega) ?_
  have bx1_ : 0 ≤ S0_.2.2.1 55 (0 + ll_) a2_.toNat ∧ S0_.2.2.1 55 (0 + ll_) a2_.toNat ≤ 3 := hI_.2 55 (0 + ll_) _
  refine sm_T_go 2 (c1 := (12, [some (.inr (.inr (some (6, 0)))), some (.inl a1_), some (.inl a2_), some (.inl a3_), some (.inl a4_), some (.inl (S0_.2.2.1 55 (0 + ll_) a2_.toNat)), none, none, none, none], [.inr (.inr (some (6, 0)))], S0_)) rfl ?_
  refine sm_T_gr rfl rfl ((hF_.2.1 6 0 1 rfl).trans hc_) ?_
  refine sm_T_go 2 (c1 := (19, [some (.inr (.inr (some (6, 0)))), some (.inl a1_), some (.inl a2_), some (.inl a3_), some (.inl a4_), some (.inl (S0_.2.2.1 55 (0 + ll_) a2_.toNat)), none, none, none, none], [.inl a2_, .inr (.inr (some (57, (0 + ll_))))], S0_)) rfl ?_
  refine sm_T_iald (n := 12) rfl rfl (by omega) (by omega) ?_
  have bx2_ : 0 ≤ S0_.2.2.1 57 (0 + ll_) a2_.toNat ∧ S0_.2.2.1 57 (0 + ll_) a2_.toNat ≤ 1000 := hI_.2 57 (0 + ll_) _
  refine sm_T_go 3 (c1 := (25, [some (.inr (.inr (some (6, 0)))), some (.inl a1_), some (.inl a2_), some (.inl a3_), some (.inl a4_), some (.inl (S0_.2.2.1 55 (0 + ll_) a2_.toNat)), some (.inl (S0_.2.2.1 57 (0 + ll_) a2_.toNat)), some (.inl 0), none, none], [], S0_)) rfl ?_
  refine (vl_108 a1_ a2_ a3_ a4_ dd_ ll_ n9_ S0_ hd_ hc_ h1_ h2_ h3_ his_ hcs_ hw_ _).1 (S0_.2.2.1 55 (0 + ll_) a2_.toNat) (S0_.2.2.1 57 (0 + ll_) a2_.toNat) 0 S0_ hI_ hF_ ⟨?_, ?_, ?_, trivial⟩ (Nat.lt_succ_self _)
  · omega
  · rfl
  · (intro _ j_ hj_; exfalso; omega)
end
/-! 99.zn7a -/
section
/-! ways by a cut; written by wip/p55/gen/vg -/

/-! all_ ways of_ a_ node -/
/-- only the_ two_ literals of_ node n_ have changed -/
def wfn (n_ : Nat) (S_ S'_ : sm_S) : Prop := (∀ j_, j_ ≠ 2 * n_ → j_ ≠ 2 * n_ + 1 → S'_.2.2.1 61 0 j_ = S_.2.2.1 61 0 j_ ∧ S'_.2.2.1 62 0 j_ = S_.2.2.1 62 0 j_ ∧ S'_.2.2.1 63 0 j_ = S_.2.2.1 63 0 j_) ∧ ∀ j_, (j_ < 6 * n_ ∨ 6 * n_ + 6 ≤ j_) → S'_.2.2.1 64 0 j_ = S_.2.2.1 64 0 j_
theorem wfn_rf {n_ : Nat} {S_ : sm_S} : wfn n_ S_ S_ := ⟨fun _ _ _ => ⟨rfl, rfl, rfl⟩, fun _ _ => rfl⟩
theorem wfn_tr {n_ : Nat} {S_ S'_ S2_ : sm_S} (h_ : wfn n_ S_ S'_) (g_ : wfn n_ S'_ S2_) : wfn n_ S_ S2_ := ⟨fun j_ h1_ h2_ => ⟨(g_.1 j_ h1_ h2_).1.trans (h_.1 j_ h1_ h2_).1, (g_.1 j_ h1_ h2_).2.1.trans (h_.1 j_ h1_ h2_).2.1, (g_.1 j_ h1_ h2_).2.2.trans (h_.1 j_ h1_ h2_).2.2⟩, fun j_ hj_ => (g_.2 j_ hj_).trans (h_.2 j_ hj_)⟩
theorem wfn_l {n_ l_ : Nat} {S_ S'_ : sm_S} (h_ : wfl l_ S_ S'_) (e_ : l_ = 2 * n_ ∨ l_ = 2 * n_ + 1) : wfn n_ S_ S'_ := ⟨fun j_ h1_ h2_ => h_.1 j_ (by omega), fun j_ hj_ => h_.2 j_ (by omega)⟩
theorem wfn_fr {w_ : sx_Wl} {n_ : Nat} {S_ S'_ : sm_S} (g_ : ai_fr (sx_W w_) S_ S'_) (a1_ : (sx_W w_).2.1 61 = false := by rfl) (a2_ : (sx_W w_).2.1 62 = false := by rfl) (a3_ : (sx_W w_).2.1 63 = false := by rfl) (a4_ : (sx_W w_).2.1 64 = false := by rfl) : wfn n_ S_ S'_ := ⟨fun j_ _ _ => ⟨(g_.2.2 61 a1_ 0 j_).1, (g_.2.2 62 a2_ 0 j_).1, (g_.2.2 63 a3_ 0 j_).1⟩, fun j_ _ => (g_.2.2 64 a4_ 0 j_).1⟩
/-- a_ literal's way_, whatever it_ is_ -/
def wok (F_ n_ : Int) (ll_ : Nat) (S_ : sm_S) (l_ m_ : Nat) : Prop := wo3 F_ n_ ll_ S_ l_ ∨ (S_.2.2.1 62 0 l_ = -2 ∧ S_.2.2.1 61 0 l_ < 268435456 ∧ S_.1 5 ll_ 2 ≠ -1 ∧ 0 ≤ S_.2.2.1 62 0 m_)
theorem wo3_fr {w_ : sx_Wl} {F_ n_ : Int} {ll_ l_ : Nat} {S_ S'_ : sm_S} (h_ : wo3 F_ n_ ll_ S_ l_) (g_ : ai_fr (sx_W w_) S_ S'_) (a1_ : (sx_W w_).2.1 61 = false := by rfl) (a2_ : (sx_W w_).2.1 62 = false := by rfl) (a3_ : (sx_W w_).2.1 63 = false := by rfl) (a4_ : (sx_W w_).2.1 64 = false := by rfl) (a5_ : (sx_W w_).2.1 55 = false := by rfl) (a6_ : (sx_W w_).2.1 59 = false := by rfl) (a7_ : (sx_W w_).2.1 60 = false := by rfl) (f5_ : (sx_W w_).1 5 2 = false := by rfl) : wo3 F_ n_ ll_ S'_ l_ := by
  unfold wo3
  rw [fr_arr g_ a1_, fr_arr g_ a2_, fr_arr g_ a3_, fr_arr g_ a4_, fr_arr g_ a5_, fr_arr g_ a6_, fr_arr g_ a7_, g_.1 5 ll_ 2 f5_]
  exact h_
/-! Mapper.tryCut -/
def vw_107 : sx_Wl := ([], [61, 62, 63, 64], [])
def vq_107 (a1_ : Int) (a2_ : Int) (a3_ : Int) (dd_ : Nat) (ll_ : Nat) (S0_ : sm_S) (u_ : Option sm_V) (S1_ : sm_S) : Prop := u_ = none ∧ gi S1_ ∧ ai_fr (sx_W vw_107) S0_ S1_ ∧ (wo3 (1 + S0_.1 3 dd_ 1 + S0_.1 3 dd_ 2) a1_ ll_ S1_ (2 * a1_).toNat ∧ wo3 (1 + S0_.1 3 dd_ 1 + S0_.1 3 dd_ 2) a1_ ll_ S1_ (2 * a1_ + 1).toNat ∧ wfn a1_.toNat S0_ S1_)
set_option maxHeartbeats 3000000 in
theorem vl_107 {sc_ : Nat × (Nat → Int)} (a1_ : Int) (a2_ : Int) (a3_ : Int) (dd_ : Nat) (ll_ : Nat) (S0_ : sm_S) (hd_ : S0_.2.1 6 0 0 = some dd_) (hc_ : S0_.2.1 6 0 1 = some ll_) (h1_ : 1 ≤ a1_ ∧ a1_ ≤ 1012) (h2_ : 0 ≤ a2_ ∧ a2_ ≤ 11) (h3_ : 0 ≤ a3_ ∧ a3_ < S0_.1 6 0 11) (his_ : (S0_.2.2.1 55 (0 + ll_) a2_.toNat) = 2 ∨ ((S0_.2.2.1 55 (0 + ll_) a2_.toNat) = 3 ∧ S0_.2.2.1 65 0 (3 * a3_ + 2).toNat ≠ -1)) (hcs_ : mcs (npd a1_ (S0_.2.2.1 59 0)) S0_) (hw0_ : wo3 (1 + S0_.1 3 dd_ 1 + S0_.1 3 dd_ 2) a1_ ll_ S0_ (2 * a1_).toNat) (hw1_ : wo3 (1 + S0_.1 3 dd_ 1 + S0_.1 3 dd_ 2) a1_ ll_ S0_ (2 * a1_ + 1).toNat) : ∀ nn_ : Nat, (∀ (is_ : Int) (mk_ : Int) (ct : Int) (vw_ : Int) (S_ : sm_S), gi S_ → ai_fr (sx_W vw_107) S0_ S_ → ((is_ = (S0_.2.2.1 55 (0 + ll_) a2_.toNat) ∧ 0 ≤ vw_ ∧ vw_ ≤ 48 ∧ ((is_ = 2 ∧ ct = 8) ∨ (is_ = 3 ∧ ct = 48))) ∧ (wo3 (1 + S0_.1 3 dd_ 1 + S0_.1 3 dd_ 2) a1_ ll_ S_ (2 * a1_).toNat) ∧ (wo3 (1 + S0_.1 3 dd_ 1 + S0_.1 3 dd_ 2) a1_ ll_ S_ (2 * a1_ + 1).toNat) ∧ (wfn a1_.toNat S0_ S_) ∧ True) → ((2 * (100 - vw_) + 1).toNat) < nn_ → sm_T (mt_P sc_) 3 107 (47, [some (.inr (.inr (some (6, 0)))), some (.inl a1_), some (.inl a2_), some (.inl a3_), some (.inl is_), some (.inl mk_), some (.inl ct), some (.inl vw_), none], [], S_) (fun ro9_ => ∃ u_ S1_, ro9_ = (.inl u_, S1_, 0) ∧ vq_107 a1_ a2_ a3_ dd_ ll_ S0_ u_ S1_)) ∧ (∀ (is_ : Int) (mk_ : Int) (ct : Int) (vw_ : Int) (tb_ : Int) (S_ : sm_S), gi S_ → ai_fr (sx_W vw_107) S0_ S_ → ((is_ = (S0_.2.2.1 55 (0 + ll_) a2_.toNat) ∧ 0 ≤ vw_ ∧ vw_ < 48 ∧ vw_ < ct ∧ ((is_ = 2 ∧ ct = 8) ∨ (is_ = 3 ∧ ct = 48))) ∧ (wo3 (1 + S0_.1 3 dd_ 1 + S0_.1 3 dd_ 2) a1_ ll_ S_ (2 * a1_).toNat) ∧ (wo3 (1 + S0_.1 3 dd_ 1 + S0_.1 3 dd_ 2) a1_ ll_ S_ (2 * a1_ + 1).toNat) ∧ (wfn a1_.toNat S0_ S_) ∧ True) → ((2 * (100 - vw_)).toNat) < nn_ → sm_T (mt_P sc_) 3 107 (90, [some (.inr (.inr (some (6, 0)))), some (.inl a1_), some (.inl a2_), some (.inl a3_), some (.inl is_), some (.inl mk_), some (.inl ct), some (.inl vw_), some (.inl tb_)], [], S_) (fun ro9_ => ∃ u_ S1_, ro9_ = (.inl u_, S1_, 0) ∧ vq_107 a1_ a2_ a3_ dd_ ll_ S0_ u_ S1_)) := by
  intro nn_
  induction nn_ with
  | zero => exact ⟨fun _ _ _ _ _ _ _ _ h_ => absurd h_ (Nat.not_lt_zero _), fun _ _ _ _ _ _ _ _ _ h_ => absurd h_ (Nat.not_lt_zero _)⟩
  | succ nn_ ih_ =>
    refine ⟨?_, ?_⟩
    · rintro is_ mk_ ct vw_ S_ hI_ hF_ ⟨h0_, hv0_, hv1_, hf_, -⟩ hm_
      have f55_ : S_.2.2.1 55 (0 + ll_) = S0_.2.2.1 55 (0 + ll_) := fr_arr hF_ rfl
      have f65_ : S_.2.2.1 65 0 = S0_.2.2.1 65 0 := fr_arr hF_ rfl
      have f59_ : S_.2.2.1 59 0 = S0_.2.2.1 59 0 := fr_arr hF_ rfl
      have f60_ : S_.2.2.1 60 0 = S0_.2.2.1 60 0 := fr_arr hF_ rfl
      have f1_ : S_.1 3 dd_ 1 = S0_.1 3 dd_ 1 := hF_.1 3 dd_ 1 rfl
      have f2_ : S_.1 3 dd_ 2 = S0_.1 3 dd_ 2 := hF_.1 3 dd_ 2 rfl
      have f5_ : S_.1 5 ll_ 2 = S0_.1 5 ll_ 2 := hF_.1 5 ll_ 2 rfl
      have ek_ : S_.1 6 0 11 = S0_.1 6 0 11 := hF_.1 6 0 11 rfl
      have ck_ : 0 ≤ S_.1 6 0 11 ∧ S_.1 6 0 11 ≤ 1024 := hI_.1 6 0 11 rfl
      refine sm_T_go 2 (c1 := (51, [some (.inr (.inr (some (6, 0)))), some (.inl a1_), some (.inl a2_), some (.inl a3_), some (.inl is_), some (.inl mk_), some (.inl ct), some (.inl vw_), none], [.inl ct, .inl vw_], S_)) rfl ?_
      refine sm_T_br (a := 3) (z := 72) rfl (fun cx1_ => ?_) (fun cx1_ => ?_)
      · have cx1_ : ct ≤ vw_ := of_decide_eq_true cx1_
        refine sm_T_rv rfl ⟨_, _, rfl, rfl, hI_, hF_, ?_⟩
        exact ⟨hv0_, hv1_, hf_⟩
      · have cx1_ : ¬ (ct ≤ vw_) := of_decide_eq_false cx1_
        refine sm_T_go 4 (c1 := (61, [some (.inr (.inr (some (6, 0)))), some (.inl a1_), some (.inl a2_), some (.inl a3_), some (.inl is_), some (.inl mk_), some (.inl ct), some (.inl vw_), none], [.inl 48, .inl a2_, .inr (.inr (some (69, 0)))], S_)) rfl ?_
        refine sm_T_bin (w := 48 * a2_) rfl (bi_mul (by omega) (by omega) (by omega)) ?_ -- pc_ 61
        refine sm_T_go 1 (c1 := (64, [some (.inr (.inr (some (6, 0)))), some (.inl a1_), some (.inl a2_), some (.inl a3_), some (.inl is_), some (.inl mk_), some (.inl ct), some (.inl vw_), none], [.inl vw_, .inl (48 * a2_), .inr (.inr (some (69, 0)))], S_)) rfl ?_
        refine sm_T_bin (w := 48 * a2_ + vw_) rfl (bi_add (by omega) (by omega) (by omega)) ?_ -- pc_ 64
        refine sm_T_iald (n := 576) rfl rfl (by omega) (by omega) ?_
        have bx2_ : 0 ≤ S_.2.2.1 69 0 (48 * a2_ + vw_).toNat ∧ S_.2.2.1 69 0 (48 * a2_ + vw_).toNat ≤ 255 := hI_.2 69 0 _
        refine sm_T_go 5 (c1 := (75, [some (.inr (.inr (some (6, 0)))), some (.inl a1_), some (.inl a2_), some (.inl a3_), some (.inl is_), some (.inl mk_), some (.inl ct), some (.inl vw_), some (.inl (S_.2.2.1 69 0 (48 * a2_ + vw_).toNat))], [.inl a3_, .inr (.inr (some (67, 0))), .inl (S_.2.2.1 69 0 (48 * a2_ + vw_).toNat)], S_)) rfl ?_
        refine sm_T_iald (n := 1024) rfl rfl (by omega) (by omega) ?_
        have bx3_ : 0 ≤ S_.2.2.1 67 0 a3_.toNat ∧ S_.2.2.1 67 0 a3_.toNat ≤ 255 := hI_.2 67 0 _
        refine sm_T_br (a := 1) (z := 14) rfl (fun cx4_ => ?_) (fun cx4_ => ?_)
        · have cx4_ : (S_.2.2.1 69 0 (48 * a2_ + vw_).toNat) ≠ (S_.2.2.1 67 0 a3_.toNat) := of_decide_eq_true cx4_
          refine sm_T_go 0 (c1 := (90, [some (.inr (.inr (some (6, 0)))), some (.inl a1_), some (.inl a2_), some (.inl a3_), some (.inl is_), some (.inl mk_), some (.inl ct), some (.inl vw_), some (.inl (S_.2.2.1 69 0 (48 * a2_ + vw_).toNat))], [], S_)) rfl ?_
          refine ih_.2 is_ mk_ ct vw_ (S_.2.2.1 69 0 (48 * a2_ + vw_).toNat) S_ hI_ hF_ ⟨?_, ?_, ?_, ?_, trivial⟩ ?_
          · omega
          · first | exact hv0_ | exact o87_
          · first | exact hv1_ | exact x87_
          · first | exact hf_ | exact wfn_tr hf_ (wfn_l w87_ (by omega))
          · omega
        · have cx4_ : ¬ ((S_.2.2.1 69 0 (48 * a2_ + vw_).toNat) ≠ (S_.2.2.1 67 0 a3_.toNat)) := of_decide_eq_false cx4_
          refine sm_T_go 3 (c1 := (82, [some (.inr (.inr (some (6, 0)))), some (.inl a1_), some (.inl a2_), some (.inl a3_), some (.inl is_), some (.inl mk_), some (.inl ct), some (.inl vw_), some (.inl (S_.2.2.1 69 0 (48 * a2_ + vw_).toNat))], [.inl a1_, .inl 2, .inr (.inr (some (6, 0)))], S_)) rfl ?_
          refine sm_T_bin (w := 2 * a1_) rfl (bi_mul (by omega) (by omega) (by omega)) ?_ -- pc_ 82
          refine sm_T_go 3 (c1 := (87, [some (.inr (.inr (some (6, 0)))), some (.inl a1_), some (.inl a2_), some (.inl a3_), some (.inl is_), some (.inl mk_), some (.inl ct), some (.inl vw_), some (.inl (S_.2.2.1 69 0 (48 * a2_ + vw_).toNat))], [.inl vw_, .inl a3_, .inl a2_, .inl (2 * a1_), .inr (.inr (some (6, 0)))], S_)) rfl ?_
          refine sm_T_cal (d1 := 2) (Q1 := vq_108 (2 * a1_) a2_ a3_ vw_ dd_ ll_ a1_ S_) rfl rfl (by decide) (vc_108 (2 * a1_) a2_ a3_ vw_ dd_ ll_ a1_ S_ hI_ (by exact (hF_.2.1 6 0 0 rfl).trans hd_) (by exact (hF_.2.1 6 0 1 rfl).trans hc_) (by omega) (by omega) (by (first | omega | (rw [hF_.1 6 0 11 rfl]; omega))) (by (rw [fr_arr (t := 55) (i := 0 + ll_) hF_ rfl, fr_arr (t := 65) (i := 0) hF_ rfl]; rcases his_ with w9_ | w9_; (left; omega); (right; exact ⟨w9_.1, by omega, by omega, w9_.2⟩))) (by (rw [fr_arr (t := 59) (i := 0) hF_ rfl]; exact mcs_fr hcs_ hF_)) (by (rw [hF_.1 3 dd_ 1 rfl, hF_.1 3 dd_ 2 rfl]; exact hv0_))) (fun u_ Sx5_ px8_ => ?_)
          obtain ⟨rfl, hIx6_, hFx7_, px8_⟩ := px8_
          have hFx9_ : ai_fr (sx_W vw_107) S0_ Sx5_ := ai_fr_tr hF_ (fr_le hFx7_ rfl)
          have o87_ : wo3 (1 + S0_.1 3 dd_ 1 + S0_.1 3 dd_ 2) a1_ ll_ Sx5_ (2 * a1_).toNat := by (have z9_ := px8_.1; rw [f1_, f2_] at z9_; exact z9_)
          have w87_ := px8_.2
          have x87_ : wo3 (1 + S0_.1 3 dd_ 1 + S0_.1 3 dd_ 2) a1_ ll_ Sx5_ (2 * a1_ + 1).toNat := wo3_cg hv1_ w87_ (by omega) (by omega) (hFx7_.1 5 ll_ 2 rfl) (fr_arr hFx7_ rfl) (fr_arr hFx7_ rfl) (fr_arr hFx7_ rfl) (fun k9_ => (hI_.2 55 (0 + ll_) k9_).2)
          refine sm_T_go 0 (c1 := (90, [some (.inr (.inr (some (6, 0)))), some (.inl a1_), some (.inl a2_), some (.inl a3_), some (.inl is_), some (.inl mk_), some (.inl ct), some (.inl vw_), some (.inl (S_.2.2.1 69 0 (48 * a2_ + vw_).toNat))], [], Sx5_)) rfl ?_
          refine ih_.2 is_ mk_ ct vw_ (S_.2.2.1 69 0 (48 * a2_ + vw_).toNat) Sx5_ hIx6_ hFx9_ ⟨?_, ?_, ?_, ?_, trivial⟩ ?_
          · omega
          · first | exact hv0_ | exact o87_
          · first | exact hv1_ | exact x87_
          · first | exact hf_ | exact wfn_tr hf_ (wfn_l w87_ (by omega))
          · omega
    · rintro is_ mk_ ct vw_ tb_ S_ hI_ hF_ ⟨h0_, hv0_, hv1_, hf_, -⟩ hm_
      have f55_ : S_.2.2.1 55 (0 + ll_) = S0_.2.2.1 55 (0 + ll_) := fr_arr hF_ rfl
      have f65_ : S_.2.2.1 65 0 = S0_.2.2.1 65 0 := fr_arr hF_ rfl
      have f59_ : S_.2.2.1 59 0 = S0_.2.2.1 59 0 := fr_arr hF_ rfl
      have f60_ : S_.2.2.1 60 0 = S0_.2.2.1 60 0 := fr_arr hF_ rfl
      have f1_ : S_.1 3 dd_ 1 = S0_.1 3 dd_ 1 := hF_.1 3 dd_ 1 rfl
      have f2_ : S_.1 3 dd_ 2 = S0_.1 3 dd_ 2 := hF_.1 3 dd_ 2 rfl
      have f5_ : S_.1 5 ll_ 2 = S0_.1 5 ll_ 2 := hF_.1 5 ll_ 2 rfl
      have ek_ : S_.1 6 0 11 = S0_.1 6 0 11 := hF_.1 6 0 11 rfl
      have ck_ : 0 ≤ S_.1 6 0 11 ∧ S_.1 6 0 11 ≤ 1024 := hI_.1 6 0 11 rfl
      refine sm_T_go 4 (c1 := (97, [some (.inr (.inr (some (6, 0)))), some (.inl a1_), some (.inl a2_), some (.inl a3_), some (.inl is_), some (.inl mk_), some (.inl ct), some (.inl vw_), some (.inl tb_)], [.inl a3_, .inr (.inr (some (67, 0))), .inl tb_], S_)) rfl ?_
      refine sm_T_iald (n := 1024) rfl rfl (by omega) (by omega) ?_
      have bx1_ : 0 ≤ S_.2.2.1 67 0 a3_.toNat ∧ S_.2.2.1 67 0 a3_.toNat ≤ 255 := hI_.2 67 0 _
      refine sm_T_go 1 (c1 := (100, [some (.inr (.inr (some (6, 0)))), some (.inl a1_), some (.inl a2_), some (.inl a3_), some (.inl is_), some (.inl mk_), some (.inl ct), some (.inl vw_), some (.inl tb_)], [.inl mk_, .inl (S_.2.2.1 67 0 a3_.toNat), .inl tb_], S_)) rfl ?_
      refine sm_T_bin (w := (i_xor (S_.2.2.1 67 0 a3_.toNat) mk_)) rfl rfl ?_ -- pc_ 100
      first | have bx2_ := i_xrp (x_ := (S_.2.2.1 67 0 a3_.toNat)) (y_ := mk_) (k_ := 1) (by decide) (by omega) (by omega) | have bx2_ := i_xrp (x_ := (S_.2.2.1 67 0 a3_.toNat)) (y_ := mk_) (k_ := 3) (by decide) (by omega) (by omega) | have bx2_ := i_xrp (x_ := (S_.2.2.1 67 0 a3_.toNat)) (y_ := mk_) (k_ := 4) (by decide) (by omega) (by omega) | have bx2_ := i_xrp (x_ := (S_.2.2.1 67 0 a3_.toNat)) (y_ := mk_) (k_ := 6) (by decide) (by omega) (by omega) | have bx2_ := i_xrp (x_ := (S_.2.2.1 67 0 a3_.toNat)) (y_ := mk_) (k_ := 8) (by decide) (by omega) (by omega) | have bx2_ := i_xrp (x_ := (S_.2.2.1 67 0 a3_.toNat)) (y_ := mk_) (k_ := 11) (by decide) (by omega) (by omega) | have bx2_ := i_xrp (x_ := (S_.2.2.1 67 0 a3_.toNat)) (y_ := mk_) (k_ := 12) (by decide) (by omega) (by omega) | have bx2_ := i_xrp (x_ := (S_.2.2.1 67 0 a3_.toNat)) (y_ := mk_) (k_ := 16) (by decide) (by omega) (by omega) | have bx2_ := i_xrp (x_ := (S_.2.2.1 67 0 a3_.toNat)) (y_ := mk_) (k_ := 22) (by decide) (by omega) (by omega) | have bx2_ := i_xrp (x_ := (S_.2.2.1 67 0 a3_.toNat)) (y_ := mk_) (k_ := 31) (by decide) (by omega) (by omega) | have bx2_ := i_xor_n (S_.2.2.1 67 0 a3_.toNat) mk_
      refine sm_T_br (a := 1) (z := 16) rfl (fun cx3_ => ?_) (fun cx3_ => ?_)
      · have cx3_ : tb_ ≠ (i_xor (S_.2.2.1 67 0 a3_.toNat) mk_) := of_decide_eq_true cx3_
        refine sm_T_inc (a := 7) (z := 1) (v := vw_) (w := vw_ + 1) rfl rfl (by omega) (by omega) (by omega) ?_ -- pc_ 117
        refine sm_T_go 1 (c1 := (47, [some (.inr (.inr (some (6, 0)))), some (.inl a1_), some (.inl a2_), some (.inl a3_), some (.inl is_), some (.inl mk_), some (.inl ct), some (.inl (vw_ + 1)), some (.inl tb_)], [], S_)) rfl ?_
        refine sm_T_wk [some (.inr (.inr (some (6, 0)))), some (.inl a1_), some (.inl a2_), some (.inl a3_), some (.inl is_), some (.inl mk_), some (.inl ct), some (.inl (vw_ + 1)), none] (by exact ⟨rfl, rfl, rfl, rfl, rfl, rfl, rfl, rfl, trivial⟩) ?_
        refine ih_.1 is_ mk_ ct (vw_ + 1) S_ hI_ hF_ ⟨?_, ?_, ?_, ?_, trivial⟩ ?_
        · omega
        · first | exact hv0_ | exact x114_
        · first | exact hv1_ | exact o114_
        · first | exact hf_ | exact wfn_tr hf_ (wfn_l w114_ (by omega))
        · omega
      · have cx3_ : ¬ (tb_ ≠ (i_xor (S_.2.2.1 67 0 a3_.toNat) mk_)) := of_decide_eq_false cx3_
        refine sm_T_go 3 (c1 := (107, [some (.inr (.inr (some (6, 0)))), some (.inl a1_), some (.inl a2_), some (.inl a3_), some (.inl is_), some (.inl mk_), some (.inl ct), some (.inl vw_), some (.inl tb_)], [.inl a1_, .inl 2, .inr (.inr (some (6, 0)))], S_)) rfl ?_
        refine sm_T_bin (w := 2 * a1_) rfl (bi_mul (by omega) (by omega) (by omega)) ?_ -- pc_ 107
        refine sm_T_go 1 (c1 := (109, [some (.inr (.inr (some (6, 0)))), some (.inl a1_), some (.inl a2_), some (.inl a3_), some (.inl is_), some (.inl mk_), some (.inl ct), some (.inl vw_), some (.inl tb_)], [.inl 1, .inl (2 * a1_), .inr (.inr (some (6, 0)))], S_)) rfl ?_
        refine sm_T_bin (w := 2 * a1_ + 1) rfl (bi_add (by omega) (by omega) (by omega)) ?_ -- pc_ 109
        refine sm_T_go 3 (c1 := (114, [some (.inr (.inr (some (6, 0)))), some (.inl a1_), some (.inl a2_), some (.inl a3_), some (.inl is_), some (.inl mk_), some (.inl ct), some (.inl vw_), some (.inl tb_)], [.inl vw_, .inl a3_, .inl a2_, .inl (2 * a1_ + 1), .inr (.inr (some (6, 0)))], S_)) rfl ?_
        refine sm_T_cal (d1 := 2) (Q1 := vq_108 (2 * a1_ + 1) a2_ a3_ vw_ dd_ ll_ a1_ S_) rfl rfl (by decide) (vc_108 (2 * a1_ + 1) a2_ a3_ vw_ dd_ ll_ a1_ S_ hI_ (by exact (hF_.2.1 6 0 0 rfl).trans hd_) (by exact (hF_.2.1 6 0 1 rfl).trans hc_) (by omega) (by omega) (by (first | omega | (rw [hF_.1 6 0 11 rfl]; omega))) (by (rw [fr_arr (t := 55) (i := 0 + ll_) hF_ rfl, fr_arr (t := 65) (i := 0) hF_ rfl]; rcases his_ with w9_ | w9_; (left; omega); (right; exact ⟨w9_.1, by omega, by omega, w9_.2⟩))) (by (rw [fr_arr (t := 59) (i := 0) hF_ rfl]; exact mcs_fr hcs_ hF_)) (by (rw [hF_.1 3 dd_ 1 rfl, hF_.1 3 dd_ 2 rfl]; exact hv1_))) (fun u_ Sx4_ px7_ => ?_)
        obtain ⟨rfl, hIx5_, hFx6_, px7_⟩ := px7_
        have hFx8_ : ai_fr (sx_W vw_107) S0_ Sx4_ := ai_fr_tr hF_ (fr_le hFx6_ rfl)
        have o114_ : wo3 (1 + S0_.1 3 dd_ 1 + S0_.1 3 dd_ 2) a1_ ll_ Sx4_ (2 * a1_ + 1).toNat := by (have z9_ := px7_.1; rw [f1_, f2_] at z9_; exact z9_)
        have w114_ := px7_.2
        have x114_ : wo3 (1 + S0_.1 3 dd_ 1 + S0_.1 3 dd_ 2) a1_ ll_ Sx4_ (2 * a1_).toNat := wo3_cg hv0_ w114_ (by omega) (by omega) (hFx6_.1 5 ll_ 2 rfl) (fr_arr hFx6_ rfl) (fr_arr hFx6_ rfl) (fr_arr hFx6_ rfl) (fun k9_ => (hI_.2 55 (0 + ll_) k9_).2)
        refine sm_T_inc (a := 7) (z := 1) (v := vw_) (w := vw_ + 1) rfl rfl (by omega) (by omega) (by omega) ?_ -- pc_ 117
        refine sm_T_go 1 (c1 := (47, [some (.inr (.inr (some (6, 0)))), some (.inl a1_), some (.inl a2_), some (.inl a3_), some (.inl is_), some (.inl mk_), some (.inl ct), some (.inl (vw_ + 1)), some (.inl tb_)], [], Sx4_)) rfl ?_
        refine sm_T_wk [some (.inr (.inr (some (6, 0)))), some (.inl a1_), some (.inl a2_), some (.inl a3_), some (.inl is_), some (.inl mk_), some (.inl ct), some (.inl (vw_ + 1)), none] (by exact ⟨rfl, rfl, rfl, rfl, rfl, rfl, rfl, rfl, trivial⟩) ?_
        refine ih_.1 is_ mk_ ct (vw_ + 1) Sx4_ hIx5_ hFx8_ ⟨?_, ?_, ?_, ?_, trivial⟩ ?_
        · omega
        · first | exact hv0_ | exact x114_
        · first | exact hv1_ | exact o114_
        · first | exact hf_ | exact wfn_tr hf_ (wfn_l w114_ (by omega))
        · omega
set_option maxHeartbeats 3000000 in
theorem vc_107 {sc_ : Nat × (Nat → Int)} (a1_ : Int) (a2_ : Int) (a3_ : Int) (dd_ : Nat) (ll_ : Nat) (S0_ : sm_S) (hI_ : gi S0_) (hd_ : S0_.2.1 6 0 0 = some dd_) (hc_ : S0_.2.1 6 0 1 = some ll_) (h1_ : 1 ≤ a1_ ∧ a1_ ≤ 1012) (h2_ : 0 ≤ a2_ ∧ a2_ ≤ 11) (h3_ : 0 ≤ a3_ ∧ a3_ < S0_.1 6 0 11) (his_ : (S0_.2.2.1 55 (0 + ll_) a2_.toNat) = 2 ∨ ((S0_.2.2.1 55 (0 + ll_) a2_.toNat) = 3 ∧ S0_.2.2.1 65 0 (3 * a3_ + 2).toNat ≠ -1)) (hcs_ : mcs (npd a1_ (S0_.2.2.1 59 0)) S0_) (hw0_ : wo3 (1 + S0_.1 3 dd_ 1 + S0_.1 3 dd_ 2) a1_ ll_ S0_ (2 * a1_).toNat) (hw1_ : wo3 (1 + S0_.1 3 dd_ 1 + S0_.1 3 dd_ 2) a1_ ll_ S0_ (2 * a1_ + 1).toNat) : sm_T (mt_P sc_) 3 107 (0, [some (.inr (.inr (some (6, 0)))), some (.inl a1_), some (.inl a2_), some (.inl a3_), none, none, none, none, none], [], S0_) (fun ro9_ => ∃ u_ S1_, ro9_ = (.inl u_, S1_, 0) ∧ vq_107 a1_ a2_ a3_ dd_ ll_ S0_ u_ S1_) := by
  have hF_ : ai_fr (sx_W vw_107) S0_ S0_ := ai_fr_rf
  have ck0_ : 0 ≤ S0_.1 6 0 11 ∧ S0_.1 6 0 11 ≤ 1024 := hI_.1 6 0 11 rfl
  refine sm_T_go 1 (c1 := (1, [some (.inr (.inr (some (6, 0)))), some (.inl a1_), some (.inl a2_), some (.inl a3_), none, none, none, none, none], [.inr (.inr (some (6, 0)))], S0_)) rfl ?_
  refine sm_T_gr rfl rfl ((hF_.2.1 6 0 1 rfl).trans hc_) ?_
  refine sm_T_go 2 (c1 := (8, [some (.inr (.inr (some (6, 0)))), some (.inl a1_), some (.inl a2_), some (.inl a3_), none, none, none, none, none], [.inl a2_, .inr (.inr (some (55, (0 + ll_))))], S0_)) rfl ?_
  refine sm_T_iald (n := 12) rfl rfl (by omega) (by omega) ?_
  have bx1_ : 0 ≤ S0_.2.2.1 55 (0 + ll_) a2_.toNat ∧ S0_.2.2.1 55 (0 + ll_) a2_.toNat ≤ 3 := hI_.2 55 (0 + ll_) _
  refine sm_T_go 3 (c1 := (14, [some (.inr (.inr (some (6, 0)))), some (.inl a1_), some (.inl a2_), some (.inl a3_), some (.inl (S0_.2.2.1 55 (0 + ll_) a2_.toNat)), none, none, none, none], [.inl 2, .inl (S0_.2.2.1 55 (0 + ll_) a2_.toNat)], S0_)) rfl ?_
  refine sm_T_br (a := 1) (z := 8) rfl (fun cx2_ => ?_) (fun cx2_ => ?_)
  · have cx2_ : (S0_.2.2.1 55 (0 + ll_) a2_.toNat) ≠ 2 := of_decide_eq_true cx2_
    refine sm_T_go 4 (c1 := (30, [some (.inr (.inr (some (6, 0)))), some (.inl a1_), some (.inl a2_), some (.inl a3_), some (.inl (S0_.2.2.1 55 (0 + ll_) a2_.toNat)), some (.inl 255), none, none, none], [.inl 2, .inl (S0_.2.2.1 55 (0 + ll_) a2_.toNat)], S0_)) rfl ?_
    refine sm_T_br (a := 1) (z := 7) rfl (fun cx3_ => ?_) (fun cx3_ => ?_)
    · have cx3_ : (S0_.2.2.1 55 (0 + ll_) a2_.toNat) ≠ 2 := of_decide_eq_true cx3_
      refine sm_T_go 2 (c1 := (41, [some (.inr (.inr (some (6, 0)))), some (.inl a1_), some (.inl a2_), some (.inl a3_), some (.inl (S0_.2.2.1 55 (0 + ll_) a2_.toNat)), some (.inl 255), none, none, none], [.inl (S0_.2.2.1 55 (0 + ll_) a2_.toNat), .inl 6], S0_)) rfl ?_
      refine sm_T_bin (w := (i_shl 6 (S0_.2.2.1 55 (0 + ll_) a2_.toNat))) rfl rfl ?_ -- pc_ 41
      have vp9_ := vpw (e_ := (S0_.2.2.1 55 (0 + ll_) a2_.toNat)) (by omega)
      refine sm_T_go 3 (c1 := (47, [some (.inr (.inr (some (6, 0)))), some (.inl a1_), some (.inl a2_), some (.inl a3_), some (.inl (S0_.2.2.1 55 (0 + ll_) a2_.toNat)), some (.inl 255), some (.inl (i_shl 6 (S0_.2.2.1 55 (0 + ll_) a2_.toNat))), some (.inl 0), none], [], S0_)) rfl ?_
      refine (vl_107 a1_ a2_ a3_ dd_ ll_ S0_ hd_ hc_ h1_ h2_ h3_ his_ hcs_ hw0_ hw1_ _).1 (S0_.2.2.1 55 (0 + ll_) a2_.toNat) 255 (i_shl 6 (S0_.2.2.1 55 (0 + ll_) a2_.toNat)) 0 S0_ hI_ hF_ ⟨?_, ?_, ?_, ?_, trivial⟩ (Nat.lt_succ_self _)
      · omega
      · exact hw0_
      · exact hw1_
      · exact wfn_rf
    · have cx3_ : ¬ ((S0_.2.2.1 55 (0 + ll_) a2_.toNat) ≠ 2) := of_decide_eq_false cx3_
      refine sm_T_go 3 (c1 := (41, [some (.inr (.inr (some (6, 0)))), some (.inl a1_), some (.inl a2_), some (.inl a3_), some (.inl (S0_.2.2.1 55 (0 + ll_) a2_.toNat)), some (.inl 255), none, none, none], [.inl (S0_.2.2.1 55 (0 + ll_) a2_.toNat), .inl 2], S0_)) rfl ?_
      refine sm_T_bin (w := (i_shl 2 (S0_.2.2.1 55 (0 + ll_) a2_.toNat))) rfl rfl ?_ -- pc_ 41
      have vp9_ := vpw (e_ := (S0_.2.2.1 55 (0 + ll_) a2_.toNat)) (by omega)
      refine sm_T_go 3 (c1 := (47, [some (.inr (.inr (some (6, 0)))), some (.inl a1_), some (.inl a2_), some (.inl a3_), some (.inl (S0_.2.2.1 55 (0 + ll_) a2_.toNat)), some (.inl 255), some (.inl (i_shl 2 (S0_.2.2.1 55 (0 + ll_) a2_.toNat))), some (.inl 0), none], [], S0_)) rfl ?_
      refine (vl_107 a1_ a2_ a3_ dd_ ll_ S0_ hd_ hc_ h1_ h2_ h3_ his_ hcs_ hw0_ hw1_ _).1 (S0_.2.2.1 55 (0 + ll_) a2_.toNat) 255 (i_shl 2 (S0_.2.2.1 55 (0 + ll_) a2_.toNat)) 0 S0_ hI_ hF_ ⟨?_, ?_, ?_, ?_, trivial⟩ (Nat.lt_succ_self _)
      · omega
      · exact hw0_
      · exact hw1_
      · exact wfn_rf
  · have cx2_ : ¬ ((S0_.2.2.1 55 (0 + ll_) a2_.toNat) ≠ 2) := of_decide_eq_false cx2_
    refine sm_T_go 5 (c1 := (30, [some (.inr (.inr (some (6, 0)))), some (.inl a1_), some (.inl a2_), some (.inl a3_), some (.inl (S0_.2.2.1 55 (0 + ll_) a2_.toNat)), some (.inl 15), none, none, none], [.inl 2, .inl (S0_.2.2.1 55 (0 + ll_) a2_.toNat)], S0_)) rfl ?_
    refine sm_T_br (a := 1) (z := 7) rfl (fun cx6_ => ?_) (fun cx6_ => ?_)
    · have cx6_ : (S0_.2.2.1 55 (0 + ll_) a2_.toNat) ≠ 2 := of_decide_eq_true cx6_
      exfalso; omega
    · have cx6_ : ¬ ((S0_.2.2.1 55 (0 + ll_) a2_.toNat) ≠ 2) := of_decide_eq_false cx6_
      refine sm_T_go 3 (c1 := (41, [some (.inr (.inr (some (6, 0)))), some (.inl a1_), some (.inl a2_), some (.inl a3_), some (.inl (S0_.2.2.1 55 (0 + ll_) a2_.toNat)), some (.inl 15), none, none, none], [.inl (S0_.2.2.1 55 (0 + ll_) a2_.toNat), .inl 2], S0_)) rfl ?_
      refine sm_T_bin (w := (i_shl 2 (S0_.2.2.1 55 (0 + ll_) a2_.toNat))) rfl rfl ?_ -- pc_ 41
      have vp9_ := vpw (e_ := (S0_.2.2.1 55 (0 + ll_) a2_.toNat)) (by omega)
      refine sm_T_go 3 (c1 := (47, [some (.inr (.inr (some (6, 0)))), some (.inl a1_), some (.inl a2_), some (.inl a3_), some (.inl (S0_.2.2.1 55 (0 + ll_) a2_.toNat)), some (.inl 15), some (.inl (i_shl 2 (S0_.2.2.1 55 (0 + ll_) a2_.toNat))), some (.inl 0), none], [], S0_)) rfl ?_
      refine (vl_107 a1_ a2_ a3_ dd_ ll_ S0_ hd_ hc_ h1_ h2_ h3_ his_ hcs_ hw0_ hw1_ _).1 (S0_.2.2.1 55 (0 + ll_) a2_.toNat) 15 (i_shl 2 (S0_.2.2.1 55 (0 + ll_) a2_.toNat)) 0 S0_ hI_ hF_ ⟨?_, ?_, ?_, ?_, trivial⟩ (Nat.lt_succ_self _)
      · omega
      · exact hw0_
      · exact hw1_
      · exact wfn_rf
end
/-! 99.zn8a -/
section
/-! all ways of a node; written by wip/p55/gen/vg -/

theorem mkd_fr {w_ : sx_Wl} {dd_ F_ : Nat} {S_ S'_ : sm_S} (h_ : mkd dd_ F_ S_ (S_.2.2.1 59 0)) (g_ : ai_fr (sx_W w_) S_ S'_) (h2_ : (sx_W w_).1 3 2 = false := by rfl) (h3_ : (sx_W w_).1 3 3 = false := by rfl) (h4_ : (sx_W w_).1 3 4 = false := by rfl) (a1_ : (sx_W w_).2.1 42 = false := by rfl) (a2_ : (sx_W w_).2.1 43 = false := by rfl) (a3_ : (sx_W w_).2.1 44 = false := by rfl) (a4_ : (sx_W w_).2.1 45 = false := by rfl) (a5_ : (sx_W w_).2.1 46 = false := by rfl) (a6_ : (sx_W w_).2.1 59 = false := by rfl) : mkd dd_ F_ S'_ (S'_.2.2.1 59 0) := by
  unfold mkd srp rtv
  rw [g_.1 3 dd_ 2 h2_, g_.1 3 dd_ 3 h3_, g_.1 3 dd_ 4 h4_, fr_arr g_ a1_, fr_arr g_ a2_, fr_arr g_ a3_, fr_arr g_ a4_, fr_arr g_ a5_, fr_arr g_ a6_]
  exact h_
/-- a_ literal of_ node n_ gets the_ inverted way_ of_ the_ other -/
theorem wok_iv {F_ n_ : Int} {ll_ l_ m_ : Nat} {S_ : sm_S} {z_ : Int} (h_ : wo3 F_ n_ ll_ S_ l_) (g_ : wo3 F_ n_ ll_ S_ m_) (ne_ : m_ ≠ l_) (hl_ : 2 * n_ ≤ (l_ : Int)) (iv_ : S_.1 5 ll_ 2 ≠ -1) (hz_ : z_ < S_.2.2.1 61 0 l_) (hm_ : S_.2.2.1 61 0 m_ ≤ z_) (c61_ : S_.2.2.1 61 0 l_ ≤ 268435456) (c55_ : ∀ k_, S_.2.2.1 55 (0 + ll_) k_ ≤ 3) :
    wok F_ n_ ll_ (sm_aI (sm_aI S_ 61 0 l_ z_) 62 0 l_ (-2)) l_ m_ ∧ wok F_ n_ ll_ (sm_aI (sm_aI S_ 61 0 l_ z_) 62 0 l_ (-2)) m_ l_ ∧ wfl l_ S_ (sm_aI (sm_aI S_ 61 0 l_ z_) 62 0 l_ (-2)) := by
  have r61_ : ∀ j_, (sm_aI (sm_aI S_ 61 0 l_ z_) 62 0 l_ (-2)).2.2.1 61 0 j_ = if j_ = l_ then z_ else S_.2.2.1 61 0 j_ := fun j_ => by rw [rd_ne (by decide), rd_eq]
  have r62_ : ∀ j_, (sm_aI (sm_aI S_ 61 0 l_ z_) 62 0 l_ (-2)).2.2.1 62 0 j_ = if j_ = l_ then -2 else S_.2.2.1 62 0 j_ := fun j_ => by rw [rd_eq, rd_ne (by decide)]
  have w_ : wfl l_ S_ (sm_aI (sm_aI S_ 61 0 l_ z_) 62 0 l_ (-2)) := by
    refine ⟨fun j_ hj_ => ?_, fun j_ hj_ => ?_⟩
    · rw [r61_, r62_, if_neg hj_, if_neg hj_, rd_ne (by decide), rd_ne (by decide)]; exact ⟨rfl, rfl, rfl⟩
    · rw [rd_ne (by decide), rd_ne (by decide)]
  refine ⟨Or.inr ⟨by rw [r62_, if_pos rfl], by rw [r61_, if_pos rfl]; omega, iv_, ?_⟩, Or.inl (wo3_cg g_ w_ ne_ hl_ rfl (by rw [rd_ne_ (by decide), rd_ne_ (by decide)]) (by rw [rd_ne_ (by decide), rd_ne_ (by decide)]) (by rw [rd_ne_ (by decide), rd_ne_ (by decide)]) c55_), w_⟩
  rw [r62_, if_neg ne_]
  rcases g_ with g_ | g_
  · omega
  · exact g_.1
/-! Mapper.findWays -/
def vw_99 : sx_Wl := ([(6, 11), (6, 13)], [61, 62, 63, 64, 65, 66, 67, 68, 70, 71], [])
def vq_99 (a1_ : Int) (dd_ : Nat) (F_ : Nat) (ll_ : Nat) (S0_ : sm_S) (u_ : Option sm_V) (S1_ : sm_S) : Prop := u_ = none ∧ gi S1_ ∧ ai_fr (sx_W vw_99) S0_ S1_ ∧ (wok (1 + S0_.1 3 dd_ 1 + S0_.1 3 dd_ 2) a1_ ll_ S1_ (2 * a1_).toNat (2 * a1_ + 1).toNat ∧ wok (1 + S0_.1 3 dd_ 1 + S0_.1 3 dd_ 2) a1_ ll_ S1_ (2 * a1_ + 1).toNat (2 * a1_).toNat ∧ wfn a1_.toNat S0_ S1_)
set_option maxHeartbeats 4000000 in
set_option maxRecDepth 20000 in
theorem vl_99 {sc_ : Nat × (Nat → Int)} (a1_ : Int) (dd_ : Nat) (F_ : Nat) (ll_ : Nat) (S0_ : sm_S) (hd_ : S0_.2.1 6 0 0 = some dd_) (hc_ : S0_.2.1 6 0 1 = some ll_) (hg_ : dgr dd_ F_ S0_) (hs_ : swp dd_ F_ S0_) (hk_ : mkd dd_ F_ S0_ (S0_.2.2.1 59 0)) (h1_ : (F_ : Int) ≤ a1_ ∧ a1_ < S0_.1 3 dd_ 4) (hn_ : S0_.2.2.1 59 0 a1_.toNat = 1) : ∀ nn_ : Nat, (∀ (i9_ : Int) (S_ : sm_S), gi S_ → ai_fr (sx_W vw_99) S0_ S_ → ((0 ≤ i9_ ∧ i9_ ≤ 1024) ∧ (wo3 (1 + S0_.1 3 dd_ 1 + S0_.1 3 dd_ 2) a1_ ll_ S_ (2 * a1_).toNat) ∧ (wo3 (1 + S0_.1 3 dd_ 1 + S0_.1 3 dd_ 2) a1_ ll_ S_ (2 * a1_ + 1).toNat) ∧ (wfn a1_.toNat S0_ S_) ∧ (mcs (npd a1_ (S0_.2.2.1 59 0)) S_) ∧ (∀ i_ : Nat, (i_ : Int) < S_.1 6 0 11 → S_.2.2.1 66 0 i_ < S_.1 6 0 11) ∧ True) → ((90000000 - i9_).toNat) < nn_ → sm_T (mt_P sc_) 4 99 (53, [some (.inr (.inr (some (6, 0)))), some (.inl a1_), some (.inl i9_), none, none], [], S_) (fun ro9_ => ∃ u_ S1_, ro9_ = (.inl u_, S1_, 0) ∧ vq_99 a1_ dd_ F_ ll_ S0_ u_ S1_)) ∧ (∀ (c9_ : Int) (S_ : sm_S), gi S_ → ai_fr (sx_W vw_99) S0_ S_ → ((0 ≤ c9_ ∧ c9_ ≤ 12) ∧ (wo3 (1 + S0_.1 3 dd_ 1 + S0_.1 3 dd_ 2) a1_ ll_ S_ (2 * a1_).toNat) ∧ (wo3 (1 + S0_.1 3 dd_ 1 + S0_.1 3 dd_ 2) a1_ ll_ S_ (2 * a1_ + 1).toNat) ∧ (wfn a1_.toNat S0_ S_) ∧ (mcs (npd a1_ (S0_.2.2.1 59 0)) S_) ∧ (∀ i_ : Nat, (i_ : Int) < S_.1 6 0 11 → S_.2.2.1 66 0 i_ < S_.1 6 0 11) ∧ True) → ((10000 * (100 - c9_) + 9000).toNat) < nn_ → sm_T (mt_P sc_) 4 99 (81, [some (.inr (.inr (some (6, 0)))), some (.inl a1_), some (.inl c9_), none, none], [], S_) (fun ro9_ => ∃ u_ S1_, ro9_ = (.inl u_, S1_, 0) ∧ vq_99 a1_ dd_ F_ ll_ S0_ u_ S1_)) ∧ (∀ (c9_ : Int) (i9_ : Int) (S_ : sm_S), gi S_ → ai_fr (sx_W vw_99) S0_ S_ → ((0 ≤ c9_ ∧ c9_ < 12 ∧ 0 ≤ i9_ ∧ i9_ ≤ 1024) ∧ (wo3 (1 + S0_.1 3 dd_ 1 + S0_.1 3 dd_ 2) a1_ ll_ S_ (2 * a1_).toNat) ∧ (wo3 (1 + S0_.1 3 dd_ 1 + S0_.1 3 dd_ 2) a1_ ll_ S_ (2 * a1_ + 1).toNat) ∧ (wfn a1_.toNat S0_ S_) ∧ (mcs (npd a1_ (S0_.2.2.1 59 0)) S_) ∧ (∀ i_ : Nat, (i_ : Int) < S_.1 6 0 11 → S_.2.2.1 66 0 i_ < S_.1 6 0 11) ∧ True) → ((10000 * (100 - c9_) + 8000 - i9_).toNat) < nn_ → sm_T (mt_P sc_) 4 99 (94, [some (.inr (.inr (some (6, 0)))), some (.inl a1_), some (.inl c9_), some (.inl i9_), none], [], S_) (fun ro9_ => ∃ u_ S1_, ro9_ = (.inl u_, S1_, 0) ∧ vq_99 a1_ dd_ F_ ll_ S0_ u_ S1_)) := by
  intro nn_
  induction nn_ with
  | zero => exact ⟨fun _ _ _ _ _ h_ => absurd h_ (Nat.not_lt_zero _), fun _ _ _ _ _ h_ => absurd h_ (Nat.not_lt_zero _), fun _ _ _ _ _ _ h_ => absurd h_ (Nat.not_lt_zero _)⟩
  | succ nn_ ih_ =>
    refine ⟨?_, ?_, ?_⟩
    · rintro i9_ S_ hI_ hF_ ⟨h0_, hv0_, hv1_, hf_, hcs_, ho_, -⟩ hm_
      have f55_ : S_.2.2.1 55 (0 + ll_) = S0_.2.2.1 55 (0 + ll_) := fr_arr hF_ rfl
      have f59_ : S_.2.2.1 59 0 = S0_.2.2.1 59 0 := fr_arr hF_ rfl
      have f60_ : S_.2.2.1 60 0 = S0_.2.2.1 60 0 := fr_arr hF_ rfl
      have f1_ : S_.1 3 dd_ 1 = S0_.1 3 dd_ 1 := hF_.1 3 dd_ 1 rfl
      have f2_ : S_.1 3 dd_ 2 = S0_.1 3 dd_ 2 := hF_.1 3 dd_ 2 rfl
      have f5_ : S_.1 5 ll_ 2 = S0_.1 5 ll_ 2 := hF_.1 5 ll_ 2 rfl
      have ck_ : 0 ≤ S_.1 6 0 11 ∧ S_.1 6 0 11 ≤ 1024 := hI_.1 6 0 11 rfl
      have cq_ : 0 ≤ S_.1 5 ll_ 1 ∧ S_.1 5 ll_ 1 ≤ 12 := hI_.1 5 ll_ 1 rfl
      have n13_ : 0 ≤ S_.1 3 dd_ 4 ∧ S_.1 3 dd_ 4 ≤ 1013 := hI_.1 3 dd_ 4 rfl
      have f4_ : S_.1 3 dd_ 4 = S0_.1 3 dd_ 4 := hF_.1 3 dd_ 4 rfl
      have g1_ := hg_.1
      have bx1_ : 0 ≤ S_.1 6 0 11 ∧ S_.1 6 0 11 ≤ 1024 := hI_.1 6 0 11 rfl
      refine sm_T_go 3 (c1 := (58, [some (.inr (.inr (some (6, 0)))), some (.inl a1_), some (.inl i9_), none, none], [.inl (S_.1 6 0 11), .inl i9_], S_)) rfl ?_
      refine sm_T_br (a := 3) (z := 21) rfl (fun cx2_ => ?_) (fun cx2_ => ?_)
      · have cx2_ : (S_.1 6 0 11) ≤ i9_ := of_decide_eq_true cx2_
        refine sm_T_go 2 (c1 := (81, [some (.inr (.inr (some (6, 0)))), some (.inl a1_), some (.inl 0), none, none], [], S_)) rfl ?_
        refine ih_.2.1 0 S_ hI_ hF_ ⟨?_, ?_, ?_, ?_, ?_, ?_, trivial⟩ ?_
        · omega
        · exact hv0_
        · exact hv1_
        · exact hf_
        · exact hcs_
        · exact ho_
        · omega
      · have cx2_ : ¬ ((S_.1 6 0 11) ≤ i9_) := of_decide_eq_false cx2_
        refine sm_T_go 6 (c1 := (69, [some (.inr (.inr (some (6, 0)))), some (.inl a1_), some (.inl i9_), none, none], [.inl i9_, .inl a1_, .inr (.inr (some (6, 0))), .inl i9_, .inr (.inr (some (67, 0)))], S_)) rfl ?_
        refine sm_T_cal (d1 := 2) (Q1 := vq_105 a1_ i9_ dd_ S_) rfl rfl (by decide) (vc_105 a1_ i9_ dd_ S_ hI_ (by exact (hF_.2.1 6 0 0 rfl).trans hd_) (by omega) (by omega)) (fun u_ Sx3_ px6_ => ?_)
        obtain ⟨vx8_, rfl, hIx4_, hFx5_, px6_⟩ := px6_
        have hFx7_ : ai_fr (sx_W vw_99) S0_ Sx3_ := ai_fr_tr hF_ (fr_le hFx5_ rfl)
        have ex9_ : Sx3_.1 6 0 11 = S_.1 6 0 11 := hFx5_.1 6 0 11 rfl
        have t69_ := px6_
        have k69_ := hFx5_.1 6 0 11 rfl
        have u69_ := wo3_fr hv0_ hFx5_
        have v69_ := wo3_fr hv1_ hFx5_
        have w69_ := wfn_tr hf_ (wfn_fr (n_ := a1_.toNat) hFx5_)
        have c69_ : mcs (npd a1_ (S0_.2.2.1 59 0)) Sx3_ := mcs_fr hcs_ hFx5_
        have o69_ : ∀ i_ : Nat, (i_ : Int) < Sx3_.1 6 0 11 → Sx3_.2.2.1 66 0 i_ < Sx3_.1 6 0 11 := fun i_ q9_ => by (rw [k69_] at q9_ ⊢; rw [(hFx5_.2.2 66 rfl 0 i_).1]; exact ho_ i_ q9_)
        refine sm_T_iast (n := 1024) rfl rfl (by omega) (by omega) ?_
        have hIx10_ : gi (sm_aI Sx3_ 67 0 i9_.toNat vx8_) := gi_aI hIx4_ (show 0 ≤ vx8_ ∧ vx8_ ≤ 255 from ⟨by omega, by omega⟩)
        have hFx11_ : ai_fr (sx_W vw_99) S0_ (sm_aI Sx3_ 67 0 i9_.toNat vx8_) := ai_fr_tr hFx7_ (ai_fr_aI rfl)
        refine sm_T_inc (a := 2) (z := 1) (v := i9_) (w := i9_ + 1) rfl rfl (by omega) (by omega) (by omega) ?_ -- pc_ 73
        refine sm_T_go 1 (c1 := (53, [some (.inr (.inr (some (6, 0)))), some (.inl a1_), some (.inl (i9_ + 1)), none, none], [], sm_aI Sx3_ 67 0 i9_.toNat vx8_)) rfl ?_
        refine ih_.1 (i9_ + 1) (sm_aI Sx3_ 67 0 i9_.toNat vx8_) hIx10_ hFx11_ ⟨?_, ?_, ?_, ?_, ?_, ?_, trivial⟩ ?_
        · omega
        · exact u69_
        · exact v69_
        · exact w69_
        · exact c69_
        · exact o69_
        · omega
    · rintro c9_ S_ hI_ hF_ ⟨h0_, hv0_, hv1_, hf_, hcs_, ho_, -⟩ hm_
      have f55_ : S_.2.2.1 55 (0 + ll_) = S0_.2.2.1 55 (0 + ll_) := fr_arr hF_ rfl
      have f59_ : S_.2.2.1 59 0 = S0_.2.2.1 59 0 := fr_arr hF_ rfl
      have f60_ : S_.2.2.1 60 0 = S0_.2.2.1 60 0 := fr_arr hF_ rfl
      have f1_ : S_.1 3 dd_ 1 = S0_.1 3 dd_ 1 := hF_.1 3 dd_ 1 rfl
      have f2_ : S_.1 3 dd_ 2 = S0_.1 3 dd_ 2 := hF_.1 3 dd_ 2 rfl
      have f5_ : S_.1 5 ll_ 2 = S0_.1 5 ll_ 2 := hF_.1 5 ll_ 2 rfl
      have ck_ : 0 ≤ S_.1 6 0 11 ∧ S_.1 6 0 11 ≤ 1024 := hI_.1 6 0 11 rfl
      have cq_ : 0 ≤ S_.1 5 ll_ 1 ∧ S_.1 5 ll_ 1 ≤ 12 := hI_.1 5 ll_ 1 rfl
      have n13_ : 0 ≤ S_.1 3 dd_ 4 ∧ S_.1 3 dd_ 4 ≤ 1013 := hI_.1 3 dd_ 4 rfl
      have f4_ : S_.1 3 dd_ 4 = S0_.1 3 dd_ 4 := hF_.1 3 dd_ 4 rfl
      have g1_ := hg_.1
      refine sm_T_go 2 (c1 := (83, [some (.inr (.inr (some (6, 0)))), some (.inl a1_), some (.inl c9_), none, none], [.inr (.inr (some (6, 0))), .inl c9_], S_)) rfl ?_
      refine sm_T_gr rfl rfl ((hF_.2.1 6 0 1 rfl).trans hc_) ?_
      have bx1_ : 0 ≤ S_.1 5 ll_ 1 ∧ S_.1 5 ll_ 1 ≤ 12 := hI_.1 5 ll_ 1 rfl
      refine sm_T_go 1 (c1 := (89, [some (.inr (.inr (some (6, 0)))), some (.inl a1_), some (.inl c9_), none, none], [.inl (S_.1 5 ll_ 1), .inl c9_], S_)) rfl ?_
      refine sm_T_br (a := 3) (z := 73) rfl (fun cx2_ => ?_) (fun cx2_ => ?_)
      · have cx2_ : (S_.1 5 ll_ 1) ≤ c9_ := of_decide_eq_true cx2_
        refine sm_T_go 1 (c1 := (163, [some (.inr (.inr (some (6, 0)))), some (.inl a1_), some (.inl c9_), none, none], [.inr (.inr (some (6, 0)))], S_)) rfl ?_
        refine sm_T_gr rfl rfl ((hF_.2.1 6 0 1 rfl).trans hc_) ?_
        have bx3_ : (-1) ≤ S_.1 5 ll_ 2 ∧ S_.1 5 ll_ 2 ≤ 11 := hI_.1 5 ll_ 2 rfl
        refine sm_T_go 2 (c1 := (170, [some (.inr (.inr (some (6, 0)))), some (.inl a1_), some (.inl c9_), none, none], [.inl (-1), .inl (S_.1 5 ll_ 2)], S_)) rfl ?_
        refine sm_T_br (a := 0) (z := 106) rfl (fun cx4_ => ?_) (fun cx4_ => ?_)
        · have cx4_ : (S_.1 5 ll_ 2) = (-1) := of_decide_eq_true cx4_
          refine sm_T_rv rfl ⟨_, _, rfl, rfl, hI_, hF_, ?_⟩
          first | exact ⟨Or.inl hv0_, Or.inl hv1_, hf_⟩ | (have z9_ := wok_iv hv0_ hv1_ (by omega) (by omega) (by omega) (show S_.2.2.1 61 0 (2 * a1_ + 1).toNat + S_.2.2.1 57 (0 + ll_) (S_.1 5 ll_ 2).toNat < S_.2.2.1 61 0 (2 * a1_).toNat by omega) (by omega) (by omega) (fun k9_ => (hI_.2 55 (0 + ll_) k9_).2); exact ⟨z9_.1, z9_.2.1, wfn_tr hf_ (wfn_l z9_.2.2 (by omega))⟩) | (have z9_ := wok_iv hv1_ hv0_ (by omega) (by omega) (by omega) (show S_.2.2.1 61 0 (2 * a1_).toNat + S_.2.2.1 57 (0 + ll_) (S_.1 5 ll_ 2).toNat < S_.2.2.1 61 0 (2 * a1_ + 1).toNat by omega) (by omega) (by omega) (fun k9_ => (hI_.2 55 (0 + ll_) k9_).2); exact ⟨z9_.2.1, z9_.1, wfn_tr hf_ (wfn_l z9_.2.2 (by omega))⟩)
        · have cx4_ : ¬ ((S_.1 5 ll_ 2) = (-1)) := of_decide_eq_false cx4_
          refine sm_T_go 1 (c1 := (174, [some (.inr (.inr (some (6, 0)))), some (.inl a1_), some (.inl c9_), none, none], [.inr (.inr (some (6, 0)))], S_)) rfl ?_
          refine sm_T_gr rfl rfl ((hF_.2.1 6 0 1 rfl).trans hc_) ?_
          refine sm_T_go 2 (c1 := (181, [some (.inr (.inr (some (6, 0)))), some (.inl a1_), some (.inl c9_), none, none], [.inr (.inr (some (6, 0))), .inr (.inr (some (57, (0 + ll_))))], S_)) rfl ?_
          refine sm_T_gr rfl rfl ((hF_.2.1 6 0 1 rfl).trans hc_) ?_
          refine sm_T_go 1 (c1 := (187, [some (.inr (.inr (some (6, 0)))), some (.inl a1_), some (.inl c9_), none, none], [.inl (S_.1 5 ll_ 2), .inr (.inr (some (57, (0 + ll_))))], S_)) rfl ?_
          refine sm_T_iald (n := 12) rfl rfl (by omega) (by omega) ?_
          have bx5_ : 0 ≤ S_.2.2.1 57 (0 + ll_) (S_.1 5 ll_ 2).toNat ∧ S_.2.2.1 57 (0 + ll_) (S_.1 5 ll_ 2).toNat ≤ 1000 := hI_.2 57 (0 + ll_) _
          refine sm_T_go 5 (c1 := (195, [some (.inr (.inr (some (6, 0)))), some (.inl a1_), some (.inl (S_.2.2.1 57 (0 + ll_) (S_.1 5 ll_ 2).toNat)), none, none], [.inl a1_, .inl 2, .inr (.inr (some (61, 0)))], S_)) rfl ?_
          refine sm_T_bin (w := 2 * a1_) rfl (bi_mul (by omega) (by omega) (by omega)) ?_ -- pc_ 195
          refine sm_T_iald (n := 2026) rfl rfl (by omega) (by omega) ?_
          have bx6_ : 0 ≤ S_.2.2.1 61 0 (2 * a1_).toNat ∧ S_.2.2.1 61 0 (2 * a1_).toNat ≤ 268435456 := hI_.2 61 0 _
          refine sm_T_go 5 (c1 := (204, [some (.inr (.inr (some (6, 0)))), some (.inl a1_), some (.inl (S_.2.2.1 57 (0 + ll_) (S_.1 5 ll_ 2).toNat)), some (.inl (S_.2.2.1 61 0 (2 * a1_).toNat)), none], [.inl a1_, .inl 2, .inr (.inr (some (61, 0)))], S_)) rfl ?_
          refine sm_T_bin (w := 2 * a1_) rfl (bi_mul (by omega) (by omega) (by omega)) ?_ -- pc_ 204
          refine sm_T_go 1 (c1 := (206, [some (.inr (.inr (some (6, 0)))), some (.inl a1_), some (.inl (S_.2.2.1 57 (0 + ll_) (S_.1 5 ll_ 2).toNat)), some (.inl (S_.2.2.1 61 0 (2 * a1_).toNat)), none], [.inl 1, .inl (2 * a1_), .inr (.inr (some (61, 0)))], S_)) rfl ?_
          refine sm_T_bin (w := 2 * a1_ + 1) rfl (bi_add (by omega) (by omega) (by omega)) ?_ -- pc_ 206
          refine sm_T_iald (n := 2026) rfl rfl (by omega) (by omega) ?_
          have bx7_ : 0 ≤ S_.2.2.1 61 0 (2 * a1_ + 1).toNat ∧ S_.2.2.1 61 0 (2 * a1_ + 1).toNat ≤ 268435456 := hI_.2 61 0 _
          refine sm_T_go 3 (c1 := (213, [some (.inr (.inr (some (6, 0)))), some (.inl a1_), some (.inl (S_.2.2.1 57 (0 + ll_) (S_.1 5 ll_ 2).toNat)), some (.inl (S_.2.2.1 61 0 (2 * a1_).toNat)), some (.inl (S_.2.2.1 61 0 (2 * a1_ + 1).toNat))], [.inl (S_.2.2.1 57 (0 + ll_) (S_.1 5 ll_ 2).toNat), .inl (S_.2.2.1 61 0 (2 * a1_ + 1).toNat)], S_)) rfl ?_
          refine sm_T_bin (w := (S_.2.2.1 61 0 (2 * a1_ + 1).toNat) + (S_.2.2.1 57 (0 + ll_) (S_.1 5 ll_ 2).toNat)) rfl (bi_add (by omega) (by omega) (by omega)) ?_ -- pc_ 213
          refine sm_T_go 1 (c1 := (215, [some (.inr (.inr (some (6, 0)))), some (.inl a1_), some (.inl (S_.2.2.1 57 (0 + ll_) (S_.1 5 ll_ 2).toNat)), some (.inl (S_.2.2.1 61 0 (2 * a1_).toNat)), some (.inl (S_.2.2.1 61 0 (2 * a1_ + 1).toNat))], [.inl (S_.2.2.1 61 0 (2 * a1_).toNat), .inl ((S_.2.2.1 61 0 (2 * a1_ + 1).toNat) + (S_.2.2.1 57 (0 + ll_) (S_.1 5 ll_ 2).toNat))], S_)) rfl ?_
          refine sm_T_br (a := 3) (z := 28) rfl (fun cx8_ => ?_) (fun cx8_ => ?_)
          · have cx8_ : (S_.2.2.1 61 0 (2 * a1_).toNat) ≤ (S_.2.2.1 61 0 (2 * a1_ + 1).toNat) + (S_.2.2.1 57 (0 + ll_) (S_.1 5 ll_ 2).toNat) := of_decide_eq_true cx8_
            refine sm_T_go 2 (c1 := (245, [some (.inr (.inr (some (6, 0)))), some (.inl a1_), some (.inl (S_.2.2.1 57 (0 + ll_) (S_.1 5 ll_ 2).toNat)), some (.inl (S_.2.2.1 61 0 (2 * a1_).toNat)), some (.inl (S_.2.2.1 61 0 (2 * a1_ + 1).toNat))], [.inl (S_.2.2.1 57 (0 + ll_) (S_.1 5 ll_ 2).toNat), .inl (S_.2.2.1 61 0 (2 * a1_).toNat)], S_)) rfl ?_
            refine sm_T_bin (w := (S_.2.2.1 61 0 (2 * a1_).toNat) + (S_.2.2.1 57 (0 + ll_) (S_.1 5 ll_ 2).toNat)) rfl (bi_add (by omega) (by omega) (by omega)) ?_ -- pc_ 245
            refine sm_T_go 1 (c1 := (248, [some (.inr (.inr (some (6, 0)))), some (.inl a1_), some (.inl (S_.2.2.1 57 (0 + ll_) (S_.1 5 ll_ 2).toNat)), some (.inl (S_.2.2.1 61 0 (2 * a1_).toNat)), some (.inl (S_.2.2.1 61 0 (2 * a1_ + 1).toNat))], [.inl (S_.2.2.1 61 0 (2 * a1_ + 1).toNat), .inl ((S_.2.2.1 61 0 (2 * a1_).toNat) + (S_.2.2.1 57 (0 + ll_) (S_.1 5 ll_ 2).toNat))], S_)) rfl ?_
            refine sm_T_br (a := 3) (z := 28) rfl (fun cx9_ => ?_) (fun cx9_ => ?_)
            · have cx9_ : (S_.2.2.1 61 0 (2 * a1_ + 1).toNat) ≤ (S_.2.2.1 61 0 (2 * a1_).toNat) + (S_.2.2.1 57 (0 + ll_) (S_.1 5 ll_ 2).toNat) := of_decide_eq_true cx9_
              refine sm_T_rv rfl ⟨_, _, rfl, rfl, hI_, hF_, ?_⟩
              first | exact ⟨Or.inl hv0_, Or.inl hv1_, hf_⟩ | (have z9_ := wok_iv hv0_ hv1_ (by omega) (by omega) (by omega) (show S_.2.2.1 61 0 (2 * a1_ + 1).toNat + S_.2.2.1 57 (0 + ll_) (S_.1 5 ll_ 2).toNat < S_.2.2.1 61 0 (2 * a1_).toNat by omega) (by omega) (by omega) (fun k9_ => (hI_.2 55 (0 + ll_) k9_).2); exact ⟨z9_.1, z9_.2.1, wfn_tr hf_ (wfn_l z9_.2.2 (by omega))⟩) | (have z9_ := wok_iv hv1_ hv0_ (by omega) (by omega) (by omega) (show S_.2.2.1 61 0 (2 * a1_).toNat + S_.2.2.1 57 (0 + ll_) (S_.1 5 ll_ 2).toNat < S_.2.2.1 61 0 (2 * a1_ + 1).toNat by omega) (by omega) (by omega) (fun k9_ => (hI_.2 55 (0 + ll_) k9_).2); exact ⟨z9_.2.1, z9_.1, wfn_tr hf_ (wfn_l z9_.2.2 (by omega))⟩)
            · have cx9_ : ¬ ((S_.2.2.1 61 0 (2 * a1_ + 1).toNat) ≤ (S_.2.2.1 61 0 (2 * a1_).toNat) + (S_.2.2.1 57 (0 + ll_) (S_.1 5 ll_ 2).toNat)) := of_decide_eq_false cx9_
              refine sm_T_go 4 (c1 := (257, [some (.inr (.inr (some (6, 0)))), some (.inl a1_), some (.inl (S_.2.2.1 57 (0 + ll_) (S_.1 5 ll_ 2).toNat)), some (.inl (S_.2.2.1 61 0 (2 * a1_).toNat)), some (.inl (S_.2.2.1 61 0 (2 * a1_ + 1).toNat))], [.inl a1_, .inl 2, .inr (.inr (some (61, 0)))], S_)) rfl ?_
              refine sm_T_bin (w := 2 * a1_) rfl (bi_mul (by omega) (by omega) (by omega)) ?_ -- pc_ 257
              refine sm_T_go 1 (c1 := (259, [some (.inr (.inr (some (6, 0)))), some (.inl a1_), some (.inl (S_.2.2.1 57 (0 + ll_) (S_.1 5 ll_ 2).toNat)), some (.inl (S_.2.2.1 61 0 (2 * a1_).toNat)), some (.inl (S_.2.2.1 61 0 (2 * a1_ + 1).toNat))], [.inl 1, .inl (2 * a1_), .inr (.inr (some (61, 0)))], S_)) rfl ?_
              refine sm_T_bin (w := 2 * a1_ + 1) rfl (bi_add (by omega) (by omega) (by omega)) ?_ -- pc_ 259
              refine sm_T_go 2 (c1 := (262, [some (.inr (.inr (some (6, 0)))), some (.inl a1_), some (.inl (S_.2.2.1 57 (0 + ll_) (S_.1 5 ll_ 2).toNat)), some (.inl (S_.2.2.1 61 0 (2 * a1_).toNat)), some (.inl (S_.2.2.1 61 0 (2 * a1_ + 1).toNat))], [.inl (S_.2.2.1 57 (0 + ll_) (S_.1 5 ll_ 2).toNat), .inl (S_.2.2.1 61 0 (2 * a1_).toNat), .inl (2 * a1_ + 1), .inr (.inr (some (61, 0)))], S_)) rfl ?_
              refine sm_T_bin (w := (S_.2.2.1 61 0 (2 * a1_).toNat) + (S_.2.2.1 57 (0 + ll_) (S_.1 5 ll_ 2).toNat)) rfl (bi_add (by omega) (by omega) (by omega)) ?_ -- pc_ 262
              refine sm_T_iast (n := 2026) rfl rfl (by omega) (by omega) ?_
              have hIx10_ : gi (sm_aI S_ 61 0 (2 * a1_ + 1).toNat ((S_.2.2.1 61 0 (2 * a1_).toNat) + (S_.2.2.1 57 (0 + ll_) (S_.1 5 ll_ 2).toNat))) := gi_aI hI_ (show 0 ≤ (S_.2.2.1 61 0 (2 * a1_).toNat) + (S_.2.2.1 57 (0 + ll_) (S_.1 5 ll_ 2).toNat) ∧ (S_.2.2.1 61 0 (2 * a1_).toNat) + (S_.2.2.1 57 (0 + ll_) (S_.1 5 ll_ 2).toNat) ≤ 268435456 from ⟨by omega, by omega⟩)
              have hFx11_ : ai_fr (sx_W vw_99) S0_ (sm_aI S_ 61 0 (2 * a1_ + 1).toNat ((S_.2.2.1 61 0 (2 * a1_).toNat) + (S_.2.2.1 57 (0 + ll_) (S_.1 5 ll_ 2).toNat))) := ai_fr_tr hF_ (ai_fr_aI rfl)
              refine sm_T_go 4 (c1 := (270, [some (.inr (.inr (some (6, 0)))), some (.inl a1_), some (.inl (S_.2.2.1 57 (0 + ll_) (S_.1 5 ll_ 2).toNat)), some (.inl (S_.2.2.1 61 0 (2 * a1_).toNat)), some (.inl (S_.2.2.1 61 0 (2 * a1_ + 1).toNat))], [.inl a1_, .inl 2, .inr (.inr (some (62, 0)))], sm_aI S_ 61 0 (2 * a1_ + 1).toNat ((S_.2.2.1 61 0 (2 * a1_).toNat) + (S_.2.2.1 57 (0 + ll_) (S_.1 5 ll_ 2).toNat)))) rfl ?_
              refine sm_T_bin (w := 2 * a1_) rfl (bi_mul (by omega) (by omega) (by omega)) ?_ -- pc_ 270
              refine sm_T_go 1 (c1 := (272, [some (.inr (.inr (some (6, 0)))), some (.inl a1_), some (.inl (S_.2.2.1 57 (0 + ll_) (S_.1 5 ll_ 2).toNat)), some (.inl (S_.2.2.1 61 0 (2 * a1_).toNat)), some (.inl (S_.2.2.1 61 0 (2 * a1_ + 1).toNat))], [.inl 1, .inl (2 * a1_), .inr (.inr (some (62, 0)))], sm_aI S_ 61 0 (2 * a1_ + 1).toNat ((S_.2.2.1 61 0 (2 * a1_).toNat) + (S_.2.2.1 57 (0 + ll_) (S_.1 5 ll_ 2).toNat)))) rfl ?_
              refine sm_T_bin (w := 2 * a1_ + 1) rfl (bi_add (by omega) (by omega) (by omega)) ?_ -- pc_ 272
              refine sm_T_go 1 (c1 := (275, [some (.inr (.inr (some (6, 0)))), some (.inl a1_), some (.inl (S_.2.2.1 57 (0 + ll_) (S_.1 5 ll_ 2).toNat)), some (.inl (S_.2.2.1 61 0 (2 * a1_).toNat)), some (.inl (S_.2.2.1 61 0 (2 * a1_ + 1).toNat))], [.inl (-2), .inl (2 * a1_ + 1), .inr (.inr (some (62, 0)))], sm_aI S_ 61 0 (2 * a1_ + 1).toNat ((S_.2.2.1 61 0 (2 * a1_).toNat) + (S_.2.2.1 57 (0 + ll_) (S_.1 5 ll_ 2).toNat)))) rfl ?_
              refine sm_T_iast (n := 2026) rfl rfl (by omega) (by omega) ?_
              have hIx12_ : gi (sm_aI (sm_aI S_ 61 0 (2 * a1_ + 1).toNat ((S_.2.2.1 61 0 (2 * a1_).toNat) + (S_.2.2.1 57 (0 + ll_) (S_.1 5 ll_ 2).toNat))) 62 0 (2 * a1_ + 1).toNat (-2)) := gi_aI hIx10_ (show (-2) ≤ (-2) ∧ (-2) ≤ 11 from ⟨by omega, by omega⟩)
              have hFx13_ : ai_fr (sx_W vw_99) S0_ (sm_aI (sm_aI S_ 61 0 (2 * a1_ + 1).toNat ((S_.2.2.1 61 0 (2 * a1_).toNat) + (S_.2.2.1 57 (0 + ll_) (S_.1 5 ll_ 2).toNat))) 62 0 (2 * a1_ + 1).toNat (-2)) := ai_fr_tr hFx11_ (ai_fr_aI rfl)
              refine sm_T_rv rfl ⟨_, _, rfl, rfl, hIx12_, hFx13_, ?_⟩
              first | exact ⟨Or.inl hv0_, Or.inl hv1_, hf_⟩ | (have z9_ := wok_iv hv0_ hv1_ (by omega) (by omega) (by omega) (show S_.2.2.1 61 0 (2 * a1_ + 1).toNat + S_.2.2.1 57 (0 + ll_) (S_.1 5 ll_ 2).toNat < S_.2.2.1 61 0 (2 * a1_).toNat by omega) (by omega) (by omega) (fun k9_ => (hI_.2 55 (0 + ll_) k9_).2); exact ⟨z9_.1, z9_.2.1, wfn_tr hf_ (wfn_l z9_.2.2 (by omega))⟩) | (have z9_ := wok_iv hv1_ hv0_ (by omega) (by omega) (by omega) (show S_.2.2.1 61 0 (2 * a1_).toNat + S_.2.2.1 57 (0 + ll_) (S_.1 5 ll_ 2).toNat < S_.2.2.1 61 0 (2 * a1_ + 1).toNat by omega) (by omega) (by omega) (fun k9_ => (hI_.2 55 (0 + ll_) k9_).2); exact ⟨z9_.2.1, z9_.1, wfn_tr hf_ (wfn_l z9_.2.2 (by omega))⟩)
          · have cx8_ : ¬ ((S_.2.2.1 61 0 (2 * a1_).toNat) ≤ (S_.2.2.1 61 0 (2 * a1_ + 1).toNat) + (S_.2.2.1 57 (0 + ll_) (S_.1 5 ll_ 2).toNat)) := of_decide_eq_false cx8_
            refine sm_T_go 4 (c1 := (224, [some (.inr (.inr (some (6, 0)))), some (.inl a1_), some (.inl (S_.2.2.1 57 (0 + ll_) (S_.1 5 ll_ 2).toNat)), some (.inl (S_.2.2.1 61 0 (2 * a1_).toNat)), some (.inl (S_.2.2.1 61 0 (2 * a1_ + 1).toNat))], [.inl a1_, .inl 2, .inr (.inr (some (61, 0)))], S_)) rfl ?_
            refine sm_T_bin (w := 2 * a1_) rfl (bi_mul (by omega) (by omega) (by omega)) ?_ -- pc_ 224
            refine sm_T_go 2 (c1 := (228, [some (.inr (.inr (some (6, 0)))), some (.inl a1_), some (.inl (S_.2.2.1 57 (0 + ll_) (S_.1 5 ll_ 2).toNat)), some (.inl (S_.2.2.1 61 0 (2 * a1_).toNat)), some (.inl (S_.2.2.1 61 0 (2 * a1_ + 1).toNat))], [.inl (S_.2.2.1 57 (0 + ll_) (S_.1 5 ll_ 2).toNat), .inl (S_.2.2.1 61 0 (2 * a1_ + 1).toNat), .inl (2 * a1_), .inr (.inr (some (61, 0)))], S_)) rfl ?_
            refine sm_T_bin (w := (S_.2.2.1 61 0 (2 * a1_ + 1).toNat) + (S_.2.2.1 57 (0 + ll_) (S_.1 5 ll_ 2).toNat)) rfl (bi_add (by omega) (by omega) (by omega)) ?_ -- pc_ 228
            refine sm_T_iast (n := 2026) rfl rfl (by omega) (by omega) ?_
            have hIx14_ : gi (sm_aI S_ 61 0 (2 * a1_).toNat ((S_.2.2.1 61 0 (2 * a1_ + 1).toNat) + (S_.2.2.1 57 (0 + ll_) (S_.1 5 ll_ 2).toNat))) := gi_aI hI_ (show 0 ≤ (S_.2.2.1 61 0 (2 * a1_ + 1).toNat) + (S_.2.2.1 57 (0 + ll_) (S_.1 5 ll_ 2).toNat) ∧ (S_.2.2.1 61 0 (2 * a1_ + 1).toNat) + (S_.2.2.1 57 (0 + ll_) (S_.1 5 ll_ 2).toNat) ≤ 268435456 from ⟨by omega, by omega⟩)
            have hFx15_ : ai_fr (sx_W vw_99) S0_ (sm_aI S_ 61 0 (2 * a1_).toNat ((S_.2.2.1 61 0 (2 * a1_ + 1).toNat) + (S_.2.2.1 57 (0 + ll_) (S_.1 5 ll_ 2).toNat))) := ai_fr_tr hF_ (ai_fr_aI rfl)
            refine sm_T_go 4 (c1 := (236, [some (.inr (.inr (some (6, 0)))), some (.inl a1_), some (.inl (S_.2.2.1 57 (0 + ll_) (S_.1 5 ll_ 2).toNat)), some (.inl (S_.2.2.1 61 0 (2 * a1_).toNat)), some (.inl (S_.2.2.1 61 0 (2 * a1_ + 1).toNat))], [.inl a1_, .inl 2, .inr (.inr (some (62, 0)))], sm_aI S_ 61 0 (2 * a1_).toNat ((S_.2.2.1 61 0 (2 * a1_ + 1).toNat) + (S_.2.2.1 57 (0 + ll_) (S_.1 5 ll_ 2).toNat)))) rfl ?_
            refine sm_T_bin (w := 2 * a1_) rfl (bi_mul (by omega) (by omega) (by omega)) ?_ -- pc_ 236
            refine sm_T_go 1 (c1 := (239, [some (.inr (.inr (some (6, 0)))), some (.inl a1_), some (.inl (S_.2.2.1 57 (0 + ll_) (S_.1 5 ll_ 2).toNat)), some (.inl (S_.2.2.1 61 0 (2 * a1_).toNat)), some (.inl (S_.2.2.1 61 0 (2 * a1_ + 1).toNat))], [.inl (-2), .inl (2 * a1_), .inr (.inr (some (62, 0)))], sm_aI S_ 61 0 (2 * a1_).toNat ((S_.2.2.1 61 0 (2 * a1_ + 1).toNat) + (S_.2.2.1 57 (0 + ll_) (S_.1 5 ll_ 2).toNat)))) rfl ?_
            refine sm_T_iast (n := 2026) rfl rfl (by omega) (by omega) ?_
            have hIx16_ : gi (sm_aI (sm_aI S_ 61 0 (2 * a1_).toNat ((S_.2.2.1 61 0 (2 * a1_ + 1).toNat) + (S_.2.2.1 57 (0 + ll_) (S_.1 5 ll_ 2).toNat))) 62 0 (2 * a1_).toNat (-2)) := gi_aI hIx14_ (show (-2) ≤ (-2) ∧ (-2) ≤ 11 from ⟨by omega, by omega⟩)
            have hFx17_ : ai_fr (sx_W vw_99) S0_ (sm_aI (sm_aI S_ 61 0 (2 * a1_).toNat ((S_.2.2.1 61 0 (2 * a1_ + 1).toNat) + (S_.2.2.1 57 (0 + ll_) (S_.1 5 ll_ 2).toNat))) 62 0 (2 * a1_).toNat (-2)) := ai_fr_tr hFx15_ (ai_fr_aI rfl)
            refine sm_T_go 1 (c1 := (276, [some (.inr (.inr (some (6, 0)))), some (.inl a1_), some (.inl (S_.2.2.1 57 (0 + ll_) (S_.1 5 ll_ 2).toNat)), some (.inl (S_.2.2.1 61 0 (2 * a1_).toNat)), some (.inl (S_.2.2.1 61 0 (2 * a1_ + 1).toNat))], [], sm_aI (sm_aI S_ 61 0 (2 * a1_).toNat ((S_.2.2.1 61 0 (2 * a1_ + 1).toNat) + (S_.2.2.1 57 (0 + ll_) (S_.1 5 ll_ 2).toNat))) 62 0 (2 * a1_).toNat (-2))) rfl ?_
            refine sm_T_rv rfl ⟨_, _, rfl, rfl, hIx16_, hFx17_, ?_⟩
            first | exact ⟨Or.inl hv0_, Or.inl hv1_, hf_⟩ | (have z9_ := wok_iv hv0_ hv1_ (by omega) (by omega) (by omega) (show S_.2.2.1 61 0 (2 * a1_ + 1).toNat + S_.2.2.1 57 (0 + ll_) (S_.1 5 ll_ 2).toNat < S_.2.2.1 61 0 (2 * a1_).toNat by omega) (by omega) (by omega) (fun k9_ => (hI_.2 55 (0 + ll_) k9_).2); exact ⟨z9_.1, z9_.2.1, wfn_tr hf_ (wfn_l z9_.2.2 (by omega))⟩) | (have z9_ := wok_iv hv1_ hv0_ (by omega) (by omega) (by omega) (show S_.2.2.1 61 0 (2 * a1_).toNat + S_.2.2.1 57 (0 + ll_) (S_.1 5 ll_ 2).toNat < S_.2.2.1 61 0 (2 * a1_ + 1).toNat by omega) (by omega) (by omega) (fun k9_ => (hI_.2 55 (0 + ll_) k9_).2); exact ⟨z9_.2.1, z9_.1, wfn_tr hf_ (wfn_l z9_.2.2 (by omega))⟩)
      · have cx2_ : ¬ ((S_.1 5 ll_ 1) ≤ c9_) := of_decide_eq_false cx2_
        refine sm_T_go 2 (c1 := (94, [some (.inr (.inr (some (6, 0)))), some (.inl a1_), some (.inl c9_), some (.inl 0), none], [], S_)) rfl ?_
        refine ih_.2.2 c9_ 0 S_ hI_ hF_ ⟨?_, ?_, ?_, ?_, ?_, ?_, trivial⟩ ?_
        · omega
        · exact hv0_
        · exact hv1_
        · exact hf_
        · exact hcs_
        · exact ho_
        · omega
    · rintro c9_ i9_ S_ hI_ hF_ ⟨h0_, hv0_, hv1_, hf_, hcs_, ho_, -⟩ hm_
      have f55_ : S_.2.2.1 55 (0 + ll_) = S0_.2.2.1 55 (0 + ll_) := fr_arr hF_ rfl
      have f59_ : S_.2.2.1 59 0 = S0_.2.2.1 59 0 := fr_arr hF_ rfl
      have f60_ : S_.2.2.1 60 0 = S0_.2.2.1 60 0 := fr_arr hF_ rfl
      have f1_ : S_.1 3 dd_ 1 = S0_.1 3 dd_ 1 := hF_.1 3 dd_ 1 rfl
      have f2_ : S_.1 3 dd_ 2 = S0_.1 3 dd_ 2 := hF_.1 3 dd_ 2 rfl
      have f5_ : S_.1 5 ll_ 2 = S0_.1 5 ll_ 2 := hF_.1 5 ll_ 2 rfl
      have ck_ : 0 ≤ S_.1 6 0 11 ∧ S_.1 6 0 11 ≤ 1024 := hI_.1 6 0 11 rfl
      have cq_ : 0 ≤ S_.1 5 ll_ 1 ∧ S_.1 5 ll_ 1 ≤ 12 := hI_.1 5 ll_ 1 rfl
      have n13_ : 0 ≤ S_.1 3 dd_ 4 ∧ S_.1 3 dd_ 4 ≤ 1013 := hI_.1 3 dd_ 4 rfl
      have f4_ : S_.1 3 dd_ 4 = S0_.1 3 dd_ 4 := hF_.1 3 dd_ 4 rfl
      have g1_ := hg_.1
      have bx1_ : 0 ≤ S_.1 6 0 11 ∧ S_.1 6 0 11 ≤ 1024 := hI_.1 6 0 11 rfl
      refine sm_T_go 3 (c1 := (99, [some (.inr (.inr (some (6, 0)))), some (.inl a1_), some (.inl c9_), some (.inl i9_), none], [.inl (S_.1 6 0 11), .inl i9_], S_)) rfl ?_
      refine sm_T_br (a := 3) (z := 57) rfl (fun cx2_ => ?_) (fun cx2_ => ?_)
      · have cx2_ : (S_.1 6 0 11) ≤ i9_ := of_decide_eq_true cx2_
        refine sm_T_inc (a := 2) (z := 1) (v := c9_) (w := c9_ + 1) rfl rfl (by omega) (by omega) (by omega) ?_ -- pc_ 156
        refine sm_T_go 1 (c1 := (81, [some (.inr (.inr (some (6, 0)))), some (.inl a1_), some (.inl (c9_ + 1)), some (.inl i9_), none], [], S_)) rfl ?_
        refine sm_T_wk [some (.inr (.inr (some (6, 0)))), some (.inl a1_), some (.inl (c9_ + 1)), none, none] (by exact ⟨rfl, rfl, rfl, trivial⟩) ?_
        refine ih_.2.1 (c9_ + 1) S_ hI_ hF_ ⟨?_, ?_, ?_, ?_, ?_, ?_, trivial⟩ ?_
        · omega
        · exact hv0_
        · exact hv1_
        · exact hf_
        · exact hcs_
        · exact ho_
        · omega
      · have cx2_ : ¬ ((S_.1 6 0 11) ≤ i9_) := of_decide_eq_false cx2_
        have o9_ := ho_ i9_.toNat (by omega)
        refine sm_T_go 3 (c1 := (107, [some (.inr (.inr (some (6, 0)))), some (.inl a1_), some (.inl c9_), some (.inl i9_), none], [.inl i9_, .inr (.inr (some (66, 0)))], S_)) rfl ?_
        refine sm_T_iald (n := 1024) rfl rfl (by omega) (by omega) ?_
        have bx3_ : 0 ≤ S_.2.2.1 66 0 i9_.toNat ∧ S_.2.2.1 66 0 i9_.toNat ≤ 1023 := hI_.2 66 0 _
        refine sm_T_go 2 (c1 := (111, [some (.inr (.inr (some (6, 0)))), some (.inl a1_), some (.inl c9_), some (.inl i9_), some (.inl (S_.2.2.1 66 0 i9_.toNat))], [.inr (.inr (some (6, 0)))], S_)) rfl ?_
        refine sm_T_gr rfl rfl ((hF_.2.1 6 0 1 rfl).trans hc_) ?_
        refine sm_T_go 2 (c1 := (118, [some (.inr (.inr (some (6, 0)))), some (.inl a1_), some (.inl c9_), some (.inl i9_), some (.inl (S_.2.2.1 66 0 i9_.toNat))], [.inl c9_, .inr (.inr (some (55, (0 + ll_))))], S_)) rfl ?_
        refine sm_T_iald (n := 12) rfl rfl (by omega) (by omega) ?_
        have bx4_ : 0 ≤ S_.2.2.1 55 (0 + ll_) c9_.toNat ∧ S_.2.2.1 55 (0 + ll_) c9_.toNat ≤ 3 := hI_.2 55 (0 + ll_) _
        refine sm_T_go 4 (c1 := (126, [some (.inr (.inr (some (6, 0)))), some (.inl a1_), some (.inl c9_), some (.inl i9_), some (.inl (S_.2.2.1 66 0 i9_.toNat))], [.inl (S_.2.2.1 66 0 i9_.toNat), .inl 3, .inr (.inr (some (65, 0))), .inl (S_.2.2.1 55 (0 + ll_) c9_.toNat)], S_)) rfl ?_
        refine sm_T_bin (w := 3 * (S_.2.2.1 66 0 i9_.toNat)) rfl (bi_mul (by omega) (by omega) (by omega)) ?_ -- pc_ 126
        refine sm_T_go 1 (c1 := (128, [some (.inr (.inr (some (6, 0)))), some (.inl a1_), some (.inl c9_), some (.inl i9_), some (.inl (S_.2.2.1 66 0 i9_.toNat))], [.inl 2, .inl (3 * (S_.2.2.1 66 0 i9_.toNat)), .inr (.inr (some (65, 0))), .inl (S_.2.2.1 55 (0 + ll_) c9_.toNat)], S_)) rfl ?_
        refine sm_T_bin (w := 3 * (S_.2.2.1 66 0 i9_.toNat) + 2) rfl (bi_add (by omega) (by omega) (by omega)) ?_ -- pc_ 128
        refine sm_T_iald (n := 3072) rfl rfl (by omega) (by omega) ?_
        have bx5_ : (-1) ≤ S_.2.2.1 65 0 (3 * (S_.2.2.1 66 0 i9_.toNat) + 2).toNat ∧ S_.2.2.1 65 0 (3 * (S_.2.2.1 66 0 i9_.toNat) + 2).toNat ≤ 1012 := hI_.2 65 0 _
        refine sm_T_go 1 (c1 := (131, [some (.inr (.inr (some (6, 0)))), some (.inl a1_), some (.inl c9_), some (.inl i9_), some (.inl (S_.2.2.1 66 0 i9_.toNat))], [.inl (-1), .inl (S_.2.2.1 65 0 (3 * (S_.2.2.1 66 0 i9_.toNat) + 2).toNat), .inl (S_.2.2.1 55 (0 + ll_) c9_.toNat)], S_)) rfl ?_
        refine sm_T_br (a := 1) (z := 7) rfl (fun cx6_ => ?_) (fun cx6_ => ?_)
        · have cx6_ : (S_.2.2.1 65 0 (3 * (S_.2.2.1 66 0 i9_.toNat) + 2).toNat) ≠ (-1) := of_decide_eq_true cx6_
          refine sm_T_go 1 (c1 := (139, [some (.inr (.inr (some (6, 0)))), some (.inl a1_), some (.inl c9_), some (.inl i9_), some (.inl (S_.2.2.1 66 0 i9_.toNat))], [.inl 3, .inl (S_.2.2.1 55 (0 + ll_) c9_.toNat)], S_)) rfl ?_
          refine sm_T_br (a := 1) (z := 11) rfl (fun cx7_ => ?_) (fun cx7_ => ?_)
          · have cx7_ : (S_.2.2.1 55 (0 + ll_) c9_.toNat) ≠ 3 := of_decide_eq_true cx7_
            refine sm_T_inc (a := 3) (z := 1) (v := i9_) (w := i9_ + 1) rfl rfl (by omega) (by omega) (by omega) ?_ -- pc_ 150
            refine sm_T_go 1 (c1 := (94, [some (.inr (.inr (some (6, 0)))), some (.inl a1_), some (.inl c9_), some (.inl (i9_ + 1)), some (.inl (S_.2.2.1 66 0 i9_.toNat))], [], S_)) rfl ?_
            refine sm_T_wk [some (.inr (.inr (some (6, 0)))), some (.inl a1_), some (.inl c9_), some (.inl (i9_ + 1)), none] (by exact ⟨rfl, rfl, rfl, rfl, trivial⟩) ?_
            refine ih_.2.2 c9_ (i9_ + 1) S_ hI_ hF_ ⟨?_, ?_, ?_, ?_, ?_, ?_, trivial⟩ ?_
            · omega
            · first | exact hv0_ | exact t147_.1
            · first | exact hv1_ | exact t147_.2.1
            · first | exact hf_ | exact wfn_tr hf_ t147_.2.2
            · first | exact hcs_ | exact c147_
            · first | exact ho_ | exact o147_
            · omega
          · have cx7_ : ¬ ((S_.2.2.1 55 (0 + ll_) c9_.toNat) ≠ 3) := of_decide_eq_false cx7_
            refine sm_T_go 4 (c1 := (147, [some (.inr (.inr (some (6, 0)))), some (.inl a1_), some (.inl c9_), some (.inl i9_), some (.inl (S_.2.2.1 66 0 i9_.toNat))], [.inl (S_.2.2.1 66 0 i9_.toNat), .inl c9_, .inl a1_, .inr (.inr (some (6, 0)))], S_)) rfl ?_
            refine sm_T_cal (d1 := 3) (Q1 := vq_107 a1_ c9_ (S_.2.2.1 66 0 i9_.toNat) dd_ ll_ S_) rfl rfl (by decide) (vc_107 a1_ c9_ (S_.2.2.1 66 0 i9_.toNat) dd_ ll_ S_ hI_ (by exact (hF_.2.1 6 0 0 rfl).trans hd_) (by exact (hF_.2.1 6 0 1 rfl).trans hc_) (by omega) (by omega) (by omega) (by omega) (by (rw [f59_]; exact hcs_)) (by (rw [f1_, f2_]; exact hv0_)) (by (rw [f1_, f2_]; exact hv1_))) (fun u_ Sx8_ px11_ => ?_)
            obtain ⟨rfl, hIx9_, hFx10_, px11_⟩ := px11_
            have hFx12_ : ai_fr (sx_W vw_99) S0_ Sx8_ := ai_fr_tr hF_ (fr_le hFx10_ rfl)
            have ex13_ : Sx8_.1 6 0 11 = S_.1 6 0 11 := hFx10_.1 6 0 11 rfl
            have t147_ := px11_
            rw [f1_, f2_] at t147_
            have k147_ := hFx10_.1 6 0 11 rfl
            have c147_ : mcs (npd a1_ (S0_.2.2.1 59 0)) Sx8_ := mcs_fr hcs_ hFx10_
            have o147_ : ∀ i_ : Nat, (i_ : Int) < Sx8_.1 6 0 11 → Sx8_.2.2.1 66 0 i_ < Sx8_.1 6 0 11 := fun i_ q9_ => by (rw [k147_] at q9_ ⊢; rw [(hFx10_.2.2 66 rfl 0 i_).1]; exact ho_ i_ q9_)
            refine sm_T_inc (a := 3) (z := 1) (v := i9_) (w := i9_ + 1) rfl rfl (by omega) (by omega) (by omega) ?_ -- pc_ 150
            refine sm_T_go 1 (c1 := (94, [some (.inr (.inr (some (6, 0)))), some (.inl a1_), some (.inl c9_), some (.inl (i9_ + 1)), some (.inl (S_.2.2.1 66 0 i9_.toNat))], [], Sx8_)) rfl ?_
            refine sm_T_wk [some (.inr (.inr (some (6, 0)))), some (.inl a1_), some (.inl c9_), some (.inl (i9_ + 1)), none] (by exact ⟨rfl, rfl, rfl, rfl, trivial⟩) ?_
            refine ih_.2.2 c9_ (i9_ + 1) Sx8_ hIx9_ hFx12_ ⟨?_, ?_, ?_, ?_, ?_, ?_, trivial⟩ ?_
            · omega
            · first | exact hv0_ | exact t147_.1
            · first | exact hv1_ | exact t147_.2.1
            · first | exact hf_ | exact wfn_tr hf_ t147_.2.2
            · first | exact hcs_ | exact c147_
            · first | exact ho_ | exact o147_
            · omega
        · have cx6_ : ¬ ((S_.2.2.1 65 0 (3 * (S_.2.2.1 66 0 i9_.toNat) + 2).toNat) ≠ (-1)) := of_decide_eq_false cx6_
          refine sm_T_go 2 (c1 := (139, [some (.inr (.inr (some (6, 0)))), some (.inl a1_), some (.inl c9_), some (.inl i9_), some (.inl (S_.2.2.1 66 0 i9_.toNat))], [.inl 2, .inl (S_.2.2.1 55 (0 + ll_) c9_.toNat)], S_)) rfl ?_
          refine sm_T_br (a := 1) (z := 11) rfl (fun cx14_ => ?_) (fun cx14_ => ?_)
          · have cx14_ : (S_.2.2.1 55 (0 + ll_) c9_.toNat) ≠ 2 := of_decide_eq_true cx14_
            refine sm_T_inc (a := 3) (z := 1) (v := i9_) (w := i9_ + 1) rfl rfl (by omega) (by omega) (by omega) ?_ -- pc_ 150
            refine sm_T_go 1 (c1 := (94, [some (.inr (.inr (some (6, 0)))), some (.inl a1_), some (.inl c9_), some (.inl (i9_ + 1)), some (.inl (S_.2.2.1 66 0 i9_.toNat))], [], S_)) rfl ?_
            refine sm_T_wk [some (.inr (.inr (some (6, 0)))), some (.inl a1_), some (.inl c9_), some (.inl (i9_ + 1)), none] (by exact ⟨rfl, rfl, rfl, rfl, trivial⟩) ?_
            refine ih_.2.2 c9_ (i9_ + 1) S_ hI_ hF_ ⟨?_, ?_, ?_, ?_, ?_, ?_, trivial⟩ ?_
            · omega
            · first | exact hv0_ | exact t147_.1
            · first | exact hv1_ | exact t147_.2.1
            · first | exact hf_ | exact wfn_tr hf_ t147_.2.2
            · first | exact hcs_ | exact c147_
            · first | exact ho_ | exact o147_
            · omega
          · have cx14_ : ¬ ((S_.2.2.1 55 (0 + ll_) c9_.toNat) ≠ 2) := of_decide_eq_false cx14_
            refine sm_T_go 4 (c1 := (147, [some (.inr (.inr (some (6, 0)))), some (.inl a1_), some (.inl c9_), some (.inl i9_), some (.inl (S_.2.2.1 66 0 i9_.toNat))], [.inl (S_.2.2.1 66 0 i9_.toNat), .inl c9_, .inl a1_, .inr (.inr (some (6, 0)))], S_)) rfl ?_
            refine sm_T_cal (d1 := 3) (Q1 := vq_107 a1_ c9_ (S_.2.2.1 66 0 i9_.toNat) dd_ ll_ S_) rfl rfl (by decide) (vc_107 a1_ c9_ (S_.2.2.1 66 0 i9_.toNat) dd_ ll_ S_ hI_ (by exact (hF_.2.1 6 0 0 rfl).trans hd_) (by exact (hF_.2.1 6 0 1 rfl).trans hc_) (by omega) (by omega) (by omega) (by omega) (by (rw [f59_]; exact hcs_)) (by (rw [f1_, f2_]; exact hv0_)) (by (rw [f1_, f2_]; exact hv1_))) (fun u_ Sx15_ px18_ => ?_)
            obtain ⟨rfl, hIx16_, hFx17_, px18_⟩ := px18_
            have hFx19_ : ai_fr (sx_W vw_99) S0_ Sx15_ := ai_fr_tr hF_ (fr_le hFx17_ rfl)
            have ex20_ : Sx15_.1 6 0 11 = S_.1 6 0 11 := hFx17_.1 6 0 11 rfl
            have t147_ := px18_
            rw [f1_, f2_] at t147_
            have k147_ := hFx17_.1 6 0 11 rfl
            have c147_ : mcs (npd a1_ (S0_.2.2.1 59 0)) Sx15_ := mcs_fr hcs_ hFx17_
            have o147_ : ∀ i_ : Nat, (i_ : Int) < Sx15_.1 6 0 11 → Sx15_.2.2.1 66 0 i_ < Sx15_.1 6 0 11 := fun i_ q9_ => by (rw [k147_] at q9_ ⊢; rw [(hFx17_.2.2 66 rfl 0 i_).1]; exact ho_ i_ q9_)
            refine sm_T_inc (a := 3) (z := 1) (v := i9_) (w := i9_ + 1) rfl rfl (by omega) (by omega) (by omega) ?_ -- pc_ 150
            refine sm_T_go 1 (c1 := (94, [some (.inr (.inr (some (6, 0)))), some (.inl a1_), some (.inl c9_), some (.inl (i9_ + 1)), some (.inl (S_.2.2.1 66 0 i9_.toNat))], [], Sx15_)) rfl ?_
            refine sm_T_wk [some (.inr (.inr (some (6, 0)))), some (.inl a1_), some (.inl c9_), some (.inl (i9_ + 1)), none] (by exact ⟨rfl, rfl, rfl, rfl, trivial⟩) ?_
            refine ih_.2.2 c9_ (i9_ + 1) Sx15_ hIx16_ hFx19_ ⟨?_, ?_, ?_, ?_, ?_, ?_, trivial⟩ ?_
            · omega
            · first | exact hv0_ | exact t147_.1
            · first | exact hv1_ | exact t147_.2.1
            · first | exact hf_ | exact wfn_tr hf_ t147_.2.2
            · first | exact hcs_ | exact c147_
            · first | exact ho_ | exact o147_
            · omega
set_option maxHeartbeats 4000000 in
set_option maxRecDepth 20000 in
theorem vc_99 {sc_ : Nat × (Nat → Int)} (a1_ : Int) (dd_ : Nat) (F_ : Nat) (ll_ : Nat) (S0_ : sm_S) (hI_ : gi S0_) (hd_ : S0_.2.1 6 0 0 = some dd_) (hc_ : S0_.2.1 6 0 1 = some ll_) (hg_ : dgr dd_ F_ S0_) (hs_ : swp dd_ F_ S0_) (hk_ : mkd dd_ F_ S0_ (S0_.2.2.1 59 0)) (h1_ : (F_ : Int) ≤ a1_ ∧ a1_ < S0_.1 3 dd_ 4) (hn_ : S0_.2.2.1 59 0 a1_.toNat = 1) : sm_T (mt_P sc_) 4 99 (0, [some (.inr (.inr (some (6, 0)))), some (.inl a1_), none, none, none], [], S0_) (fun ro9_ => ∃ u_ S1_, ro9_ = (.inl u_, S1_, 0) ∧ vq_99 a1_ dd_ F_ ll_ S0_ u_ S1_) := by
  have hF_ : ai_fr (sx_W vw_99) S0_ S0_ := ai_fr_rf
  have g1_ := hg_.1
  have n13_ : 0 ≤ S0_.1 3 dd_ 4 ∧ S0_.1 3 dd_ 4 ≤ 1013 := hI_.1 3 dd_ 4 rfl
  refine sm_T_go 4 (c1 := (6, [some (.inr (.inr (some (6, 0)))), some (.inl a1_), none, none, none], [.inl a1_, .inl 2, .inr (.inr (some (61, 0)))], S0_)) rfl ?_
  refine sm_T_bin (w := 2 * a1_) rfl (bi_mul (by omega) (by omega) (by omega)) ?_ -- pc_ 6
  refine sm_T_nt (u := some (.inl 268435456)) (S1 := S0_) rfl rfl rfl ?_
  refine sm_T_iast (n := 2026) rfl rfl (by omega) (by omega) ?_
  have hIx1_ : gi (sm_aI S0_ 61 0 (2 * a1_).toNat 268435456) := gi_aI hI_ (show 0 ≤ 268435456 ∧ 268435456 ≤ 268435456 from ⟨by omega, by omega⟩)
  have hFx2_ : ai_fr (sx_W vw_99) S0_ (sm_aI S0_ 61 0 (2 * a1_).toNat 268435456) := ai_fr_tr hF_ (ai_fr_aI rfl)
  refine sm_T_go 4 (c1 := (16, [some (.inr (.inr (some (6, 0)))), some (.inl a1_), none, none, none], [.inl a1_, .inl 2, .inr (.inr (some (61, 0)))], sm_aI S0_ 61 0 (2 * a1_).toNat 268435456)) rfl ?_
  refine sm_T_bin (w := 2 * a1_) rfl (bi_mul (by omega) (by omega) (by omega)) ?_ -- pc_ 16
  refine sm_T_go 1 (c1 := (18, [some (.inr (.inr (some (6, 0)))), some (.inl a1_), none, none, none], [.inl 1, .inl (2 * a1_), .inr (.inr (some (61, 0)))], sm_aI S0_ 61 0 (2 * a1_).toNat 268435456)) rfl ?_
  refine sm_T_bin (w := 2 * a1_ + 1) rfl (bi_add (by omega) (by omega) (by omega)) ?_ -- pc_ 18
  refine sm_T_nt (u := some (.inl 268435456)) (S1 := sm_aI S0_ 61 0 (2 * a1_).toNat 268435456) rfl rfl rfl ?_
  refine sm_T_iast (n := 2026) rfl rfl (by omega) (by omega) ?_
  have hIx3_ : gi (sm_aI (sm_aI S0_ 61 0 (2 * a1_).toNat 268435456) 61 0 (2 * a1_ + 1).toNat 268435456) := gi_aI hIx1_ (show 0 ≤ 268435456 ∧ 268435456 ≤ 268435456 from ⟨by omega, by omega⟩)
  have hFx4_ : ai_fr (sx_W vw_99) S0_ (sm_aI (sm_aI S0_ 61 0 (2 * a1_).toNat 268435456) 61 0 (2 * a1_ + 1).toNat 268435456) := ai_fr_tr hFx2_ (ai_fr_aI rfl)
  refine sm_T_go 4 (c1 := (28, [some (.inr (.inr (some (6, 0)))), some (.inl a1_), none, none, none], [.inl a1_, .inl 2, .inr (.inr (some (62, 0)))], sm_aI (sm_aI S0_ 61 0 (2 * a1_).toNat 268435456) 61 0 (2 * a1_ + 1).toNat 268435456)) rfl ?_
  refine sm_T_bin (w := 2 * a1_) rfl (bi_mul (by omega) (by omega) (by omega)) ?_ -- pc_ 28
  refine sm_T_go 1 (c1 := (30, [some (.inr (.inr (some (6, 0)))), some (.inl a1_), none, none, none], [.inl (-1), .inl (2 * a1_), .inr (.inr (some (62, 0)))], sm_aI (sm_aI S0_ 61 0 (2 * a1_).toNat 268435456) 61 0 (2 * a1_ + 1).toNat 268435456)) rfl ?_
  refine sm_T_iast (n := 2026) rfl rfl (by omega) (by omega) ?_
  have hIx5_ : gi (sm_aI (sm_aI (sm_aI S0_ 61 0 (2 * a1_).toNat 268435456) 61 0 (2 * a1_ + 1).toNat 268435456) 62 0 (2 * a1_).toNat (-1)) := gi_aI hIx3_ (show (-2) ≤ (-1) ∧ (-1) ≤ 11 from ⟨by omega, by omega⟩)
  have hFx6_ : ai_fr (sx_W vw_99) S0_ (sm_aI (sm_aI (sm_aI S0_ 61 0 (2 * a1_).toNat 268435456) 61 0 (2 * a1_ + 1).toNat 268435456) 62 0 (2 * a1_).toNat (-1)) := ai_fr_tr hFx4_ (ai_fr_aI rfl)
  refine sm_T_go 4 (c1 := (37, [some (.inr (.inr (some (6, 0)))), some (.inl a1_), none, none, none], [.inl a1_, .inl 2, .inr (.inr (some (62, 0)))], sm_aI (sm_aI (sm_aI S0_ 61 0 (2 * a1_).toNat 268435456) 61 0 (2 * a1_ + 1).toNat 268435456) 62 0 (2 * a1_).toNat (-1))) rfl ?_
  refine sm_T_bin (w := 2 * a1_) rfl (bi_mul (by omega) (by omega) (by omega)) ?_ -- pc_ 37
  refine sm_T_go 1 (c1 := (39, [some (.inr (.inr (some (6, 0)))), some (.inl a1_), none, none, none], [.inl 1, .inl (2 * a1_), .inr (.inr (some (62, 0)))], sm_aI (sm_aI (sm_aI S0_ 61 0 (2 * a1_).toNat 268435456) 61 0 (2 * a1_ + 1).toNat 268435456) 62 0 (2 * a1_).toNat (-1))) rfl ?_
  refine sm_T_bin (w := 2 * a1_ + 1) rfl (bi_add (by omega) (by omega) (by omega)) ?_ -- pc_ 39
  refine sm_T_go 1 (c1 := (41, [some (.inr (.inr (some (6, 0)))), some (.inl a1_), none, none, none], [.inl (-1), .inl (2 * a1_ + 1), .inr (.inr (some (62, 0)))], sm_aI (sm_aI (sm_aI S0_ 61 0 (2 * a1_).toNat 268435456) 61 0 (2 * a1_ + 1).toNat 268435456) 62 0 (2 * a1_).toNat (-1))) rfl ?_
  refine sm_T_iast (n := 2026) rfl rfl (by omega) (by omega) ?_
  have hIx7_ : gi (sm_aI (sm_aI (sm_aI (sm_aI S0_ 61 0 (2 * a1_).toNat 268435456) 61 0 (2 * a1_ + 1).toNat 268435456) 62 0 (2 * a1_).toNat (-1)) 62 0 (2 * a1_ + 1).toNat (-1)) := gi_aI hIx5_ (show (-2) ≤ (-1) ∧ (-1) ≤ 11 from ⟨by omega, by omega⟩)
  have hFx8_ : ai_fr (sx_W vw_99) S0_ (sm_aI (sm_aI (sm_aI (sm_aI S0_ 61 0 (2 * a1_).toNat 268435456) 61 0 (2 * a1_ + 1).toNat 268435456) 62 0 (2 * a1_).toNat (-1)) 62 0 (2 * a1_ + 1).toNat (-1)) := ai_fr_tr hFx6_ (ai_fr_aI rfl)
  refine sm_T_go 2 (c1 := (44, [some (.inr (.inr (some (6, 0)))), some (.inl a1_), none, none, none], [.inl a1_, .inr (.inr (some (6, 0)))], sm_aI (sm_aI (sm_aI (sm_aI S0_ 61 0 (2 * a1_).toNat 268435456) 61 0 (2 * a1_ + 1).toNat 268435456) 62 0 (2 * a1_).toNat (-1)) 62 0 (2 * a1_ + 1).toNat (-1))) rfl ?_
  refine sm_T_cal (d1 := 2) (Q1 := vq_100 a1_ dd_ F_ (sm_aI (sm_aI (sm_aI (sm_aI S0_ 61 0 (2 * a1_).toNat 268435456) 61 0 (2 * a1_ + 1).toNat 268435456) 62 0 (2 * a1_).toNat (-1)) 62 0 (2 * a1_ + 1).toNat (-1))) rfl rfl (by decide) (vc_100 a1_ dd_ F_ (sm_aI (sm_aI (sm_aI (sm_aI S0_ 61 0 (2 * a1_).toNat 268435456) 61 0 (2 * a1_ + 1).toNat 268435456) 62 0 (2 * a1_).toNat (-1)) 62 0 (2 * a1_ + 1).toNat (-1)) hIx7_ (by exact hd_) (by exact dgr_fr hg_ hFx8_ rfl rfl rfl rfl rfl) (by exact swp_fr hs_ hFx8_ rfl rfl rfl rfl) (by exact mkd_fr hk_ hFx8_) (by exact h1_) (by exact hn_)) (fun u_ Sx9_ px12_ => ?_)
  obtain ⟨rfl, hIx10_, hFx11_, px12_⟩ := px12_
  have hFx13_ : ai_fr (sx_W vw_99) S0_ Sx9_ := ai_fr_tr hFx8_ (fr_le hFx11_ rfl)
  have c44_ := px12_
  have y44_ := hFx13_
  have A44_ : ∀ j9_, Sx9_.2.2.1 61 0 j9_ = if j9_ = (2 * a1_ + 1).toNat then 268435456 else if j9_ = (2 * a1_).toNat then 268435456 else S0_.2.2.1 61 0 j9_ := fun j9_ => by (rw [(hFx11_.2.2 61 rfl 0 j9_).1, rd_ne (by decide), rd_ne (by decide), rd_eq, rd_eq])
  have B44_ : ∀ j9_, Sx9_.2.2.1 62 0 j9_ = if j9_ = (2 * a1_ + 1).toNat then -1 else if j9_ = (2 * a1_).toNat then -1 else S0_.2.2.1 62 0 j9_ := fun j9_ => by (rw [(hFx11_.2.2 62 rfl 0 j9_).1, rd_eq, rd_eq, rd_ne (by decide), rd_ne (by decide)])
  have D44_ : ∀ j9_, Sx9_.2.2.1 63 0 j9_ = S0_.2.2.1 63 0 j9_ := fun j9_ => by (rw [(hFx11_.2.2 63 rfl 0 j9_).1, rd_ne (by decide), rd_ne (by decide), rd_ne (by decide), rd_ne (by decide)])
  have E44_ : ∀ j9_, Sx9_.2.2.1 64 0 j9_ = S0_.2.2.1 64 0 j9_ := fun j9_ => by (rw [(hFx11_.2.2 64 rfl 0 j9_).1, rd_ne (by decide), rd_ne (by decide), rd_ne (by decide), rd_ne (by decide)])
  have u44_ : wo3 (1 + S0_.1 3 dd_ 1 + S0_.1 3 dd_ 2) a1_ ll_ Sx9_ (2 * a1_).toNat := Or.inl ⟨by rw [B44_, if_neg (by omega), if_pos rfl], by rw [A44_, if_neg (by omega), if_pos rfl]⟩
  have v44_ : wo3 (1 + S0_.1 3 dd_ 1 + S0_.1 3 dd_ 2) a1_ ll_ Sx9_ (2 * a1_ + 1).toNat := Or.inl ⟨by rw [B44_, if_pos rfl], by rw [A44_, if_pos rfl]⟩
  have w44_ : wfn a1_.toNat S0_ Sx9_ := ⟨fun j9_ p9_ q9_ => ⟨by rw [A44_, if_neg (by omega), if_neg (by omega)], by rw [B44_, if_neg (by omega), if_neg (by omega)], D44_ j9_⟩, fun j9_ _ => E44_ j9_⟩
  refine sm_T_go 1 (c1 := (48, [some (.inr (.inr (some (6, 0)))), some (.inl a1_), none, none, none], [.inr (.inr (some (6, 0)))], Sx9_)) rfl ?_
  refine sm_T_cal (d1 := 1) (Q1 := vq_103  Sx9_) rfl rfl (by decide) (vc_103  Sx9_ hIx10_ ) (fun u_ Sx14_ px17_ => ?_)
  obtain ⟨rfl, hIx15_, hFx16_, px17_⟩ := px17_
  have hFx18_ : ai_fr (sx_W vw_99) S0_ Sx14_ := ai_fr_tr hFx13_ (fr_le hFx16_ rfl)
  have o48_ := px17_
  have k48_ := hFx16_.1 6 0 11 rfl
  have u48_ := wo3_fr u44_ hFx16_
  have v48_ := wo3_fr v44_ hFx16_
  have w48_ := wfn_tr w44_ (wfn_fr (n_ := a1_.toNat) hFx16_)
  have c48_ : mcs (npd a1_ (S0_.2.2.1 59 0)) Sx14_ := mcs_fr c44_ hFx16_
  refine sm_T_go 2 (c1 := (53, [some (.inr (.inr (some (6, 0)))), some (.inl a1_), some (.inl 0), none, none], [], Sx14_)) rfl ?_
  refine (vl_99 a1_ dd_ F_ ll_ S0_ hd_ hc_ hg_ hs_ hk_ h1_ hn_ _).1 0 Sx14_ hIx15_ hFx18_ ⟨?_, ?_, ?_, ?_, ?_, ?_, trivial⟩ (Nat.lt_succ_self _)
  · omega
  · exact u48_
  · exact v48_
  · exact w48_
  · exact c48_
  · (intro i_ q9_; rw [k48_] at q9_ ⊢; exact o48_ i_ q9_)
end
/-! 99.zn9a -/
section
/-! tasks; written by wip/p55/gen/vg -/

/-! nets to_ be_ made: tasks -/
/-- literal 2 x_ + t_ can_ be_ made -/
def lwy (f_ : Int) (c_ : Nat → Int) (x_ t_ : Int) : Prop := (x_ < f_ ∧ t_ = 0) ∨ (f_ ≤ x_ ∧ c_ (2 * x_ + t_).toNat ≠ -1)
/-- a_ task that can_ be_ done -/
def gtk (f_ N_ iv_ : Int) (u_ c_ : Nat → Int) (t_ : Int) : Prop := 3 ≤ t_ ∧ t_ < 3 * N_ ∧ u_ (t_ / 3).toNat = 1 ∧ ((t_ % 3 = 2 ∧ iv_ ≠ -1 ∧ lwy f_ c_ (t_ / 3) 0) ∨ (t_ % 3 ≤ 1 ∧ lwy f_ c_ (t_ / 3) (t_ % 3)))
/-- tasks below have lower ranks -/
def grk (c_ : Nat → Int) (t_ : Int) : Int := 3 * (t_ / 3) + if t_ % 3 = 2 then 2 else if c_ (2 * (t_ / 3) + t_ % 3).toNat = -2 then 1 else 0
def pno (c_ inp_ : Nat → Int) (t_ : Int) : Int := if t_ % 3 = 2 then 1 else if c_ (2 * (t_ / 3) + t_ % 3).toNat < 0 then 1 else inp_ (c_ (2 * (t_ / 3) + t_ % 3).toNat).toNat
def ptn (nd_ : Nat → Int) (t_ k_ : Int) : Int := nd_ (6 * (t_ / 3) + 3 * (t_ % 3) + k_).toNat
def ptv (f_ : Int) (r_ c_ tu_ nd_ : Nat → Int) (t_ k_ : Int) : Int := if t_ % 3 = 2 then 3 * (t_ / 3) else if c_ (2 * (t_ / 3) + t_ % 3).toNat < 0 then 3 * (t_ / 3) + 1 - t_ % 3 else 3 * ptn nd_ t_ k_ + (if ptn nd_ t_ k_ < f_ ∨ r_ (ptn nd_ t_ k_).toNat ≠ 0 then 2 * (i_shr (tu_ (2 * (t_ / 3) + t_ % 3).toNat) k_ % 2) else i_shr (tu_ (2 * (t_ / 3) + t_ % 3).toNat) k_ % 2)
/-- all_ ways are_ found -/
def wal (f_ N_ : Int) (ll_ : Nat) (S_ : sm_S) : Prop := ∀ n_ : Nat, f_ ≤ (n_ : Int) → (n_ : Int) < N_ → S_.2.2.1 59 0 n_ = 1 → wok f_ n_ ll_ S_ (2 * n_) (2 * n_ + 1) ∧ wok f_ n_ ll_ S_ (2 * n_ + 1) (2 * n_) ∧ imq (S_.2.2.1 60 0 n_ ≠ 0) (S_.2.2.1 61 0 (2 * n_) < 268435456)
theorem grk_b (c_ : Nat → Int) (t_ : Int) : 3 * (t_ / 3) ≤ grk c_ t_ ∧ grk c_ t_ ≤ 3 * (t_ / 3) + 2 := by
  unfold grk
  split
  · omega
  · split <;> omega
theorem wok_c {f_ n_ : Int} {ll_ l_ m_ : Nat} {S_ : sm_S} (h_ : wok f_ n_ ll_ S_ l_ m_) (g_ : S_.2.2.1 61 0 l_ < 268435456) : S_.2.2.1 62 0 l_ ≠ -1 := by
  rcases h_ with (h_ | h_) | h_
  · omega
  · omega
  · omega
theorem wal_c {f_ N_ : Int} {ll_ : Nat} {S_ : sm_S} (h_ : wal f_ N_ ll_ S_) {x_ t_ : Int} (hf_ : 1 ≤ f_) (h1_ : f_ ≤ x_) (h2_ : x_ < N_) (hu_ : S_.2.2.1 59 0 x_.toNat = 1) (ht_ : 0 ≤ t_ ∧ t_ ≤ 1) (hn_ : S_.2.2.1 61 0 (2 * x_ + t_).toNat < 268435456) : S_.2.2.1 62 0 (2 * x_ + t_).toNat ≠ -1 := by
  have w_ := h_ x_.toNat (by omega) (by omega) hu_
  have c_ : t_ = 0 ∨ t_ = 1 := by omega
  rcases c_ with c_ | c_
  · rw [show (2 * x_ + t_).toNat = 2 * x_.toNat by omega] at hn_ ⊢
    exact wok_c w_.1 hn_
  · rw [show (2 * x_ + t_).toNat = 2 * x_.toNat + 1 by omega] at hn_ ⊢
    exact wok_c w_.2.1 hn_
theorem wal_w {f_ N_ : Int} {ll_ : Nat} {S_ : sm_S} (h_ : wal f_ N_ ll_ S_) {x_ t_ : Int} (hf_ : 1 ≤ f_) (h1_ : f_ ≤ x_) (h2_ : x_ < N_) (hu_ : S_.2.2.1 59 0 x_.toNat = 1) (ht_ : 0 ≤ t_ ∧ t_ ≤ 1) : wok f_ x_ ll_ S_ (2 * x_ + t_).toNat (2 * x_ + 1 - t_).toNat := by
  have w_ := h_ x_.toNat (by omega) (by omega) hu_
  rw [show ((x_.toNat : Nat) : Int) = x_ by omega] at w_
  have c_ : t_ = 0 ∨ t_ = 1 := by omega
  rcases c_ with c_ | c_
  · rw [show (2 * x_ + t_).toNat = 2 * x_.toNat by omega, show (2 * x_ + 1 - t_).toNat = 2 * x_.toNat + 1 by omega]; exact w_.1
  · rw [show (2 * x_ + t_).toNat = 2 * x_.toNat + 1 by omega, show (2 * x_ + 1 - t_).toNat = 2 * x_.toNat by omega]; exact w_.2.1
/-- a_ part of_ a_ task can_ be_ done -/
theorem gtk_p {f_ N_ : Int} {ll_ : Nat} {S_ : sm_S} {t_ k_ : Int} (h_ : wal f_ N_ ll_ S_) (hf_ : 1 ≤ f_) (g_ : gtk f_ N_ (S_.1 5 ll_ 2) (S_.2.2.1 59 0) (S_.2.2.1 62 0) t_) (hi_ : ¬ (t_ / 3 < f_ ∧ t_ % 3 = 0)) (hk_ : 0 ≤ k_ ∧ k_ < pno (S_.2.2.1 62 0) (S_.2.2.1 55 (0 + ll_)) t_) :
    gtk f_ N_ (S_.1 5 ll_ 2) (S_.2.2.1 59 0) (S_.2.2.1 62 0) (ptv f_ (S_.2.2.1 60 0) (S_.2.2.1 62 0) (S_.2.2.1 63 0) (S_.2.2.1 64 0) t_ k_) ∧ grk (S_.2.2.1 62 0) (ptv f_ (S_.2.2.1 60 0) (S_.2.2.1 62 0) (S_.2.2.1 63 0) (S_.2.2.1 64 0) t_ k_) < grk (S_.2.2.1 62 0) t_ := by
  obtain ⟨g1_, g2_, g3_, g4_⟩ := g_
  rcases g4_ with ⟨g4_, g5_, g6_⟩ | ⟨g4_, g6_⟩
  · have e_ : ptv f_ (S_.2.2.1 60 0) (S_.2.2.1 62 0) (S_.2.2.1 63 0) (S_.2.2.1 64 0) t_ k_ = 3 * (t_ / 3) := by unfold ptv; rw [if_pos g4_]
    rw [e_]
    refine ⟨⟨by omega, by omega, by rw [show 3 * (t_ / 3) / 3 = t_ / 3 by omega]; exact g3_, Or.inr ⟨by omega, by rw [show 3 * (t_ / 3) / 3 = t_ / 3 by omega, show 3 * (t_ / 3) % 3 = 0 by omega]; exact g6_⟩⟩, ?_⟩
    have r1_ : grk (S_.2.2.1 62 0) t_ = 3 * (t_ / 3) + 2 := by unfold grk; rw [if_pos g4_]
    rw [r1_]
    unfold grk
    rw [if_neg (by omega)]
    split <;> omega
  · have g7_ : f_ ≤ t_ / 3 ∧ S_.2.2.1 62 0 (2 * (t_ / 3) + t_ % 3).toNat ≠ -1 := by
      rcases g6_ with g6_ | g6_
      · exact absurd g6_ hi_
      · exact g6_
    have g8_ := wal_w h_ hf_ g7_.1 (by omega) g3_ (t_ := t_ % 3) (by omega)
    have n2_ : ¬ t_ % 3 = 2 := by omega
    rcases g8_ with (g8_ | g8_) | g8_
    · exact absurd g8_.1 g7_.2
    · have nc : ¬ S_.2.2.1 62 0 (2 * (t_ / 3) + t_ % 3).toNat < 0 := by have := g8_.1; omega
      unfold pno at hk_
      rw [if_neg n2_, if_neg nc] at hk_
      have p_ := g8_.2.2 k_.toNat (by omega)
      rw [show 3 * (2 * (t_ / 3) + t_ % 3).toNat + k_.toNat = (6 * (t_ / 3) + 3 * (t_ % 3) + k_).toNat by omega, show ((k_.toNat : Nat) : Int) = k_ by omega] at p_
      have e_ : ptv f_ (S_.2.2.1 60 0) (S_.2.2.1 62 0) (S_.2.2.1 63 0) (S_.2.2.1 64 0) t_ k_ = 3 * ptn (S_.2.2.1 64 0) t_ k_ + (if ptn (S_.2.2.1 64 0) t_ k_ < f_ ∨ S_.2.2.1 60 0 (ptn (S_.2.2.1 64 0) t_ k_).toNat ≠ 0 then 2 * (i_shr (S_.2.2.1 63 0 (2 * (t_ / 3) + t_ % 3).toNat) k_ % 2) else i_shr (S_.2.2.1 63 0 (2 * (t_ / 3) + t_ % 3).toNat) k_ % 2) := by unfold ptv; rw [if_neg n2_, if_neg nc]
      rw [e_]
      obtain ⟨x_, hx_⟩ : ∃ x_, x_ = ptn (S_.2.2.1 64 0) t_ k_ := ⟨_, rfl⟩
      obtain ⟨b_, hb_⟩ : ∃ b_, b_ = i_shr (S_.2.2.1 63 0 (2 * (t_ / 3) + t_ % 3).toNat) k_ % 2 := ⟨_, rfl⟩
      unfold ptn at hx_
      rw [← hx_, ← hb_] at p_
      unfold ptn
      rw [← hx_, ← hb_]
      have b1_ : b_ = 0 ∨ b_ = 1 := by omega
      obtain ⟨⟨p1_, p2_, p3_⟩, p4_, p5_⟩ := p_
      have rk_ : grk (S_.2.2.1 62 0) t_ ≥ 3 * (t_ / 3) := (grk_b _ _).1
      by_cases lf_ : x_ < f_ ∨ S_.2.2.1 60 0 x_.toNat ≠ 0
      · rw [if_pos lf_]
        have d1_ : (3 * x_ + 2 * b_) / 3 = x_ := by omega
        have lw_ : lwy f_ (S_.2.2.1 62 0) x_ 0 := by
          by_cases xf_ : x_ < f_
          · exact Or.inl ⟨xf_, rfl⟩
          · right
            have rt_ : S_.2.2.1 60 0 x_.toNat ≠ 0 := lf_.resolve_left xf_
            have w_ := (h_ x_.toNat (by omega) (by omega) p3_).2.2 rt_
            refine ⟨by omega, wal_c h_ hf_ (by omega) (by omega) p3_ (by omega) ?_⟩
            rw [show (2 * x_ + 0).toNat = 2 * x_.toNat by omega]; exact w_
        refine ⟨⟨by omega, by omega, by rw [d1_]; exact p3_, ?_⟩, ?_⟩
        · rw [d1_]
          rcases b1_ with b1_ | b1_
          · right
            rw [show (3 * x_ + 2 * b_) % 3 = 0 by omega]
            exact ⟨by decide, lw_⟩
          · left
            exact ⟨by omega, p4_ ⟨lf_, by omega⟩, lw_⟩
        · have q_ := (grk_b (S_.2.2.1 62 0) (3 * x_ + 2 * b_)).2
          rw [d1_] at q_
          omega
      · rw [if_neg lf_]
        have d1_ : (3 * x_ + b_) / 3 = x_ := by omega
        have d2_ : (3 * x_ + b_) % 3 = b_ := by omega
        have xf_ : f_ ≤ x_ ∧ S_.2.2.1 60 0 x_.toNat = 0 := by omega
        have w_ := p5_ xf_
        refine ⟨⟨by omega, by omega, by rw [d1_]; exact p3_, Or.inr ?_⟩, ?_⟩
        · rw [d1_, d2_]
          exact ⟨by omega, Or.inr ⟨xf_.1, wal_c h_ hf_ xf_.1 (by omega) p3_ (by omega) w_⟩⟩
        · have q_ := (grk_b (S_.2.2.1 62 0) (3 * x_ + b_)).2
          rw [d1_] at q_
          omega
    · have nc : S_.2.2.1 62 0 (2 * (t_ / 3) + t_ % 3).toNat < 0 := by have := g8_.1; omega
      have e_ : ptv f_ (S_.2.2.1 60 0) (S_.2.2.1 62 0) (S_.2.2.1 63 0) (S_.2.2.1 64 0) t_ k_ = 3 * (t_ / 3) + 1 - t_ % 3 := by unfold ptv; rw [if_neg n2_, if_pos nc]
      rw [e_]
      have d1_ : (3 * (t_ / 3) + 1 - t_ % 3) / 3 = t_ / 3 := by omega
      have d2_ : (3 * (t_ / 3) + 1 - t_ % 3) % 3 = 1 - t_ % 3 := by omega
      have w_ := g8_.2.2.2
      have iw_ : 2 * (t_ / 3) + (1 - t_ % 3) = 2 * (t_ / 3) + 1 - t_ % 3 := by omega
      refine ⟨⟨by omega, by omega, by rw [d1_]; exact g3_, Or.inr ⟨by omega, by rw [d1_, d2_]; exact Or.inr ⟨g7_.1, by rw [iw_]; omega⟩⟩⟩, ?_⟩
      have r1_ : grk (S_.2.2.1 62 0) t_ = 3 * (t_ / 3) + 1 := by unfold grk; rw [if_neg n2_, if_pos g8_.1]
      rw [r1_]
      unfold grk
      rw [d1_, d2_, iw_, if_neg (by omega), if_neg (by omega)]
      omega
theorem wok_fr {w_ : sx_Wl} {F_ n_ : Int} {ll_ l_ m_ : Nat} {S_ S'_ : sm_S} (h_ : wok F_ n_ ll_ S_ l_ m_) (g_ : ai_fr (sx_W w_) S_ S'_) (a1_ : (sx_W w_).2.1 61 = false := by rfl) (a2_ : (sx_W w_).2.1 62 = false := by rfl) (a3_ : (sx_W w_).2.1 63 = false := by rfl) (a4_ : (sx_W w_).2.1 64 = false := by rfl) (a5_ : (sx_W w_).2.1 55 = false := by rfl) (a6_ : (sx_W w_).2.1 59 = false := by rfl) (a7_ : (sx_W w_).2.1 60 = false := by rfl) (f5_ : (sx_W w_).1 5 2 = false := by rfl) : wok F_ n_ ll_ S'_ l_ m_ := by
  rcases h_ with h_ | h_
  · exact Or.inl (wo3_fr h_ g_ a1_ a2_ a3_ a4_ a5_ a6_ a7_ f5_)
  · right
    rw [fr_arr g_ a1_, fr_arr g_ a2_, g_.1 5 ll_ 2 f5_]
    exact h_
theorem wal_fr {w_ : sx_Wl} {f_ N_ : Int} {ll_ : Nat} {S_ S'_ : sm_S} (h_ : wal f_ N_ ll_ S_) (g_ : ai_fr (sx_W w_) S_ S'_) (a1_ : (sx_W w_).2.1 61 = false := by rfl) (a2_ : (sx_W w_).2.1 62 = false := by rfl) (a3_ : (sx_W w_).2.1 63 = false := by rfl) (a4_ : (sx_W w_).2.1 64 = false := by rfl) (a5_ : (sx_W w_).2.1 55 = false := by rfl) (a6_ : (sx_W w_).2.1 59 = false := by rfl) (a7_ : (sx_W w_).2.1 60 = false := by rfl) (f5_ : (sx_W w_).1 5 2 = false := by rfl) : wal f_ N_ ll_ S'_ := fun n_ h1_ h2_ h3_ => by
  rw [fr_arr g_ a6_] at h3_
  have q_ := h_ n_ h1_ h2_ h3_
  rw [fr_arr g_ a7_, fr_arr g_ a1_]
  exact ⟨wok_fr q_.1 g_ a1_ a2_ a3_ a4_ a5_ a6_ a7_ f5_, wok_fr q_.2.1 g_ a1_ a2_ a3_ a4_ a5_ a6_ a7_ f5_, q_.2.2⟩
/-! Mapper.partsOf -/
def vw_111 : sx_Wl := ([], [], [])
def vq_111 (a1_ : Int) (ll_ : Nat) (S0_ : sm_S) (u_ : Option sm_V) (S1_ : sm_S) : Prop := S0_ = S1_ ∧ ∃ v_ : Int, u_ = some (.inl v_) ∧ (v_ = pno (S0_.2.2.1 62 0) (S0_.2.2.1 55 (0 + ll_)) a1_ ∧ 0 ≤ v_ ∧ v_ ≤ 3)
set_option maxHeartbeats 400000 in
theorem vc_111 {sc_ : Nat × (Nat → Int)} (a1_ : Int) (ll_ : Nat) (S0_ : sm_S) (hI_ : gi S0_) (hc_ : S0_.2.1 6 0 1 = some ll_) (h1_ : 0 ≤ a1_ ∧ a1_ ≤ 3038) : sm_T (mt_P sc_) 0 111 (0, [some (.inr (.inr (some (6, 0)))), some (.inl a1_), none], [], S0_) (fun ro9_ => ∃ u_ S1_, ro9_ = (.inl u_, S1_, 0) ∧ vq_111 a1_ ll_ S0_ u_ S1_) := by
  have hF_ : ai_fr (sx_W vw_111) S0_ S0_ := ai_fr_rf
  refine sm_T_go 2 (c1 := (2, [some (.inr (.inr (some (6, 0)))), some (.inl a1_), none], [.inl 3, .inl a1_], S0_)) rfl ?_
  refine sm_T_bin (w := (a1_ % 3)) rfl (bi_rem (by omega) (by omega) (by omega) (by omega)) ?_ -- pc_ 2
  refine sm_T_go 1 (c1 := (4, [some (.inr (.inr (some (6, 0)))), some (.inl a1_), none], [.inl 2, .inl (a1_ % 3)], S0_)) rfl ?_
  refine sm_T_br (a := 1) (z := 8) rfl (fun cx1_ => ?_) (fun cx1_ => ?_)
  · have cx1_ : (a1_ % 3) ≠ 2 := of_decide_eq_true cx1_
    refine sm_T_go 5 (c1 := (19, [some (.inr (.inr (some (6, 0)))), some (.inl a1_), none], [.inl 3, .inl a1_, .inl 2, .inr (.inr (some (62, 0)))], S0_)) rfl ?_
    refine sm_T_bin (w := (a1_ / 3)) rfl (bi_div (by omega) (by omega) (by omega) (by omega)) ?_ -- pc_ 19
    refine sm_T_bin (w := 2 * (a1_ / 3)) rfl (bi_mul (by omega) (by omega) (by omega)) ?_ -- pc_ 20
    refine sm_T_go 2 (c1 := (23, [some (.inr (.inr (some (6, 0)))), some (.inl a1_), none], [.inl 3, .inl a1_, .inl (2 * (a1_ / 3)), .inr (.inr (some (62, 0)))], S0_)) rfl ?_
    refine sm_T_bin (w := (a1_ % 3)) rfl (bi_rem (by omega) (by omega) (by omega) (by omega)) ?_ -- pc_ 23
    refine sm_T_bin (w := 2 * (a1_ / 3) + (a1_ % 3)) rfl (bi_add (by omega) (by omega) (by omega)) ?_ -- pc_ 24
    refine sm_T_iald (n := 2026) rfl rfl (by omega) (by omega) ?_
    have bx2_ : (-2) ≤ S0_.2.2.1 62 0 (2 * (a1_ / 3) + (a1_ % 3)).toNat ∧ S0_.2.2.1 62 0 (2 * (a1_ / 3) + (a1_ % 3)).toNat ≤ 11 := hI_.2 62 0 _
    refine sm_T_go 2 (c1 := (28, [some (.inr (.inr (some (6, 0)))), some (.inl a1_), some (.inl (S0_.2.2.1 62 0 (2 * (a1_ / 3) + (a1_ % 3)).toNat))], [.inl (S0_.2.2.1 62 0 (2 * (a1_ / 3) + (a1_ % 3)).toNat)], S0_)) rfl ?_
    refine sm_T_b0 (a := 3) (z := 7) rfl (fun cx3_ => ?_) (fun cx3_ => ?_)
    · have cx3_ : 0 ≤ (S0_.2.2.1 62 0 (2 * (a1_ / 3) + (a1_ % 3)).toNat) := of_decide_eq_true cx3_
      refine sm_T_go 1 (c1 := (36, [some (.inr (.inr (some (6, 0)))), some (.inl a1_), some (.inl (S0_.2.2.1 62 0 (2 * (a1_ / 3) + (a1_ % 3)).toNat))], [.inr (.inr (some (6, 0)))], S0_)) rfl ?_
      refine sm_T_gr rfl rfl ((hF_.2.1 6 0 1 rfl).trans hc_) ?_
      refine sm_T_go 2 (c1 := (43, [some (.inr (.inr (some (6, 0)))), some (.inl a1_), some (.inl (S0_.2.2.1 62 0 (2 * (a1_ / 3) + (a1_ % 3)).toNat))], [.inl (S0_.2.2.1 62 0 (2 * (a1_ / 3) + (a1_ % 3)).toNat), .inr (.inr (some (55, (0 + ll_))))], S0_)) rfl ?_
      refine sm_T_iald (n := 12) rfl rfl (by omega) (by omega) ?_
      have bx4_ : 0 ≤ S0_.2.2.1 55 (0 + ll_) (S0_.2.2.1 62 0 (2 * (a1_ / 3) + (a1_ % 3)).toNat).toNat ∧ S0_.2.2.1 55 (0 + ll_) (S0_.2.2.1 62 0 (2 * (a1_ / 3) + (a1_ % 3)).toNat).toNat ≤ 3 := hI_.2 55 (0 + ll_) _
      refine sm_T_ri rfl ⟨_, _, rfl, rfl, _, rfl, ?_⟩
      refine ⟨?_, by omega⟩
      unfold pno
      first | (rw [if_pos (by omega)]) | (rw [if_neg (by omega), if_pos (by omega)]) | (rw [if_neg (by omega), if_neg (by omega)])
    · have cx3_ : ¬ (0 ≤ (S0_.2.2.1 62 0 (2 * (a1_ / 3) + (a1_ % 3)).toNat)) := of_decide_eq_false cx3_
      refine sm_T_go 2 (c1 := (44, [some (.inr (.inr (some (6, 0)))), some (.inl a1_), some (.inl (S0_.2.2.1 62 0 (2 * (a1_ / 3) + (a1_ % 3)).toNat))], [.inl 1], S0_)) rfl ?_
      refine sm_T_ri rfl ⟨_, _, rfl, rfl, _, rfl, ?_⟩
      refine ⟨?_, by omega⟩
      unfold pno
      first | (rw [if_pos (by omega)]) | (rw [if_neg (by omega), if_pos (by omega)]) | (rw [if_neg (by omega), if_neg (by omega)])
  · have cx1_ : ¬ ((a1_ % 3) ≠ 2) := of_decide_eq_false cx1_
    refine sm_T_go 7 (c1 := (44, [some (.inr (.inr (some (6, 0)))), some (.inl a1_), some (.inl (-2))], [.inl 1], S0_)) rfl ?_
    refine sm_T_ri rfl ⟨_, _, rfl, rfl, _, rfl, ?_⟩
    refine ⟨?_, by omega⟩
    unfold pno
    first | (rw [if_pos (by omega)]) | (rw [if_neg (by omega), if_pos (by omega)]) | (rw [if_neg (by omega), if_neg (by omega)])
end
/-! 99.zn9b -/
section
/-! Mapper.partAt -/
def vw_112 : sx_Wl := ([], [], [])
def vq_112 (a1_ : Int) (k_ : Int) (dd_ : Nat) (S0_ : sm_S) (u_ : Option sm_V) (S1_ : sm_S) : Prop := S0_ = S1_ ∧ ∃ v_ : Int, u_ = some (.inl v_) ∧ (v_ = ptv (1 + S0_.1 3 dd_ 1 + S0_.1 3 dd_ 2) (S0_.2.2.1 60 0) (S0_.2.2.1 62 0) (S0_.2.2.1 63 0) (S0_.2.2.1 64 0) a1_ k_)
set_option maxHeartbeats 400000 in
theorem vc_112 {sc_ : Nat × (Nat → Int)} (a1_ : Int) (k_ : Int) (dd_ : Nat) (S0_ : sm_S) (hI_ : gi S0_) (hd_ : S0_.2.1 6 0 0 = some dd_) (h1_ : 0 ≤ a1_ ∧ a1_ ≤ 3038) (h2_ : 0 ≤ k_ ∧ k_ ≤ 2) : sm_T (mt_P sc_) 2 112 (0, [some (.inr (.inr (some (6, 0)))), some (.inl a1_), some (.inl k_), none, none, none, none, none], [], S0_) (fun ro9_ => ∃ u_ S1_, ro9_ = (.inl u_, S1_, 0) ∧ vq_112 a1_ k_ dd_ S0_ u_ S1_) := by
  have hF_ : ai_fr (sx_W vw_112) S0_ S0_ := ai_fr_rf
  refine sm_T_go 2 (c1 := (2, [some (.inr (.inr (some (6, 0)))), some (.inl a1_), some (.inl k_), none, none, none, none, none], [.inl 3, .inl a1_], S0_)) rfl ?_
  refine sm_T_bin (w := (a1_ / 3)) rfl (bi_div (by omega) (by omega) (by omega) (by omega)) ?_ -- pc_ 2
  refine sm_T_go 3 (c1 := (6, [some (.inr (.inr (some (6, 0)))), some (.inl a1_), some (.inl k_), some (.inl (a1_ / 3)), none, none, none, none], [.inl 3, .inl a1_], S0_)) rfl ?_
  refine sm_T_bin (w := (a1_ % 3)) rfl (bi_rem (by omega) (by omega) (by omega) (by omega)) ?_ -- pc_ 6
  refine sm_T_go 3 (c1 := (12, [some (.inr (.inr (some (6, 0)))), some (.inl a1_), some (.inl k_), some (.inl (a1_ / 3)), some (.inl (a1_ % 3)), none, none, none], [.inl 2, .inl (a1_ % 3)], S0_)) rfl ?_
  refine sm_T_br (a := 1) (z := 7) rfl (fun cx1_ => ?_) (fun cx1_ => ?_)
  · have cx1_ : (a1_ % 3) ≠ 2 := of_decide_eq_true cx1_
    refine sm_T_go 2 (c1 := (21, [some (.inr (.inr (some (6, 0)))), some (.inl a1_), some (.inl k_), some (.inl (a1_ / 3)), some (.inl (a1_ % 3)), none, none, none], [.inl (a1_ / 3), .inl 2], S0_)) rfl ?_
    refine sm_T_bin (w := 2 * (a1_ / 3)) rfl (bi_mul (by omega) (by omega) (by omega)) ?_ -- pc_ 21
    refine sm_T_go 1 (c1 := (24, [some (.inr (.inr (some (6, 0)))), some (.inl a1_), some (.inl k_), some (.inl (a1_ / 3)), some (.inl (a1_ % 3)), none, none, none], [.inl (a1_ % 3), .inl (2 * (a1_ / 3))], S0_)) rfl ?_
    refine sm_T_bin (w := 2 * (a1_ / 3) + (a1_ % 3)) rfl (bi_add (by omega) (by omega) (by omega)) ?_ -- pc_ 24
    refine sm_T_go 4 (c1 := (33, [some (.inr (.inr (some (6, 0)))), some (.inl a1_), some (.inl k_), some (.inl (a1_ / 3)), some (.inl (a1_ % 3)), some (.inl (2 * (a1_ / 3) + (a1_ % 3))), none, none], [.inl (2 * (a1_ / 3) + (a1_ % 3)), .inr (.inr (some (62, 0)))], S0_)) rfl ?_
    refine sm_T_iald (n := 2026) rfl rfl (by omega) (by omega) ?_
    have bx2_ : (-2) ≤ S0_.2.2.1 62 0 (2 * (a1_ / 3) + (a1_ % 3)).toNat ∧ S0_.2.2.1 62 0 (2 * (a1_ / 3) + (a1_ % 3)).toNat ≤ 11 := hI_.2 62 0 _
    refine sm_T_b0 (a := 3) (z := 12) rfl (fun cx3_ => ?_) (fun cx3_ => ?_)
    · have cx3_ : 0 ≤ (S0_.2.2.1 62 0 (2 * (a1_ / 3) + (a1_ % 3)).toNat) := of_decide_eq_true cx3_
      refine sm_T_go 4 (c1 := (53, [some (.inr (.inr (some (6, 0)))), some (.inl a1_), some (.inl k_), some (.inl (a1_ / 3)), some (.inl (a1_ % 3)), some (.inl (2 * (a1_ / 3) + (a1_ % 3))), none, none], [.inl (2 * (a1_ / 3) + (a1_ % 3)), .inl 3, .inr (.inr (some (64, 0)))], S0_)) rfl ?_
      refine sm_T_bin (w := 6 * (a1_ / 3) + 3 * (a1_ % 3)) rfl (bi_mul (by omega) (by omega) (by omega)) ?_ -- pc_ 53
      refine sm_T_go 1 (c1 := (55, [some (.inr (.inr (some (6, 0)))), some (.inl a1_), some (.inl k_), some (.inl (a1_ / 3)), some (.inl (a1_ % 3)), some (.inl (2 * (a1_ / 3) + (a1_ % 3))), none, none], [.inl k_, .inl (6 * (a1_ / 3) + 3 * (a1_ % 3)), .inr (.inr (some (64, 0)))], S0_)) rfl ?_
      refine sm_T_bin (w := 6 * (a1_ / 3) + 3 * (a1_ % 3) + k_) rfl (bi_add (by omega) (by omega) (by omega)) ?_ -- pc_ 55
      refine sm_T_iald (n := 6078) rfl rfl (by omega) (by omega) ?_
      have bx4_ : 0 ≤ S0_.2.2.1 64 0 (6 * (a1_ / 3) + 3 * (a1_ % 3) + k_).toNat ∧ S0_.2.2.1 64 0 (6 * (a1_ / 3) + 3 * (a1_ % 3) + k_).toNat ≤ 1012 := hI_.2 64 0 _
      refine sm_T_go 4 (c1 := (65, [some (.inr (.inr (some (6, 0)))), some (.inl a1_), some (.inl k_), some (.inl (a1_ / 3)), some (.inl (a1_ % 3)), some (.inl (2 * (a1_ / 3) + (a1_ % 3))), some (.inl (S0_.2.2.1 64 0 (6 * (a1_ / 3) + 3 * (a1_ % 3) + k_).toNat)), none], [.inl (2 * (a1_ / 3) + (a1_ % 3)), .inr (.inr (some (63, 0)))], S0_)) rfl ?_
      refine sm_T_iald (n := 2026) rfl rfl (by omega) (by omega) ?_
      have bx5_ : 0 ≤ S0_.2.2.1 63 0 (2 * (a1_ / 3) + (a1_ % 3)).toNat ∧ S0_.2.2.1 63 0 (2 * (a1_ / 3) + (a1_ % 3)).toNat ≤ 15 := hI_.2 63 0 _
      refine sm_T_go 1 (c1 := (67, [some (.inr (.inr (some (6, 0)))), some (.inl a1_), some (.inl k_), some (.inl (a1_ / 3)), some (.inl (a1_ % 3)), some (.inl (2 * (a1_ / 3) + (a1_ % 3))), some (.inl (S0_.2.2.1 64 0 (6 * (a1_ / 3) + 3 * (a1_ % 3) + k_).toNat)), none], [.inl k_, .inl (S0_.2.2.1 63 0 (2 * (a1_ / 3) + (a1_ % 3)).toNat)], S0_)) rfl ?_
      refine sm_T_bin (w := (i_shr (S0_.2.2.1 63 0 (2 * (a1_ / 3) + (a1_ % 3)).toNat) k_)) rfl rfl ?_ -- pc_ 67
      have bx6_ := i_shr_p (x_ := (S0_.2.2.1 63 0 (2 * (a1_ / 3) + (a1_ % 3)).toNat)) (e_ := k_) (by omega) (by omega) (by omega)
      refine sm_T_go 1 (c1 := (69, [some (.inr (.inr (some (6, 0)))), some (.inl a1_), some (.inl k_), some (.inl (a1_ / 3)), some (.inl (a1_ % 3)), some (.inl (2 * (a1_ / 3) + (a1_ % 3))), some (.inl (S0_.2.2.1 64 0 (6 * (a1_ / 3) + 3 * (a1_ % 3) + k_).toNat)), none], [.inl 1, .inl (i_shr (S0_.2.2.1 63 0 (2 * (a1_ / 3) + (a1_ % 3)).toNat) k_)], S0_)) rfl ?_
      refine sm_T_bin (w := ((i_shr (S0_.2.2.1 63 0 (2 * (a1_ / 3) + (a1_ % 3)).toNat) k_) % 2)) rfl (bi_msk (k := 1) (by decide)) ?_ -- pc_ 69
      refine sm_T_go 3 (c1 := (75, [some (.inr (.inr (some (6, 0)))), some (.inl a1_), some (.inl k_), some (.inl (a1_ / 3)), some (.inl (a1_ % 3)), some (.inl (2 * (a1_ / 3) + (a1_ % 3))), some (.inl (S0_.2.2.1 64 0 (6 * (a1_ / 3) + 3 * (a1_ % 3) + k_).toNat)), some (.inl ((i_shr (S0_.2.2.1 63 0 (2 * (a1_ / 3) + (a1_ % 3)).toNat) k_) % 2))], [.inl (S0_.2.2.1 64 0 (6 * (a1_ / 3) + 3 * (a1_ % 3) + k_).toNat), .inl 3], S0_)) rfl ?_
      refine sm_T_bin (w := 3 * (S0_.2.2.1 64 0 (6 * (a1_ / 3) + 3 * (a1_ % 3) + k_).toNat)) rfl (bi_mul (by omega) (by omega) (by omega)) ?_ -- pc_ 75
      refine sm_T_go 2 (c1 := (79, [some (.inr (.inr (some (6, 0)))), some (.inl a1_), some (.inl k_), some (.inl (a1_ / 3)), some (.inl (a1_ % 3)), some (.inl (2 * (a1_ / 3) + (a1_ % 3))), some (.inl (S0_.2.2.1 64 0 (6 * (a1_ / 3) + 3 * (a1_ % 3) + k_).toNat)), some (.inl ((i_shr (S0_.2.2.1 63 0 (2 * (a1_ / 3) + (a1_ % 3)).toNat) k_) % 2))], [.inl (S0_.2.2.1 64 0 (6 * (a1_ / 3) + 3 * (a1_ % 3) + k_).toNat), .inr (.inr (some (6, 0))), .inl (3 * (S0_.2.2.1 64 0 (6 * (a1_ / 3) + 3 * (a1_ % 3) + k_).toNat))], S0_)) rfl ?_
      refine sm_T_cal (d1 := 1) (Q1 := vq_94 (S0_.2.2.1 64 0 (6 * (a1_ / 3) + 3 * (a1_ % 3) + k_).toNat) dd_ S0_) rfl rfl (by decide) (vc_94 (S0_.2.2.1 64 0 (6 * (a1_ / 3) + 3 * (a1_ % 3) + k_).toNat) dd_ S0_ hI_ (by exact hd_) (by omega)) (fun u_ Sx7_ px10_ => ?_)
      obtain ⟨rfl, vx12_, rfl, px10_⟩ := px10_
      have lf9_ := px10_
      refine sm_T_b0 (a := 0) (z := 10) rfl (fun cx13_ => ?_) (fun cx13_ => ?_)
      · have cx13_ : vx12_ = 0 := of_decide_eq_true cx13_
        refine sm_T_go 1 (c1 := (94, [some (.inr (.inr (some (6, 0)))), some (.inl a1_), some (.inl k_), some (.inl (a1_ / 3)), some (.inl (a1_ % 3)), some (.inl (2 * (a1_ / 3) + (a1_ % 3))), some (.inl (S0_.2.2.1 64 0 (6 * (a1_ / 3) + 3 * (a1_ % 3) + k_).toNat)), some (.inl ((i_shr (S0_.2.2.1 63 0 (2 * (a1_ / 3) + (a1_ % 3)).toNat) k_) % 2))], [.inl ((i_shr (S0_.2.2.1 63 0 (2 * (a1_ / 3) + (a1_ % 3)).toNat) k_) % 2), .inl (3 * (S0_.2.2.1 64 0 (6 * (a1_ / 3) + 3 * (a1_ % 3) + k_).toNat))], S0_)) rfl ?_
        refine sm_T_bin (w := 3 * (S0_.2.2.1 64 0 (6 * (a1_ / 3) + 3 * (a1_ % 3) + k_).toNat) + ((i_shr (S0_.2.2.1 63 0 (2 * (a1_ / 3) + (a1_ % 3)).toNat) k_) % 2)) rfl (bi_add (by omega) (by omega) (by omega)) ?_ -- pc_ 94
        refine sm_T_ri rfl ⟨_, _, rfl, rfl, _, rfl, ?_⟩
        unfold ptv ptn
        rw [if_neg (by omega), if_neg (by omega)]
        first | (rw [if_pos (by omega)]) | (rw [if_neg (by omega)])
      · have cx13_ : ¬ (vx12_ = 0) := of_decide_eq_false cx13_
        refine sm_T_go 2 (c1 := (88, [some (.inr (.inr (some (6, 0)))), some (.inl a1_), some (.inl k_), some (.inl (a1_ / 3)), some (.inl (a1_ % 3)), some (.inl (2 * (a1_ / 3) + (a1_ % 3))), some (.inl (S0_.2.2.1 64 0 (6 * (a1_ / 3) + 3 * (a1_ % 3) + k_).toNat)), some (.inl ((i_shr (S0_.2.2.1 63 0 (2 * (a1_ / 3) + (a1_ % 3)).toNat) k_) % 2))], [.inl ((i_shr (S0_.2.2.1 63 0 (2 * (a1_ / 3) + (a1_ % 3)).toNat) k_) % 2), .inl 2, .inl (3 * (S0_.2.2.1 64 0 (6 * (a1_ / 3) + 3 * (a1_ % 3) + k_).toNat))], S0_)) rfl ?_
        refine sm_T_bin (w := 2 * ((i_shr (S0_.2.2.1 63 0 (2 * (a1_ / 3) + (a1_ % 3)).toNat) k_) % 2)) rfl (bi_mul (by omega) (by omega) (by omega)) ?_ -- pc_ 88
        refine sm_T_go 1 (c1 := (94, [some (.inr (.inr (some (6, 0)))), some (.inl a1_), some (.inl k_), some (.inl (a1_ / 3)), some (.inl (a1_ % 3)), some (.inl (2 * (a1_ / 3) + (a1_ % 3))), some (.inl (S0_.2.2.1 64 0 (6 * (a1_ / 3) + 3 * (a1_ % 3) + k_).toNat)), some (.inl ((i_shr (S0_.2.2.1 63 0 (2 * (a1_ / 3) + (a1_ % 3)).toNat) k_) % 2))], [.inl (2 * ((i_shr (S0_.2.2.1 63 0 (2 * (a1_ / 3) + (a1_ % 3)).toNat) k_) % 2)), .inl (3 * (S0_.2.2.1 64 0 (6 * (a1_ / 3) + 3 * (a1_ % 3) + k_).toNat))], S0_)) rfl ?_
        refine sm_T_bin (w := 3 * (S0_.2.2.1 64 0 (6 * (a1_ / 3) + 3 * (a1_ % 3) + k_).toNat) + 2 * ((i_shr (S0_.2.2.1 63 0 (2 * (a1_ / 3) + (a1_ % 3)).toNat) k_) % 2)) rfl (bi_add (by omega) (by omega) (by omega)) ?_ -- pc_ 94
        refine sm_T_ri rfl ⟨_, _, rfl, rfl, _, rfl, ?_⟩
        unfold ptv ptn
        rw [if_neg (by omega), if_neg (by omega)]
        first | (rw [if_pos (by omega)]) | (rw [if_neg (by omega)])
    · have cx3_ : ¬ (0 ≤ (S0_.2.2.1 62 0 (2 * (a1_ / 3) + (a1_ % 3)).toNat)) := of_decide_eq_false cx3_
      refine sm_T_go 2 (c1 := (39, [some (.inr (.inr (some (6, 0)))), some (.inl a1_), some (.inl k_), some (.inl (a1_ / 3)), some (.inl (a1_ % 3)), some (.inl (2 * (a1_ / 3) + (a1_ % 3))), none, none], [.inl (a1_ / 3), .inl 3], S0_)) rfl ?_
      refine sm_T_bin (w := 3 * (a1_ / 3)) rfl (bi_mul (by omega) (by omega) (by omega)) ?_ -- pc_ 39
      refine sm_T_go 1 (c1 := (41, [some (.inr (.inr (some (6, 0)))), some (.inl a1_), some (.inl k_), some (.inl (a1_ / 3)), some (.inl (a1_ % 3)), some (.inl (2 * (a1_ / 3) + (a1_ % 3))), none, none], [.inl 1, .inl (3 * (a1_ / 3))], S0_)) rfl ?_
      refine sm_T_bin (w := 3 * (a1_ / 3) + 1) rfl (bi_add (by omega) (by omega) (by omega)) ?_ -- pc_ 41
      refine sm_T_go 1 (c1 := (44, [some (.inr (.inr (some (6, 0)))), some (.inl a1_), some (.inl k_), some (.inl (a1_ / 3)), some (.inl (a1_ % 3)), some (.inl (2 * (a1_ / 3) + (a1_ % 3))), none, none], [.inl (a1_ % 3), .inl (3 * (a1_ / 3) + 1)], S0_)) rfl ?_
      refine sm_T_bin (w := 3 * (a1_ / 3) - (a1_ % 3) + 1) rfl (bi_sub (by omega) (by omega) (by omega)) ?_ -- pc_ 44
      refine sm_T_ri rfl ⟨_, _, rfl, rfl, _, rfl, ?_⟩
      unfold ptv
      rw [if_neg (by omega), if_pos (by omega)]
      omega
  · have cx1_ : ¬ ((a1_ % 3) ≠ 2) := of_decide_eq_false cx1_
    refine sm_T_go 2 (c1 := (17, [some (.inr (.inr (some (6, 0)))), some (.inl a1_), some (.inl k_), some (.inl (a1_ / 3)), some (.inl (a1_ % 3)), none, none, none], [.inl (a1_ / 3), .inl 3], S0_)) rfl ?_
    refine sm_T_bin (w := 3 * (a1_ / 3)) rfl (bi_mul (by omega) (by omega) (by omega)) ?_ -- pc_ 17
    refine sm_T_ri rfl ⟨_, _, rfl, rfl, _, rfl, ?_⟩
    unfold ptv
    rw [if_pos (by omega)]
end
/-! 99.zo1a -/
section
/-! tasks done; written by wip/p55/gen/vg -/

/-! tasks done -/
theorem gtk_iv {f_ N_ : Int} {ll_ : Nat} {S_ : sm_S} {t_ : Int} (h_ : wal f_ N_ ll_ S_) (hf_ : 1 ≤ f_) (g_ : gtk f_ N_ (S_.1 5 ll_ 2) (S_.2.2.1 59 0) (S_.2.2.1 62 0) t_) (hi_ : ¬ (t_ / 3 < f_ ∧ t_ % 3 = 0)) (q_ : t_ % 3 = 2 ∨ S_.2.2.1 62 0 (2 * (t_ / 3) + t_ % 3).toNat < 0) : S_.1 5 ll_ 2 ≠ -1 := by
  obtain ⟨g1_, g2_, g3_, g4_⟩ := g_
  rcases g4_ with ⟨g4_, g5_, g6_⟩ | ⟨g4_, g6_⟩
  · exact g5_
  · have g7_ : f_ ≤ t_ / 3 ∧ S_.2.2.1 62 0 (2 * (t_ / 3) + t_ % 3).toNat ≠ -1 := by
      rcases g6_ with g6_ | g6_
      · exact absurd g6_ hi_
      · exact g6_
    have g8_ := wal_w h_ hf_ g7_.1 (by omega) g3_ (t_ := t_ % 3) (by omega)
    rcases g8_ with (g8_ | g8_) | g8_
    · exact absurd g8_.1 g7_.2
    · have := g8_.1; omega
    · exact g8_.2.2.1
/-! Mapper.missingPart -/
def vw_113 : sx_Wl := ([], [], [])
def vq_113 (a1_ : Int) (dd_ : Nat) (ll_ : Nat) (S0_ : sm_S) (u_ : Option sm_V) (S1_ : sm_S) : Prop := S0_ = S1_ ∧ ∃ v_ : Int, u_ = some (.inl v_) ∧ ((v_ = -1 ∧ ∀ k_ : Int, 0 ≤ k_ → k_ < pno (S0_.2.2.1 62 0) (S0_.2.2.1 55 (0 + ll_)) a1_ → S0_.2.2.1 72 0 (ptv (1 + S0_.1 3 dd_ 1 + S0_.1 3 dd_ 2) (S0_.2.2.1 60 0) (S0_.2.2.1 62 0) (S0_.2.2.1 63 0) (S0_.2.2.1 64 0) a1_ k_).toNat ≠ -1) ∨ (v_ ≠ -1 ∧ gtk (1 + S0_.1 3 dd_ 1 + S0_.1 3 dd_ 2) (S0_.1 3 dd_ 4) (S0_.1 5 ll_ 2) (S0_.2.2.1 59 0) (S0_.2.2.1 62 0) v_ ∧ grk (S0_.2.2.1 62 0) v_ < grk (S0_.2.2.1 62 0) a1_))
set_option maxHeartbeats 400000 in
theorem vl_113 {sc_ : Nat × (Nat → Int)} (a1_ : Int) (dd_ : Nat) (ll_ : Nat) (S0_ : sm_S) (hd_ : S0_.2.1 6 0 0 = some dd_) (hc_ : S0_.2.1 6 0 1 = some ll_) (hw_ : wal (1 + S0_.1 3 dd_ 1 + S0_.1 3 dd_ 2) (S0_.1 3 dd_ 4) ll_ S0_) (hgt_ : gtk (1 + S0_.1 3 dd_ 1 + S0_.1 3 dd_ 2) (S0_.1 3 dd_ 4) (S0_.1 5 ll_ 2) (S0_.2.2.1 59 0) (S0_.2.2.1 62 0) a1_) (hni_ : ¬ (a1_ / 3 < (1 + S0_.1 3 dd_ 1 + S0_.1 3 dd_ 2) ∧ a1_ % 3 = 0)) : ∀ nn_ : Nat, (∀ (k_ : Int) (S_ : sm_S), gi S_ → ai_fr (sx_W vw_113) S0_ S_ → ((0 ≤ k_ ∧ k_ ≤ 3) ∧ (∀ j_ : Int, 0 ≤ j_ → j_ < k_ → S0_.2.2.1 72 0 (ptv (1 + S0_.1 3 dd_ 1 + S0_.1 3 dd_ 2) (S0_.2.2.1 60 0) (S0_.2.2.1 62 0) (S0_.2.2.1 63 0) (S0_.2.2.1 64 0) a1_ j_).toNat ≠ -1) ∧ (S_ = S0_) ∧ True) → ((100 - k_).toNat) < nn_ → sm_T (mt_P sc_) 3 113 (2, [some (.inr (.inr (some (6, 0)))), some (.inl a1_), some (.inl k_), none], [], S_) (fun ro9_ => ∃ u_ S1_, ro9_ = (.inl u_, S1_, 0) ∧ vq_113 a1_ dd_ ll_ S0_ u_ S1_)) := by
  intro nn_
  induction nn_ with
  | zero => exact fun _ _ _ _ _ h_ => absurd h_ (Nat.not_lt_zero _)
  | succ nn_ ih_ =>
    rintro k_ S_ hI_ hF_ ⟨h0_, hk9_, hS_, -⟩ hm_
    have cI_ : 0 ≤ S_.1 3 dd_ 1 ∧ S_.1 3 dd_ 1 ≤ 320 := hI_.1 3 dd_ 1 rfl
    have cR_ : 0 ≤ S_.1 3 dd_ 2 ∧ S_.1 3 dd_ 2 ≤ 100000 := hI_.1 3 dd_ 2 rfl
    have cN_ : 0 ≤ S_.1 3 dd_ 4 ∧ S_.1 3 dd_ 4 ≤ 1013 := hI_.1 3 dd_ 4 rfl
    have f1_ : S_.1 3 dd_ 1 = S0_.1 3 dd_ 1 := by rw [hS_]
    have f2_ : S_.1 3 dd_ 2 = S0_.1 3 dd_ 2 := by rw [hS_]
    have f4_ : S_.1 3 dd_ 4 = S0_.1 3 dd_ 4 := by rw [hS_]
    have hf_ : 1 ≤ (1 + S0_.1 3 dd_ 1 + S0_.1 3 dd_ 2) := by omega
    have t1_ := hgt_.1
    have t2_ := hgt_.2.1
    refine sm_T_go 3 (c1 := (5, [some (.inr (.inr (some (6, 0)))), some (.inl a1_), some (.inl k_), none], [.inl a1_, .inr (.inr (some (6, 0))), .inl k_], S_)) rfl ?_
    refine sm_T_cal (d1 := 0) (Q1 := vq_111 a1_ ll_ S_) rfl rfl (by decide) (vc_111 a1_ ll_ S_ hI_ (by (rw [hS_]; exact hc_)) (by omega)) (fun u_ Sx1_ px4_ => ?_)
    obtain ⟨rfl, vx6_, rfl, px4_⟩ := px4_
    have a5_ := px4_
    rw [hS_] at a5_
    refine sm_T_br (a := 3) (z := 28) rfl (fun cx7_ => ?_) (fun cx7_ => ?_)
    · have cx7_ : vx6_ ≤ k_ := of_decide_eq_true cx7_
      refine sm_T_go 1 (c1 := (37, [some (.inr (.inr (some (6, 0)))), some (.inl a1_), some (.inl k_), none], [.inl (-1)], S_)) rfl ?_
      refine sm_T_ri rfl ⟨_, _, rfl, (by first | rfl | exact hS_.symm), _, rfl, ?_⟩
      left
      exact ⟨rfl, fun j_ u_ w_ => hk9_ j_ u_ (by omega)⟩
    · have cx7_ : ¬ (vx6_ ≤ k_) := of_decide_eq_false cx7_
      refine sm_T_go 3 (c1 := (14, [some (.inr (.inr (some (6, 0)))), some (.inl a1_), some (.inl k_), none], [.inl k_, .inl a1_, .inr (.inr (some (6, 0)))], S_)) rfl ?_
      refine sm_T_cal (d1 := 2) (Q1 := vq_112 a1_ k_ dd_ S_) rfl rfl (by decide) (vc_112 a1_ k_ dd_ S_ hI_ (by (rw [hS_]; exact hd_)) (by omega) (by omega)) (fun u_ Sx8_ px11_ => ?_)
      obtain ⟨rfl, vx13_, rfl, px11_⟩ := px11_
      have a14_ : vx13_ = ptv (1 + S0_.1 3 dd_ 1 + S0_.1 3 dd_ 2) (S0_.2.2.1 60 0) (S0_.2.2.1 62 0) (S0_.2.2.1 63 0) (S0_.2.2.1 64 0) a1_ k_ := by (have z9_ := px11_; rw [hS_] at z9_; exact z9_)
      have gp_ := gtk_p hw_ hf_ hgt_ hni_ (k_ := k_) (by omega)
      rw [← a14_] at gp_
      have g13_ := gp_.1.1
      have g14_ := gp_.1.2.1
      refine sm_T_go 4 (c1 := (23, [some (.inr (.inr (some (6, 0)))), some (.inl a1_), some (.inl k_), some (.inl vx13_)], [.inl vx13_, .inr (.inr (some (72, 0)))], S_)) rfl ?_
      refine sm_T_iald (n := 3039) rfl rfl (by omega) (by omega) ?_
      have bx14_ : (-1) ≤ S_.2.2.1 72 0 vx13_.toNat ∧ S_.2.2.1 72 0 vx13_.toNat ≤ 161 := hI_.2 72 0 _
      refine sm_T_go 1 (c1 := (25, [some (.inr (.inr (some (6, 0)))), some (.inl a1_), some (.inl k_), some (.inl vx13_)], [.inl (-1), .inl (S_.2.2.1 72 0 vx13_.toNat)], S_)) rfl ?_
      refine sm_T_br (a := 1) (z := 5) rfl (fun cx15_ => ?_) (fun cx15_ => ?_)
      · have cx15_ : (S_.2.2.1 72 0 vx13_.toNat) ≠ (-1) := of_decide_eq_true cx15_
        refine sm_T_inc (a := 2) (z := 1) (v := k_) (w := k_ + 1) rfl rfl (by omega) (by omega) (by omega) ?_ -- pc_ 30
        refine sm_T_go 1 (c1 := (2, [some (.inr (.inr (some (6, 0)))), some (.inl a1_), some (.inl (k_ + 1)), some (.inl vx13_)], [], S_)) rfl ?_
        refine sm_T_wk [some (.inr (.inr (some (6, 0)))), some (.inl a1_), some (.inl (k_ + 1)), none] (by exact ⟨rfl, rfl, rfl, trivial⟩) ?_
        refine ih_ (k_ + 1) S_ hI_ hF_ ⟨?_, ?_, ?_, trivial⟩ ?_
        · omega
        · intro j_ u_ w_
          by_cases y_ : j_ = k_
          · rw [y_, ← a14_, ← hS_]; omega
          · exact hk9_ j_ u_ (by omega)
        · first | rfl | exact hS_
        · omega
      · have cx15_ : ¬ ((S_.2.2.1 72 0 vx13_.toNat) ≠ (-1)) := of_decide_eq_false cx15_
        refine sm_T_go 1 (c1 := (29, [some (.inr (.inr (some (6, 0)))), some (.inl a1_), some (.inl k_), some (.inl vx13_)], [.inl vx13_], S_)) rfl ?_
        refine sm_T_ri rfl ⟨_, _, rfl, (by first | rfl | exact hS_.symm), _, rfl, ?_⟩
        right
        exact ⟨by omega, gp_.1, gp_.2⟩
set_option maxHeartbeats 400000 in
theorem vc_113 {sc_ : Nat × (Nat → Int)} (a1_ : Int) (dd_ : Nat) (ll_ : Nat) (S0_ : sm_S) (hI_ : gi S0_) (hd_ : S0_.2.1 6 0 0 = some dd_) (hc_ : S0_.2.1 6 0 1 = some ll_) (hw_ : wal (1 + S0_.1 3 dd_ 1 + S0_.1 3 dd_ 2) (S0_.1 3 dd_ 4) ll_ S0_) (hgt_ : gtk (1 + S0_.1 3 dd_ 1 + S0_.1 3 dd_ 2) (S0_.1 3 dd_ 4) (S0_.1 5 ll_ 2) (S0_.2.2.1 59 0) (S0_.2.2.1 62 0) a1_) (hni_ : ¬ (a1_ / 3 < (1 + S0_.1 3 dd_ 1 + S0_.1 3 dd_ 2) ∧ a1_ % 3 = 0)) : sm_T (mt_P sc_) 3 113 (0, [some (.inr (.inr (some (6, 0)))), some (.inl a1_), none, none], [], S0_) (fun ro9_ => ∃ u_ S1_, ro9_ = (.inl u_, S1_, 0) ∧ vq_113 a1_ dd_ ll_ S0_ u_ S1_) := by
  have hF_ : ai_fr (sx_W vw_113) S0_ S0_ := ai_fr_rf
  have cI_ : 0 ≤ S0_.1 3 dd_ 1 ∧ S0_.1 3 dd_ 1 ≤ 320 := hI_.1 3 dd_ 1 rfl
  have cR_ : 0 ≤ S0_.1 3 dd_ 2 ∧ S0_.1 3 dd_ 2 ≤ 100000 := hI_.1 3 dd_ 2 rfl
  have cN_ : 0 ≤ S0_.1 3 dd_ 4 ∧ S0_.1 3 dd_ 4 ≤ 1013 := hI_.1 3 dd_ 4 rfl
  have hf_ : 1 ≤ (1 + S0_.1 3 dd_ 1 + S0_.1 3 dd_ 2) := by omega
  have t1_ := hgt_.1
  have t2_ := hgt_.2.1
  refine sm_T_go 2 (c1 := (2, [some (.inr (.inr (some (6, 0)))), some (.inl a1_), some (.inl 0), none], [], S0_)) rfl ?_
  refine (vl_113 a1_ dd_ ll_ S0_ hd_ hc_ hw_ hgt_ hni_ _) 0 S0_ hI_ hF_ ⟨?_, ?_, ?_, trivial⟩ (Nat.lt_succ_self _)
  · omega
  · (intro j_ u_ w_; exfalso; omega)
  · first | rfl | exact hS_
end
/-! 99.zo1b -/
section
/-! Mapper.finishTask -/
def vw_114 : sx_Wl := ([(2, 8)], [35, 36], [])
def vq_114 (a1_ : Int) (dd_ : Nat) (ll_ : Nat) (cc_ : Nat) (S0_ : sm_S) (u_ : Option sm_V) (S1_ : sm_S) : Prop := ∃ v_ : Int, u_ = some (.inl v_) ∧ gi S1_ ∧ ai_fr (sx_W vw_114) S0_ S1_ ∧ (cdf cc_ S0_ S1_ ∧ (v_ = S0_.1 2 cc_ 1 + S0_.1 2 cc_ 2 + S0_.1 2 cc_ 8 ∧ S1_.1 2 cc_ 8 = S0_.1 2 cc_ 8 + 1))
set_option maxHeartbeats 400000 in
theorem vl_114 {sc_ : Nat × (Nat → Int)} (a1_ : Int) (dd_ : Nat) (ll_ : Nat) (cc_ : Nat) (S0_ : sm_S) (hd_ : S0_.2.1 6 0 0 = some dd_) (hc_ : S0_.2.1 6 0 1 = some ll_) (hw_ : wal (1 + S0_.1 3 dd_ 1 + S0_.1 3 dd_ 2) (S0_.1 3 dd_ 4) ll_ S0_) (hgt_ : gtk (1 + S0_.1 3 dd_ 1 + S0_.1 3 dd_ 2) (S0_.1 3 dd_ 4) (S0_.1 5 ll_ 2) (S0_.2.2.1 59 0) (S0_.2.2.1 62 0) a1_) (hni_ : ¬ (a1_ / 3 < (1 + S0_.1 3 dd_ 1 + S0_.1 3 dd_ 2) ∧ a1_ % 3 = 0)) (hs2_ : S0_.1 2 cc_ 1 + S0_.1 2 cc_ 2 ≤ 12) (hg8_ : S0_.1 2 cc_ 8 < 150) (hmd_ : ∀ k_ : Int, 0 ≤ k_ → k_ < pno (S0_.2.2.1 62 0) (S0_.2.2.1 55 (0 + ll_)) a1_ → S0_.2.2.1 72 0 (ptv (1 + S0_.1 3 dd_ 1 + S0_.1 3 dd_ 2) (S0_.2.2.1 60 0) (S0_.2.2.1 62 0) (S0_.2.2.1 63 0) (S0_.2.2.1 64 0) a1_ k_).toNat ≠ -1) : ∀ nn_ : Nat, (∀ (g9_ : Int) (c9_ : Int) (k_ : Int) (S_ : sm_S), gi S_ → ai_fr (sx_W vw_114) S0_ S_ → ((0 ≤ k_ ∧ k_ ≤ 3 ∧ g9_ = S0_.1 2 cc_ 8) ∧ (S_.1 2 cc_ 8 = S0_.1 2 cc_ 8) ∧ (cdf cc_ S0_ S_) ∧ True) → ((100 - k_).toNat) < nn_ → sm_T (mt_P sc_) 3 114 (59, [some (.inr (.inr (some (6, 0)))), some (.inl a1_), some (.inr (.inr (some (2, cc_)))), some (.inl g9_), some (.inl c9_), some (.inl k_)], [], S_) (fun ro9_ => ∃ u_ S1_, ro9_ = (.inl u_, S1_, 0) ∧ vq_114 a1_ dd_ ll_ cc_ S0_ u_ S1_)) := by
  intro nn_
  induction nn_ with
  | zero => exact fun _ _ _ _ _ _ _ h_ => absurd h_ (Nat.not_lt_zero _)
  | succ nn_ ih_ =>
    rintro g9_ c9_ k_ S_ hI_ hF_ ⟨h0_, h8_, hC_, -⟩ hm_
    have f59_ : S_.2.2.1 59 0 = S0_.2.2.1 59 0 := fr_arr hF_ rfl
    have f60_ : S_.2.2.1 60 0 = S0_.2.2.1 60 0 := fr_arr hF_ rfl
    have f62_ : S_.2.2.1 62 0 = S0_.2.2.1 62 0 := fr_arr hF_ rfl
    have f63_ : S_.2.2.1 63 0 = S0_.2.2.1 63 0 := fr_arr hF_ rfl
    have f64_ : S_.2.2.1 64 0 = S0_.2.2.1 64 0 := fr_arr hF_ rfl
    have f55_ : S_.2.2.1 55 (0 + ll_) = S0_.2.2.1 55 (0 + ll_) := fr_arr hF_ rfl
    have f1_ : S_.1 3 dd_ 1 = S0_.1 3 dd_ 1 := hF_.1 3 dd_ 1 rfl
    have f2_ : S_.1 3 dd_ 2 = S0_.1 3 dd_ 2 := hF_.1 3 dd_ 2 rfl
    have f4_ : S_.1 3 dd_ 4 = S0_.1 3 dd_ 4 := hF_.1 3 dd_ 4 rfl
    have f5_ : S_.1 5 ll_ 2 = S0_.1 5 ll_ 2 := hF_.1 5 ll_ 2 rfl
    have cI_ : 0 ≤ S_.1 3 dd_ 1 ∧ S_.1 3 dd_ 1 ≤ 320 := hI_.1 3 dd_ 1 rfl
    have cR_ : 0 ≤ S_.1 3 dd_ 2 ∧ S_.1 3 dd_ 2 ≤ 100000 := hI_.1 3 dd_ 2 rfl
    have cN_ : 0 ≤ S_.1 3 dd_ 4 ∧ S_.1 3 dd_ 4 ≤ 1013 := hI_.1 3 dd_ 4 rfl
    have hf_ : 1 ≤ (1 + S0_.1 3 dd_ 1 + S0_.1 3 dd_ 2) := by omega
    have f72_ : S_.2.2.1 72 0 = S0_.2.2.1 72 0 := fr_arr hF_ rfl
    have e1_ : S_.1 2 cc_ 1 = S0_.1 2 cc_ 1 := hF_.1 2 cc_ 1 rfl
    have e2_ : S_.1 2 cc_ 2 = S0_.1 2 cc_ 2 := hF_.1 2 cc_ 2 rfl
    have c8_ : 0 ≤ S_.1 2 cc_ 8 ∧ S_.1 2 cc_ 8 ≤ 150 := hI_.1 2 cc_ 8 rfl
    have t1_ := hgt_.1
    have t2_ := hgt_.2.1
    refine sm_T_go 3 (c1 := (63, [some (.inr (.inr (some (6, 0)))), some (.inl a1_), some (.inr (.inr (some (2, cc_)))), some (.inl g9_), some (.inl c9_), some (.inl k_)], [.inl a1_, .inr (.inr (some (6, 0))), .inl k_], S_)) rfl ?_
    refine sm_T_cal (d1 := 0) (Q1 := vq_111 a1_ ll_ S_) rfl rfl (by decide) (vc_111 a1_ ll_ S_ hI_ (by exact (hF_.2.1 6 0 1 rfl).trans hc_) (by omega)) (fun u_ Sx1_ px4_ => ?_)
    obtain ⟨rfl, vx6_, rfl, px4_⟩ := px4_
    have a63_ := px4_
    rw [f62_, f55_] at a63_
    refine sm_T_br (a := 3) (z := 32) rfl (fun cx7_ => ?_) (fun cx7_ => ?_)
    · have cx7_ : vx6_ ≤ k_ := of_decide_eq_true cx7_
      have bx8_ : 0 ≤ S_.1 2 cc_ 8 ∧ S_.1 2 cc_ 8 ≤ 150 := hI_.1 2 cc_ 8 rfl
      refine sm_T_go 4 (c1 := (104, [some (.inr (.inr (some (6, 0)))), some (.inl a1_), some (.inr (.inr (some (2, cc_)))), some (.inl g9_), some (.inl c9_), some (.inl k_)], [.inl 1, .inl (S_.1 2 cc_ 8), .inr (.inr (some (2, cc_)))], S_)) rfl ?_
      refine sm_T_bin (w := (S_.1 2 cc_ 8) + 1) rfl (bi_add (by omega) (by omega) (by omega)) ?_ -- pc_ 104
      have hIx9_ : gi (sm_pI S_ 2 cc_ 8 ((S_.1 2 cc_ 8) + 1)) := gi_pI hI_ (show 0 ≤ (S_.1 2 cc_ 8) + 1 ∧ (S_.1 2 cc_ 8) + 1 ≤ 150 from ⟨by omega, by omega⟩)
      have hFx10_ : ai_fr (sx_W vw_114) S0_ (sm_pI S_ 2 cc_ 8 ((S_.1 2 cc_ 8) + 1)) := ai_fr_tr hF_ (ai_fr_pI rfl)
      have hCx11_ : cdf cc_ S0_ (sm_pI S_ 2 cc_ 8 ((S_.1 2 cc_ 8) + 1)) := cdf_pI hC_ (Or.inr (by rw [show cof 2 = 0 from rfl] <;> omega))
      refine sm_T_go 2 (c1 := (109, [some (.inr (.inr (some (6, 0)))), some (.inl a1_), some (.inr (.inr (some (2, cc_)))), some (.inl g9_), some (.inl c9_), some (.inl k_)], [.inr (.inr (some (2, cc_)))], sm_pI S_ 2 cc_ 8 ((S_.1 2 cc_ 8) + 1))) rfl ?_
      refine sm_T_cal (d1 := 0) (Q1 := vq_54 cc_ (sm_pI S_ 2 cc_ 8 ((S_.1 2 cc_ 8) + 1))) rfl rfl (by decide) (vc_54 cc_ (sm_pI S_ 2 cc_ 8 ((S_.1 2 cc_ 8) + 1)) hIx9_ ) (fun u_ Sx12_ px15_ => ?_)
      obtain ⟨rfl, vx17_, rfl, px15_⟩ := px15_
      have a109_ := px15_
      refine sm_T_go 1 (c1 := (113, [some (.inr (.inr (some (6, 0)))), some (.inl a1_), some (.inr (.inr (some (2, cc_)))), some (.inl g9_), some (.inl c9_), some (.inl k_)], [.inl g9_, .inl vx17_], sm_pI S_ 2 cc_ 8 ((S_.1 2 cc_ 8) + 1))) rfl ?_
      refine sm_T_bin (w := vx17_ + g9_) rfl (bi_add (by omega) (by omega) (by omega)) ?_ -- pc_ 113
      refine sm_T_ri rfl ⟨_, _, rfl, _, rfl, hIx9_, hFx10_, ?_⟩
      refine ⟨hCx11_, ?_⟩
      (try simp only [rd_eq, rd_ne, rf_eq, rf_nk, rf_nt, rd_fa, rd_af, rd_fl, rd_al, rd_lf, rd_la, rd_leq, rd_lne, rd_fr, rd_ar, ne_eq, Nat.reduceEqDiff, not_false_eq_true] at *)
      omega
    · have cx7_ : ¬ (vx6_ ≤ k_) := of_decide_eq_false cx7_
      refine sm_T_go 4 (c1 := (75, [some (.inr (.inr (some (6, 0)))), some (.inl a1_), some (.inr (.inr (some (2, cc_)))), some (.inl g9_), some (.inl c9_), some (.inl k_)], [.inl g9_, .inl 3, .inr (.inr (some (36, (0 + cc_))))], S_)) rfl ?_
      refine sm_T_bin (w := 3 * g9_) rfl (bi_mul (by omega) (by omega) (by omega)) ?_ -- pc_ 75
      refine sm_T_go 1 (c1 := (78, [some (.inr (.inr (some (6, 0)))), some (.inl a1_), some (.inr (.inr (some (2, cc_)))), some (.inl g9_), some (.inl c9_), some (.inl k_)], [.inl k_, .inl (3 * g9_), .inr (.inr (some (36, (0 + cc_))))], S_)) rfl ?_
      refine sm_T_bin (w := 3 * g9_ + k_) rfl (bi_add (by omega) (by omega) (by omega)) ?_ -- pc_ 78
      refine sm_T_go 5 (c1 := (87, [some (.inr (.inr (some (6, 0)))), some (.inl a1_), some (.inr (.inr (some (2, cc_)))), some (.inl g9_), some (.inl c9_), some (.inl k_)], [.inl k_, .inl a1_, .inr (.inr (some (6, 0))), .inr (.inr (some (72, 0))), .inl (3 * g9_ + k_), .inr (.inr (some (36, (0 + cc_))))], S_)) rfl ?_
      refine sm_T_cal (d1 := 2) (Q1 := vq_112 a1_ k_ dd_ S_) rfl rfl (by decide) (vc_112 a1_ k_ dd_ S_ hI_ (by exact (hF_.2.1 6 0 0 rfl).trans hd_) (by omega) (by omega)) (fun u_ Sx18_ px21_ => ?_)
      obtain ⟨rfl, vx23_, rfl, px21_⟩ := px21_
      have a87_ := px21_
      rw [f1_, f2_, f60_, f62_, f63_, f64_] at a87_
      have gp_ := gtk_p hw_ hf_ hgt_ hni_ (k_ := k_) (by omega)
      have md9_ := hmd_ k_ (by omega) (by omega)
      rw [← a87_] at gp_ md9_
      have g13_ := gp_.1.1
      have g14_ := gp_.1.2.1
      rw [← f72_] at md9_
      refine sm_T_iald (n := 3039) rfl rfl (by omega) (by omega) ?_
      have bx24_ : (-1) ≤ S_.2.2.1 72 0 vx23_.toNat ∧ S_.2.2.1 72 0 vx23_.toNat ≤ 161 := hI_.2 72 0 _
      refine sm_T_iast (n := 450) rfl rfl (by omega) (by omega) ?_
      have hIx25_ : gi (sm_aI S_ 36 (0 + cc_) (3 * g9_ + k_).toNat (S_.2.2.1 72 0 vx23_.toNat)) := gi_aI hI_ (show 0 ≤ (S_.2.2.1 72 0 vx23_.toNat) ∧ (S_.2.2.1 72 0 vx23_.toNat) ≤ 161 from ⟨by omega, by omega⟩)
      have hFx26_ : ai_fr (sx_W vw_114) S0_ (sm_aI S_ 36 (0 + cc_) (3 * g9_ + k_).toNat (S_.2.2.1 72 0 vx23_.toNat)) := ai_fr_tr hF_ (ai_fr_aI rfl)
      have hCx27_ : cdf cc_ S0_ (sm_aI S_ 36 (0 + cc_) (3 * g9_ + k_).toNat (S_.2.2.1 72 0 vx23_.toNat)) := cdf_aI hC_ (Or.inr (by rw [show cof 36 = 0 from rfl] <;> omega))
      refine sm_T_inc (a := 5) (z := 1) (v := k_) (w := k_ + 1) rfl rfl (by omega) (by omega) (by omega) ?_ -- pc_ 92
      refine sm_T_go 1 (c1 := (59, [some (.inr (.inr (some (6, 0)))), some (.inl a1_), some (.inr (.inr (some (2, cc_)))), some (.inl g9_), some (.inl c9_), some (.inl (k_ + 1))], [], sm_aI S_ 36 (0 + cc_) (3 * g9_ + k_).toNat (S_.2.2.1 72 0 vx23_.toNat))) rfl ?_
      refine ih_ g9_ c9_ (k_ + 1) (sm_aI S_ 36 (0 + cc_) (3 * g9_ + k_).toNat (S_.2.2.1 72 0 vx23_.toNat)) hIx25_ hFx26_ ⟨?_, ?_, ?_, trivial⟩ ?_
      · omega
      · exact h8_
      · exact hCx27_
      · omega
set_option maxHeartbeats 400000 in
theorem vc_114 {sc_ : Nat × (Nat → Int)} (a1_ : Int) (dd_ : Nat) (ll_ : Nat) (cc_ : Nat) (S0_ : sm_S) (hI_ : gi S0_) (hd_ : S0_.2.1 6 0 0 = some dd_) (hc_ : S0_.2.1 6 0 1 = some ll_) (hw_ : wal (1 + S0_.1 3 dd_ 1 + S0_.1 3 dd_ 2) (S0_.1 3 dd_ 4) ll_ S0_) (hgt_ : gtk (1 + S0_.1 3 dd_ 1 + S0_.1 3 dd_ 2) (S0_.1 3 dd_ 4) (S0_.1 5 ll_ 2) (S0_.2.2.1 59 0) (S0_.2.2.1 62 0) a1_) (hni_ : ¬ (a1_ / 3 < (1 + S0_.1 3 dd_ 1 + S0_.1 3 dd_ 2) ∧ a1_ % 3 = 0)) (hs2_ : S0_.1 2 cc_ 1 + S0_.1 2 cc_ 2 ≤ 12) (hg8_ : S0_.1 2 cc_ 8 < 150) (hmd_ : ∀ k_ : Int, 0 ≤ k_ → k_ < pno (S0_.2.2.1 62 0) (S0_.2.2.1 55 (0 + ll_)) a1_ → S0_.2.2.1 72 0 (ptv (1 + S0_.1 3 dd_ 1 + S0_.1 3 dd_ 2) (S0_.2.2.1 60 0) (S0_.2.2.1 62 0) (S0_.2.2.1 63 0) (S0_.2.2.1 64 0) a1_ k_).toNat ≠ -1) : sm_T (mt_P sc_) 3 114 (0, [some (.inr (.inr (some (6, 0)))), some (.inl a1_), some (.inr (.inr (some (2, cc_)))), none, none, none], [], S0_) (fun ro9_ => ∃ u_ S1_, ro9_ = (.inl u_, S1_, 0) ∧ vq_114 a1_ dd_ ll_ cc_ S0_ u_ S1_) := by
  have hF_ : ai_fr (sx_W vw_114) S0_ S0_ := ai_fr_rf
  have hC_ : cdf cc_ S0_ S0_ := cdf_rf
  have cI_ : 0 ≤ S0_.1 3 dd_ 1 ∧ S0_.1 3 dd_ 1 ≤ 320 := hI_.1 3 dd_ 1 rfl
  have cR_ : 0 ≤ S0_.1 3 dd_ 2 ∧ S0_.1 3 dd_ 2 ≤ 100000 := hI_.1 3 dd_ 2 rfl
  have cN_ : 0 ≤ S0_.1 3 dd_ 4 ∧ S0_.1 3 dd_ 4 ≤ 1013 := hI_.1 3 dd_ 4 rfl
  have hf_ : 1 ≤ (1 + S0_.1 3 dd_ 1 + S0_.1 3 dd_ 2) := by omega
  have t1_ := hgt_.1
  have t2_ := hgt_.2.1
  have iv9_ := gtk_iv hw_ hf_ hgt_ hni_
  have ci_ : (-1) ≤ S0_.1 5 ll_ 2 ∧ S0_.1 5 ll_ 2 ≤ 11 := hI_.1 5 ll_ 2 rfl
  have c8_ : 0 ≤ S0_.1 2 cc_ 8 ∧ S0_.1 2 cc_ 8 ≤ 150 := hI_.1 2 cc_ 8 rfl
  have bx1_ : 0 ≤ S0_.1 2 cc_ 8 ∧ S0_.1 2 cc_ 8 ≤ 150 := hI_.1 2 cc_ 8 rfl
  refine sm_T_go 5 (c1 := (7, [some (.inr (.inr (some (6, 0)))), some (.inl a1_), some (.inr (.inr (some (2, cc_)))), some (.inl (S0_.1 2 cc_ 8)), none, none], [.inl 3, .inl a1_], S0_)) rfl ?_
  refine sm_T_bin (w := (a1_ % 3)) rfl (bi_rem (by omega) (by omega) (by omega) (by omega)) ?_ -- pc_ 7
  refine sm_T_go 1 (c1 := (9, [some (.inr (.inr (some (6, 0)))), some (.inl a1_), some (.inr (.inr (some (2, cc_)))), some (.inl (S0_.1 2 cc_ 8)), none, none], [.inl 2, .inl (a1_ % 3)], S0_)) rfl ?_
  refine sm_T_br (a := 1) (z := 8) rfl (fun cx2_ => ?_) (fun cx2_ => ?_)
  · have cx2_ : (a1_ % 3) ≠ 2 := of_decide_eq_true cx2_
    refine sm_T_go 5 (c1 := (24, [some (.inr (.inr (some (6, 0)))), some (.inl a1_), some (.inr (.inr (some (2, cc_)))), some (.inl (S0_.1 2 cc_ 8)), none, none], [.inl 3, .inl a1_, .inl 2, .inr (.inr (some (62, 0)))], S0_)) rfl ?_
    refine sm_T_bin (w := (a1_ / 3)) rfl (bi_div (by omega) (by omega) (by omega) (by omega)) ?_ -- pc_ 24
    refine sm_T_bin (w := 2 * (a1_ / 3)) rfl (bi_mul (by omega) (by omega) (by omega)) ?_ -- pc_ 25
    refine sm_T_go 2 (c1 := (28, [some (.inr (.inr (some (6, 0)))), some (.inl a1_), some (.inr (.inr (some (2, cc_)))), some (.inl (S0_.1 2 cc_ 8)), none, none], [.inl 3, .inl a1_, .inl (2 * (a1_ / 3)), .inr (.inr (some (62, 0)))], S0_)) rfl ?_
    refine sm_T_bin (w := (a1_ % 3)) rfl (bi_rem (by omega) (by omega) (by omega) (by omega)) ?_ -- pc_ 28
    refine sm_T_bin (w := 2 * (a1_ / 3) + (a1_ % 3)) rfl (bi_add (by omega) (by omega) (by omega)) ?_ -- pc_ 29
    refine sm_T_iald (n := 2026) rfl rfl (by omega) (by omega) ?_
    have bx3_ : (-2) ≤ S0_.2.2.1 62 0 (2 * (a1_ / 3) + (a1_ % 3)).toNat ∧ S0_.2.2.1 62 0 (2 * (a1_ / 3) + (a1_ % 3)).toNat ≤ 11 := hI_.2 62 0 _
    refine sm_T_go 5 (c1 := (40, [some (.inr (.inr (some (6, 0)))), some (.inl a1_), some (.inr (.inr (some (2, cc_)))), some (.inl (S0_.1 2 cc_ 8)), some (.inl (S0_.2.2.1 62 0 (2 * (a1_ / 3) + (a1_ % 3)).toNat)), none], [.inl (S0_.2.2.1 62 0 (2 * (a1_ / 3) + (a1_ % 3)).toNat), .inl (S0_.1 2 cc_ 8), .inr (.inr (some (35, (0 + cc_))))], S0_)) rfl ?_
    refine sm_T_b0 (a := 3) (z := 13) rfl (fun cx4_ => ?_) (fun cx4_ => ?_)
    · have cx4_ : 0 ≤ (S0_.2.2.1 62 0 (2 * (a1_ / 3) + (a1_ % 3)).toNat) := of_decide_eq_true cx4_
      refine sm_T_go 1 (c1 := (55, [some (.inr (.inr (some (6, 0)))), some (.inl a1_), some (.inr (.inr (some (2, cc_)))), some (.inl (S0_.1 2 cc_ 8)), some (.inl (S0_.2.2.1 62 0 (2 * (a1_ / 3) + (a1_ % 3)).toNat)), none], [.inl (S0_.2.2.1 62 0 (2 * (a1_ / 3) + (a1_ % 3)).toNat), .inl (S0_.1 2 cc_ 8), .inr (.inr (some (35, (0 + cc_))))], S0_)) rfl ?_
      refine sm_T_iast (n := 150) rfl rfl (by omega) (by omega) ?_
      have hIx5_ : gi (sm_aI S0_ 35 (0 + cc_) (S0_.1 2 cc_ 8).toNat (S0_.2.2.1 62 0 (2 * (a1_ / 3) + (a1_ % 3)).toNat)) := gi_aI hI_ (show 0 ≤ (S0_.2.2.1 62 0 (2 * (a1_ / 3) + (a1_ % 3)).toNat) ∧ (S0_.2.2.1 62 0 (2 * (a1_ / 3) + (a1_ % 3)).toNat) ≤ 11 from ⟨by omega, by omega⟩)
      have hFx6_ : ai_fr (sx_W vw_114) S0_ (sm_aI S0_ 35 (0 + cc_) (S0_.1 2 cc_ 8).toNat (S0_.2.2.1 62 0 (2 * (a1_ / 3) + (a1_ % 3)).toNat)) := ai_fr_tr hF_ (ai_fr_aI rfl)
      have hCx7_ : cdf cc_ S0_ (sm_aI S0_ 35 (0 + cc_) (S0_.1 2 cc_ 8).toNat (S0_.2.2.1 62 0 (2 * (a1_ / 3) + (a1_ % 3)).toNat)) := cdf_aI hC_ (Or.inr (by rw [show cof 35 = 0 from rfl] <;> omega))
      refine sm_T_go 2 (c1 := (59, [some (.inr (.inr (some (6, 0)))), some (.inl a1_), some (.inr (.inr (some (2, cc_)))), some (.inl (S0_.1 2 cc_ 8)), some (.inl (S0_.2.2.1 62 0 (2 * (a1_ / 3) + (a1_ % 3)).toNat)), some (.inl 0)], [], sm_aI S0_ 35 (0 + cc_) (S0_.1 2 cc_ 8).toNat (S0_.2.2.1 62 0 (2 * (a1_ / 3) + (a1_ % 3)).toNat))) rfl ?_
      refine (vl_114 a1_ dd_ ll_ cc_ S0_ hd_ hc_ hw_ hgt_ hni_ hs2_ hg8_ hmd_ _) (S0_.1 2 cc_ 8) (S0_.2.2.1 62 0 (2 * (a1_ / 3) + (a1_ % 3)).toNat) 0 (sm_aI S0_ 35 (0 + cc_) (S0_.1 2 cc_ 8).toNat (S0_.2.2.1 62 0 (2 * (a1_ / 3) + (a1_ % 3)).toNat)) hIx5_ hFx6_ ⟨?_, ?_, ?_, trivial⟩ (Nat.lt_succ_self _)
      · omega
      · rfl
      · exact hCx7_
    · have cx4_ : ¬ (0 ≤ (S0_.2.2.1 62 0 (2 * (a1_ / 3) + (a1_ % 3)).toNat)) := of_decide_eq_false cx4_
      refine sm_T_go 1 (c1 := (44, [some (.inr (.inr (some (6, 0)))), some (.inl a1_), some (.inr (.inr (some (2, cc_)))), some (.inl (S0_.1 2 cc_ 8)), some (.inl (S0_.2.2.1 62 0 (2 * (a1_ / 3) + (a1_ % 3)).toNat)), none], [.inr (.inr (some (6, 0))), .inl (S0_.1 2 cc_ 8), .inr (.inr (some (35, (0 + cc_))))], S0_)) rfl ?_
      refine sm_T_gr rfl rfl ((hF_.2.1 6 0 1 rfl).trans hc_) ?_
      have bx8_ : (-1) ≤ S0_.1 5 ll_ 2 ∧ S0_.1 5 ll_ 2 ≤ 11 := hI_.1 5 ll_ 2 rfl
      refine sm_T_go 2 (c1 := (55, [some (.inr (.inr (some (6, 0)))), some (.inl a1_), some (.inr (.inr (some (2, cc_)))), some (.inl (S0_.1 2 cc_ 8)), some (.inl (S0_.2.2.1 62 0 (2 * (a1_ / 3) + (a1_ % 3)).toNat)), none], [.inl (S0_.1 5 ll_ 2), .inl (S0_.1 2 cc_ 8), .inr (.inr (some (35, (0 + cc_))))], S0_)) rfl ?_
      refine sm_T_iast (n := 150) rfl rfl (by omega) (by omega) ?_
      have hIx9_ : gi (sm_aI S0_ 35 (0 + cc_) (S0_.1 2 cc_ 8).toNat (S0_.1 5 ll_ 2)) := gi_aI hI_ (show 0 ≤ (S0_.1 5 ll_ 2) ∧ (S0_.1 5 ll_ 2) ≤ 11 from ⟨by omega, by omega⟩)
      have hFx10_ : ai_fr (sx_W vw_114) S0_ (sm_aI S0_ 35 (0 + cc_) (S0_.1 2 cc_ 8).toNat (S0_.1 5 ll_ 2)) := ai_fr_tr hF_ (ai_fr_aI rfl)
      have hCx11_ : cdf cc_ S0_ (sm_aI S0_ 35 (0 + cc_) (S0_.1 2 cc_ 8).toNat (S0_.1 5 ll_ 2)) := cdf_aI hC_ (Or.inr (by rw [show cof 35 = 0 from rfl] <;> omega))
      refine sm_T_go 2 (c1 := (59, [some (.inr (.inr (some (6, 0)))), some (.inl a1_), some (.inr (.inr (some (2, cc_)))), some (.inl (S0_.1 2 cc_ 8)), some (.inl (S0_.2.2.1 62 0 (2 * (a1_ / 3) + (a1_ % 3)).toNat)), some (.inl 0)], [], sm_aI S0_ 35 (0 + cc_) (S0_.1 2 cc_ 8).toNat (S0_.1 5 ll_ 2))) rfl ?_
      refine (vl_114 a1_ dd_ ll_ cc_ S0_ hd_ hc_ hw_ hgt_ hni_ hs2_ hg8_ hmd_ _) (S0_.1 2 cc_ 8) (S0_.2.2.1 62 0 (2 * (a1_ / 3) + (a1_ % 3)).toNat) 0 (sm_aI S0_ 35 (0 + cc_) (S0_.1 2 cc_ 8).toNat (S0_.1 5 ll_ 2)) hIx9_ hFx10_ ⟨?_, ?_, ?_, trivial⟩ (Nat.lt_succ_self _)
      · omega
      · rfl
      · exact hCx11_
  · have cx2_ : ¬ ((a1_ % 3) ≠ 2) := of_decide_eq_false cx2_
    refine sm_T_go 9 (c1 := (44, [some (.inr (.inr (some (6, 0)))), some (.inl a1_), some (.inr (.inr (some (2, cc_)))), some (.inl (S0_.1 2 cc_ 8)), some (.inl (-2)), none], [.inr (.inr (some (6, 0))), .inl (S0_.1 2 cc_ 8), .inr (.inr (some (35, (0 + cc_))))], S0_)) rfl ?_
    refine sm_T_gr rfl rfl ((hF_.2.1 6 0 1 rfl).trans hc_) ?_
    have bx12_ : (-1) ≤ S0_.1 5 ll_ 2 ∧ S0_.1 5 ll_ 2 ≤ 11 := hI_.1 5 ll_ 2 rfl
    refine sm_T_go 2 (c1 := (55, [some (.inr (.inr (some (6, 0)))), some (.inl a1_), some (.inr (.inr (some (2, cc_)))), some (.inl (S0_.1 2 cc_ 8)), some (.inl (-2)), none], [.inl (S0_.1 5 ll_ 2), .inl (S0_.1 2 cc_ 8), .inr (.inr (some (35, (0 + cc_))))], S0_)) rfl ?_
    refine sm_T_iast (n := 150) rfl rfl (by omega) (by omega) ?_
    have hIx13_ : gi (sm_aI S0_ 35 (0 + cc_) (S0_.1 2 cc_ 8).toNat (S0_.1 5 ll_ 2)) := gi_aI hI_ (show 0 ≤ (S0_.1 5 ll_ 2) ∧ (S0_.1 5 ll_ 2) ≤ 11 from ⟨by omega, by omega⟩)
    have hFx14_ : ai_fr (sx_W vw_114) S0_ (sm_aI S0_ 35 (0 + cc_) (S0_.1 2 cc_ 8).toNat (S0_.1 5 ll_ 2)) := ai_fr_tr hF_ (ai_fr_aI rfl)
    have hCx15_ : cdf cc_ S0_ (sm_aI S0_ 35 (0 + cc_) (S0_.1 2 cc_ 8).toNat (S0_.1 5 ll_ 2)) := cdf_aI hC_ (Or.inr (by rw [show cof 35 = 0 from rfl] <;> omega))
    refine sm_T_go 2 (c1 := (59, [some (.inr (.inr (some (6, 0)))), some (.inl a1_), some (.inr (.inr (some (2, cc_)))), some (.inl (S0_.1 2 cc_ 8)), some (.inl (-2)), some (.inl 0)], [], sm_aI S0_ 35 (0 + cc_) (S0_.1 2 cc_ 8).toNat (S0_.1 5 ll_ 2))) rfl ?_
    refine (vl_114 a1_ dd_ ll_ cc_ S0_ hd_ hc_ hw_ hgt_ hni_ hs2_ hg8_ hmd_ _) (S0_.1 2 cc_ 8) (-2) 0 (sm_aI S0_ 35 (0 + cc_) (S0_.1 2 cc_ 8).toNat (S0_.1 5 ll_ 2)) hIx13_ hFx14_ ⟨?_, ?_, ?_, trivial⟩ (Nat.lt_succ_self _)
    · omega
    · rfl
    · exact hCx15_
end
