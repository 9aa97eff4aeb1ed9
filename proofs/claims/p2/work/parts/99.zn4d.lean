/-! Mapper.tableOver -/
def vw_105 : sx_Wl := ([], [70, 71], [])
def vq_105 (a1_ : Int) (a2_ : Int) (dd_ : Nat) (S0_ : sm_S) (u_ : Option sm_V) (S1_ : sm_S) : Prop := ∃ v_ : Int, u_ = some (.inl v_) ∧ gi S1_ ∧ ai_fr (sx_W vw_105) S0_ S1_ ∧ (0 ≤ v_ ∧ v_ ≤ 255)
set_option maxHeartbeats 400000 in
set_option maxRecDepth 20000 in
theorem vl_105 {sc_ : Nat × (Nat → Int)} (a1_ : Int) (a2_ : Int) (dd_ : Nat) (S0_ : sm_S) (hd_ : S0_.2.1 6 0 0 = some dd_) (h1_ : 0 ≤ a1_ ∧ a1_ ≤ 1012) (h2_ : 0 ≤ a2_ ∧ a2_ ≤ 1023) : ∀ nn_ : Nat, (∀ (ct : Int) (k_ : Int) (S_ : sm_S), gi S_ → ai_fr (sx_W vw_105) S0_ S_ → ((1 ≤ ct ∧ ct ≤ 1013 ∧ 0 ≤ k_ ∧ k_ ≤ 1013) ∧ True) → ((9000 - k_).toNat) < nn_ → sm_T (mt_P sc_) 2 105 (12, [some (.inr (.inr (some (6, 0)))), some (.inl a1_), some (.inl a2_), some (.inl ct), some (.inl k_), none, none], [], S_) (fun ro9_ => ∃ u_ S1_, ro9_ = (.inl u_, S1_, 0) ∧ vq_105 a1_ a2_ dd_ S0_ u_ S1_)) ∧ (∀ (ct : Int) (k_ : Int) (S_ : sm_S), gi S_ → ai_fr (sx_W vw_105) S0_ S_ → ((1 ≤ ct ∧ ct ≤ 1013 ∧ 0 ≤ k_ ∧ k_ ≤ 3) ∧ True) → ((7000 - k_).toNat) < nn_ → sm_T (mt_P sc_) 2 105 (125, [some (.inr (.inr (some (6, 0)))), some (.inl a1_), some (.inl a2_), some (.inl ct), some (.inl k_), none, none], [], S_) (fun ro9_ => ∃ u_ S1_, ro9_ = (.inl u_, S1_, 0) ∧ vq_105 a1_ a2_ dd_ S0_ u_ S1_)) ∧ (∀ (ct : Int) (k_ : Int) (S_ : sm_S), gi S_ → ai_fr (sx_W vw_105) S0_ S_ → ((-1 ≤ k_ ∧ k_ ≤ 1012) ∧ True) → ((k_ + 5).toNat) < nn_ → sm_T (mt_P sc_) 2 105 (179, [some (.inr (.inr (some (6, 0)))), some (.inl a1_), some (.inl a2_), some (.inl ct), some (.inl k_), none, none], [], S_) (fun ro9_ => ∃ u_ S1_, ro9_ = (.inl u_, S1_, 0) ∧ vq_105 a1_ a2_ dd_ S0_ u_ S1_)) := by
  intro nn_
  induction nn_ with
  | zero => exact ⟨fun _ _ _ _ _ _ h_ => absurd h_ (Nat.not_lt_zero _), fun _ _ _ _ _ _ h_ => absurd h_ (Nat.not_lt_zero _), fun _ _ _ _ _ _ h_ => absurd h_ (Nat.not_lt_zero _)⟩
  | succ nn_ ih_ =>
    refine ⟨?_, ?_, ?_⟩
    · rintro ct k_ S_ hI_ hF_ ⟨h0_, -⟩ hm_
      refine sm_T_go 2 (c1 := (15, [some (.inr (.inr (some (6, 0)))), some (.inl a1_), some (.inl a2_), some (.inl ct), some (.inl k_), none, none], [.inl ct, .inl k_], S_)) rfl ?_
      refine sm_T_br (a := 3) (z := 107) rfl (fun cx1_ => ?_) (fun cx1_ => ?_)
      · have cx1_ : ct ≤ k_ := of_decide_eq_true cx1_
        refine sm_T_go 2 (c1 := (125, [some (.inr (.inr (some (6, 0)))), some (.inl a1_), some (.inl a2_), some (.inl ct), some (.inl 0), none, none], [], S_)) rfl ?_
        refine ih_.2.1 ct 0 S_ hI_ hF_ ⟨?_, trivial⟩ ?_
        · omega
        · omega
      · have cx1_ : ¬ (ct ≤ k_) := of_decide_eq_false cx1_
        refine sm_T_go 4 (c1 := (25, [some (.inr (.inr (some (6, 0)))), some (.inl a1_), some (.inl a2_), some (.inl ct), some (.inl k_), none, none], [.inl 1013, .inl k_], S_)) rfl ?_
        refine sm_T_br (a := 3) (z := 97) rfl (fun cx2_ => ?_) (fun cx2_ => ?_)
        · have cx2_ : 1013 ≤ k_ := of_decide_eq_true cx2_
          refine sm_T_go 2 (c1 := (125, [some (.inr (.inr (some (6, 0)))), some (.inl a1_), some (.inl a2_), some (.inl ct), some (.inl 0), none, none], [], S_)) rfl ?_
          refine ih_.2.1 ct 0 S_ hI_ hF_ ⟨?_, trivial⟩ ?_
          · omega
          · omega
        · have cx2_ : ¬ (1013 ≤ k_) := of_decide_eq_false cx2_
          refine sm_T_go 4 (c1 := (35, [some (.inr (.inr (some (6, 0)))), some (.inl a1_), some (.inl a2_), some (.inl ct), some (.inl k_), none, none], [.inl k_, .inr (.inr (some (70, 0))), .inr (.inr (some (6, 0)))], S_)) rfl ?_
          refine sm_T_iald (n := 1013) rfl rfl (by omega) (by omega) ?_
          have bx3_ : 0 ≤ S_.2.2.1 70 0 k_.toNat ∧ S_.2.2.1 70 0 k_.toNat ≤ 1012 := hI_.2 70 0 _
          refine sm_T_cal (d1 := 1) (Q1 := vq_92 (S_.2.2.1 70 0 k_.toNat) dd_ S_) rfl rfl (by decide) (vc_92 (S_.2.2.1 70 0 k_.toNat) dd_ S_ hI_ (by exact (hF_.2.1 6 0 0 rfl).trans hd_) (by omega)) (fun u_ Sx4_ px7_ => ?_)
          obtain ⟨rfl, vx9_, rfl, px7_⟩ := px7_
          have l36_ := px7_.1
          refine sm_T_go 5 (c1 := (48, [some (.inr (.inr (some (6, 0)))), some (.inl a1_), some (.inl a2_), some (.inl ct), some (.inl k_), some (.inl vx9_), none], [.inl k_, .inr (.inr (some (70, 0))), .inr (.inr (some (6, 0)))], S_)) rfl ?_
          refine sm_T_iald (n := 1013) rfl rfl (by omega) (by omega) ?_
          refine sm_T_cal (d1 := 1) (Q1 := vq_93 (S_.2.2.1 70 0 k_.toNat) dd_ S_) rfl rfl (by decide) (vc_93 (S_.2.2.1 70 0 k_.toNat) dd_ S_ hI_ (by exact (hF_.2.1 6 0 0 rfl).trans hd_) (by omega)) (fun u_ Sx10_ px13_ => ?_)
          obtain ⟨rfl, vx15_, rfl, px13_⟩ := px13_
          have l49_ := px13_.1
          refine sm_T_go 4 (c1 := (58, [some (.inr (.inr (some (6, 0)))), some (.inl a1_), some (.inl a2_), some (.inl ct), some (.inl k_), some (.inl vx9_), some (.inl vx15_)], [.inl vx9_, .inl a2_, .inr (.inr (some (6, 0)))], S_)) rfl ?_
          refine sm_T_cal (d1 := 0) (Q1 := vq_106 a2_ vx9_ S_) rfl rfl (by decide) (vc_106 a2_ vx9_ S_ hI_ (by omega)) (fun u_ Sx16_ px19_ => ?_)
          obtain ⟨rfl, vx21_, rfl, px19_⟩ := px19_
          have p58_ := px19_
          refine sm_T_go 1 (c1 := (62, [some (.inr (.inr (some (6, 0)))), some (.inl a1_), some (.inl a2_), some (.inl ct), some (.inl k_), some (.inl vx9_), some (.inl vx15_)], [.inl (-1), .inl vx21_], S_)) rfl ?_
          refine sm_T_br (a := 1) (z := 23) rfl (fun cx22_ => ?_) (fun cx22_ => ?_)
          · have cx22_ : vx21_ ≠ (-1) := of_decide_eq_true cx22_
            refine sm_T_go 3 (c1 := (89, [some (.inr (.inr (some (6, 0)))), some (.inl a1_), some (.inl a2_), some (.inl ct), some (.inl k_), some (.inl vx9_), some (.inl vx15_)], [.inl vx15_, .inl a2_, .inr (.inr (some (6, 0)))], S_)) rfl ?_
            refine sm_T_cal (d1 := 0) (Q1 := vq_106 a2_ vx15_ S_) rfl rfl (by decide) (vc_106 a2_ vx15_ S_ hI_ (by omega)) (fun u_ Sx23_ px26_ => ?_)
            obtain ⟨rfl, vx28_, rfl, px26_⟩ := px26_
            have p89_ := px26_
            refine sm_T_go 1 (c1 := (93, [some (.inr (.inr (some (6, 0)))), some (.inl a1_), some (.inl a2_), some (.inl ct), some (.inl k_), some (.inl vx9_), some (.inl vx15_)], [.inl (-1), .inl vx28_], S_)) rfl ?_
            refine sm_T_br (a := 1) (z := 23) rfl (fun cx29_ => ?_) (fun cx29_ => ?_)
            · have cx29_ : vx28_ ≠ (-1) := of_decide_eq_true cx29_
              refine sm_T_inc (a := 4) (z := 1) (v := k_) (w := k_ + 1) rfl rfl (by omega) (by omega) (by omega) ?_ -- pc_ 116
              refine sm_T_go 1 (c1 := (12, [some (.inr (.inr (some (6, 0)))), some (.inl a1_), some (.inl a2_), some (.inl ct), some (.inl (k_ + 1)), some (.inl vx9_), some (.inl vx15_)], [], S_)) rfl ?_
              refine sm_T_wk [some (.inr (.inr (some (6, 0)))), some (.inl a1_), some (.inl a2_), some (.inl ct), some (.inl (k_ + 1)), none, none] (by exact ⟨rfl, rfl, rfl, rfl, rfl, trivial⟩) ?_
              refine ih_.1 ct (k_ + 1) S_ hI_ hF_ ⟨?_, trivial⟩ ?_
              · omega
              · omega
            · have cx29_ : ¬ (vx28_ ≠ (-1)) := of_decide_eq_false cx29_
              refine sm_T_go 4 (c1 := (102, [some (.inr (.inr (some (6, 0)))), some (.inl a1_), some (.inl a2_), some (.inl ct), some (.inl k_), some (.inl vx9_), some (.inl vx15_)], [.inl 1013, .inl ct], S_)) rfl ?_
              refine sm_T_br (a := 3) (z := 14) rfl (fun cx30_ => ?_) (fun cx30_ => ?_)
              · have cx30_ : 1013 ≤ ct := of_decide_eq_true cx30_
                refine sm_T_inc (a := 4) (z := 1) (v := k_) (w := k_ + 1) rfl rfl (by omega) (by omega) (by omega) ?_ -- pc_ 116
                refine sm_T_go 1 (c1 := (12, [some (.inr (.inr (some (6, 0)))), some (.inl a1_), some (.inl a2_), some (.inl ct), some (.inl (k_ + 1)), some (.inl vx9_), some (.inl vx15_)], [], S_)) rfl ?_
                refine sm_T_wk [some (.inr (.inr (some (6, 0)))), some (.inl a1_), some (.inl a2_), some (.inl ct), some (.inl (k_ + 1)), none, none] (by exact ⟨rfl, rfl, rfl, rfl, rfl, trivial⟩) ?_
                refine ih_.1 ct (k_ + 1) S_ hI_ hF_ ⟨?_, trivial⟩ ?_
                · omega
                · omega
              · have cx30_ : ¬ (1013 ≤ ct) := of_decide_eq_false cx30_
                refine sm_T_go 4 (c1 := (112, [some (.inr (.inr (some (6, 0)))), some (.inl a1_), some (.inl a2_), some (.inl ct), some (.inl k_), some (.inl vx9_), some (.inl vx15_)], [.inl vx15_, .inl ct, .inr (.inr (some (70, 0)))], S_)) rfl ?_
                refine sm_T_iast (n := 1013) rfl rfl (by omega) (by omega) ?_
                have hIx31_ : gi (sm_aI S_ 70 0 ct.toNat vx15_) := gi_aI hI_ (show 0 ≤ vx15_ ∧ vx15_ ≤ 1012 from ⟨by omega, by omega⟩)
                have hFx32_ : ai_fr (sx_W vw_105) S0_ (sm_aI S_ 70 0 ct.toNat vx15_) := ai_fr_tr hF_ (ai_fr_aI rfl)
                refine sm_T_inc (a := 3) (z := 1) (v := ct) (w := ct + 1) rfl rfl (by omega) (by omega) (by omega) ?_ -- pc_ 113
                refine sm_T_inc (a := 4) (z := 1) (v := k_) (w := k_ + 1) rfl rfl (by omega) (by omega) (by omega) ?_ -- pc_ 116
                refine sm_T_go 1 (c1 := (12, [some (.inr (.inr (some (6, 0)))), some (.inl a1_), some (.inl a2_), some (.inl (ct + 1)), some (.inl (k_ + 1)), some (.inl vx9_), some (.inl vx15_)], [], sm_aI S_ 70 0 ct.toNat vx15_)) rfl ?_
                refine sm_T_wk [some (.inr (.inr (some (6, 0)))), some (.inl a1_), some (.inl a2_), some (.inl (ct + 1)), some (.inl (k_ + 1)), none, none] (by exact ⟨rfl, rfl, rfl, rfl, rfl, trivial⟩) ?_
                refine ih_.1 (ct + 1) (k_ + 1) (sm_aI S_ 70 0 ct.toNat vx15_) hIx31_ hFx32_ ⟨?_, trivial⟩ ?_
                · omega
                · omega
          · have cx22_ : ¬ (vx21_ ≠ (-1)) := of_decide_eq_false cx22_
            refine sm_T_go 4 (c1 := (71, [some (.inr (.inr (some (6, 0)))), some (.inl a1_), some (.inl a2_), some (.inl ct), some (.inl k_), some (.inl vx9_), some (.inl vx15_)], [.inl 1013, .inl ct], S_)) rfl ?_
            refine sm_T_br (a := 3) (z := 14) rfl (fun cx33_ => ?_) (fun cx33_ => ?_)
            · have cx33_ : 1013 ≤ ct := of_decide_eq_true cx33_
              refine sm_T_go 3 (c1 := (89, [some (.inr (.inr (some (6, 0)))), some (.inl a1_), some (.inl a2_), some (.inl ct), some (.inl k_), some (.inl vx9_), some (.inl vx15_)], [.inl vx15_, .inl a2_, .inr (.inr (some (6, 0)))], S_)) rfl ?_
              refine sm_T_cal (d1 := 0) (Q1 := vq_106 a2_ vx15_ S_) rfl rfl (by decide) (vc_106 a2_ vx15_ S_ hI_ (by omega)) (fun u_ Sx34_ px37_ => ?_)
              obtain ⟨rfl, vx39_, rfl, px37_⟩ := px37_
              have p89_ := px37_
              refine sm_T_go 1 (c1 := (93, [some (.inr (.inr (some (6, 0)))), some (.inl a1_), some (.inl a2_), some (.inl ct), some (.inl k_), some (.inl vx9_), some (.inl vx15_)], [.inl (-1), .inl vx39_], S_)) rfl ?_
              refine sm_T_br (a := 1) (z := 23) rfl (fun cx40_ => ?_) (fun cx40_ => ?_)
              · have cx40_ : vx39_ ≠ (-1) := of_decide_eq_true cx40_
                refine sm_T_inc (a := 4) (z := 1) (v := k_) (w := k_ + 1) rfl rfl (by omega) (by omega) (by omega) ?_ -- pc_ 116
                refine sm_T_go 1 (c1 := (12, [some (.inr (.inr (some (6, 0)))), some (.inl a1_), some (.inl a2_), some (.inl ct), some (.inl (k_ + 1)), some (.inl vx9_), some (.inl vx15_)], [], S_)) rfl ?_
                refine sm_T_wk [some (.inr (.inr (some (6, 0)))), some (.inl a1_), some (.inl a2_), some (.inl ct), some (.inl (k_ + 1)), none, none] (by exact ⟨rfl, rfl, rfl, rfl, rfl, trivial⟩) ?_
                refine ih_.1 ct (k_ + 1) S_ hI_ hF_ ⟨?_, trivial⟩ ?_
                · omega
                · omega
              · have cx40_ : ¬ (vx39_ ≠ (-1)) := of_decide_eq_false cx40_
                refine sm_T_go 4 (c1 := (102, [some (.inr (.inr (some (6, 0)))), some (.inl a1_), some (.inl a2_), some (.inl ct), some (.inl k_), some (.inl vx9_), some (.inl vx15_)], [.inl 1013, .inl ct], S_)) rfl ?_
                refine sm_T_br (a := 3) (z := 14) rfl (fun cx41_ => ?_) (fun cx41_ => ?_)
                · have cx41_ : 1013 ≤ ct := of_decide_eq_true cx41_
                  refine sm_T_inc (a := 4) (z := 1) (v := k_) (w := k_ + 1) rfl rfl (by omega) (by omega) (by omega) ?_ -- pc_ 116
                  refine sm_T_go 1 (c1 := (12, [some (.inr (.inr (some (6, 0)))), some (.inl a1_), some (.inl a2_), some (.inl ct), some (.inl (k_ + 1)), some (.inl vx9_), some (.inl vx15_)], [], S_)) rfl ?_
                  refine sm_T_wk [some (.inr (.inr (some (6, 0)))), some (.inl a1_), some (.inl a2_), some (.inl ct), some (.inl (k_ + 1)), none, none] (by exact ⟨rfl, rfl, rfl, rfl, rfl, trivial⟩) ?_
                  refine ih_.1 ct (k_ + 1) S_ hI_ hF_ ⟨?_, trivial⟩ ?_
                  · omega
                  · omega
                · have cx41_ : ¬ (1013 ≤ ct) := of_decide_eq_false cx41_
                  exfalso; omega
            · have cx33_ : ¬ (1013 ≤ ct) := of_decide_eq_false cx33_
              refine sm_T_go 4 (c1 := (81, [some (.inr (.inr (some (6, 0)))), some (.inl a1_), some (.inl a2_), some (.inl ct), some (.inl k_), some (.inl vx9_), some (.inl vx15_)], [.inl vx9_, .inl ct, .inr (.inr (some (70, 0)))], S_)) rfl ?_
              refine sm_T_iast (n := 1013) rfl rfl (by omega) (by omega) ?_
              have hIx42_ : gi (sm_aI S_ 70 0 ct.toNat vx9_) := gi_aI hI_ (show 0 ≤ vx9_ ∧ vx9_ ≤ 1012 from ⟨by omega, by omega⟩)
              have hFx43_ : ai_fr (sx_W vw_105) S0_ (sm_aI S_ 70 0 ct.toNat vx9_) := ai_fr_tr hF_ (ai_fr_aI rfl)
              refine sm_T_inc (a := 3) (z := 1) (v := ct) (w := ct + 1) rfl rfl (by omega) (by omega) (by omega) ?_ -- pc_ 82
              refine sm_T_go 3 (c1 := (89, [some (.inr (.inr (some (6, 0)))), some (.inl a1_), some (.inl a2_), some (.inl (ct + 1)), some (.inl k_), some (.inl vx9_), some (.inl vx15_)], [.inl vx15_, .inl a2_, .inr (.inr (some (6, 0)))], sm_aI S_ 70 0 ct.toNat vx9_)) rfl ?_
              refine sm_T_cal (d1 := 0) (Q1 := vq_106 a2_ vx15_ (sm_aI S_ 70 0 ct.toNat vx9_)) rfl rfl (by decide) (vc_106 a2_ vx15_ (sm_aI S_ 70 0 ct.toNat vx9_) hIx42_ (by omega)) (fun u_ Sx44_ px47_ => ?_)
              obtain ⟨rfl, vx49_, rfl, px47_⟩ := px47_
              have p89_ := px47_
              refine sm_T_go 1 (c1 := (93, [some (.inr (.inr (some (6, 0)))), some (.inl a1_), some (.inl a2_), some (.inl (ct + 1)), some (.inl k_), some (.inl vx9_), some (.inl vx15_)], [.inl (-1), .inl vx49_], sm_aI S_ 70 0 ct.toNat vx9_)) rfl ?_
              refine sm_T_br (a := 1) (z := 23) rfl (fun cx50_ => ?_) (fun cx50_ => ?_)
              · have cx50_ : vx49_ ≠ (-1) := of_decide_eq_true cx50_
                refine sm_T_inc (a := 4) (z := 1) (v := k_) (w := k_ + 1) rfl rfl (by omega) (by omega) (by omega) ?_ -- pc_ 116
                refine sm_T_go 1 (c1 := (12, [some (.inr (.inr (some (6, 0)))), some (.inl a1_), some (.inl a2_), some (.inl (ct + 1)), some (.inl (k_ + 1)), some (.inl vx9_), some (.inl vx15_)], [], sm_aI S_ 70 0 ct.toNat vx9_)) rfl ?_
                refine sm_T_wk [some (.inr (.inr (some (6, 0)))), some (.inl a1_), some (.inl a2_), some (.inl (ct + 1)), some (.inl (k_ + 1)), none, none] (by exact ⟨rfl, rfl, rfl, rfl, rfl, trivial⟩) ?_
                refine ih_.1 (ct + 1) (k_ + 1) (sm_aI S_ 70 0 ct.toNat vx9_) hIx42_ hFx43_ ⟨?_, trivial⟩ ?_
                · omega
                · omega
              · have cx50_ : ¬ (vx49_ ≠ (-1)) := of_decide_eq_false cx50_
                refine sm_T_go 4 (c1 := (102, [some (.inr (.inr (some (6, 0)))), some (.inl a1_), some (.inl a2_), some (.inl (ct + 1)), some (.inl k_), some (.inl vx9_), some (.inl vx15_)], [.inl 1013, .inl (ct + 1)], sm_aI S_ 70 0 ct.toNat vx9_)) rfl ?_
                refine sm_T_br (a := 3) (z := 14) rfl (fun cx51_ => ?_) (fun cx51_ => ?_)
                · have cx51_ : 1013 ≤ ct + 1 := of_decide_eq_true cx51_
                  refine sm_T_inc (a := 4) (z := 1) (v := k_) (w := k_ + 1) rfl rfl (by omega) (by omega) (by omega) ?_ -- pc_ 116
                  refine sm_T_go 1 (c1 := (12, [some (.inr (.inr (some (6, 0)))), some (.inl a1_), some (.inl a2_), some (.inl (ct + 1)), some (.inl (k_ + 1)), some (.inl vx9_), some (.inl vx15_)], [], sm_aI S_ 70 0 ct.toNat vx9_)) rfl ?_
                  refine sm_T_wk [some (.inr (.inr (some (6, 0)))), some (.inl a1_), some (.inl a2_), some (.inl (ct + 1)), some (.inl (k_ + 1)), none, none] (by exact ⟨rfl, rfl, rfl, rfl, rfl, trivial⟩) ?_
                  refine ih_.1 (ct + 1) (k_ + 1) (sm_aI S_ 70 0 ct.toNat vx9_) hIx42_ hFx43_ ⟨?_, trivial⟩ ?_
                  · omega
                  · omega
                · have cx51_ : ¬ (1013 ≤ ct + 1) := of_decide_eq_false cx51_
                  refine sm_T_go 4 (c1 := (112, [some (.inr (.inr (some (6, 0)))), some (.inl a1_), some (.inl a2_), some (.inl (ct + 1)), some (.inl k_), some (.inl vx9_), some (.inl vx15_)], [.inl vx15_, .inl (ct + 1), .inr (.inr (some (70, 0)))], sm_aI S_ 70 0 ct.toNat vx9_)) rfl ?_
                  refine sm_T_iast (n := 1013) rfl rfl (by omega) (by omega) ?_
                  have hIx52_ : gi (sm_aI (sm_aI S_ 70 0 ct.toNat vx9_) 70 0 (ct + 1).toNat vx15_) := gi_aI hIx42_ (show 0 ≤ vx15_ ∧ vx15_ ≤ 1012 from ⟨by omega, by omega⟩)
                  have hFx53_ : ai_fr (sx_W vw_105) S0_ (sm_aI (sm_aI S_ 70 0 ct.toNat vx9_) 70 0 (ct + 1).toNat vx15_) := ai_fr_tr hFx43_ (ai_fr_aI rfl)
                  refine sm_T_inc (a := 3) (z := 1) (v := ct + 1) (w := ct + 2) rfl rfl (by omega) (by omega) (by omega) ?_ -- pc_ 113
                  refine sm_T_inc (a := 4) (z := 1) (v := k_) (w := k_ + 1) rfl rfl (by omega) (by omega) (by omega) ?_ -- pc_ 116
                  refine sm_T_go 1 (c1 := (12, [some (.inr (.inr (some (6, 0)))), some (.inl a1_), some (.inl a2_), some (.inl (ct + 2)), some (.inl (k_ + 1)), some (.inl vx9_), some (.inl vx15_)], [], sm_aI (sm_aI S_ 70 0 ct.toNat vx9_) 70 0 (ct + 1).toNat vx15_)) rfl ?_
                  refine sm_T_wk [some (.inr (.inr (some (6, 0)))), some (.inl a1_), some (.inl a2_), some (.inl (ct + 2)), some (.inl (k_ + 1)), none, none] (by exact ⟨rfl, rfl, rfl, rfl, rfl, trivial⟩) ?_
                  refine ih_.1 (ct + 2) (k_ + 1) (sm_aI (sm_aI S_ 70 0 ct.toNat vx9_) 70 0 (ct + 1).toNat vx15_) hIx52_ hFx53_ ⟨?_, trivial⟩ ?_
                  · omega
                  · omega
    · rintro ct k_ S_ hI_ hF_ ⟨h0_, -⟩ hm_
      refine sm_T_go 2 (c1 := (128, [some (.inr (.inr (some (6, 0)))), some (.inl a1_), some (.inl a2_), some (.inl ct), some (.inl k_), none, none], [.inl 3, .inl k_], S_)) rfl ?_
      refine sm_T_br (a := 3) (z := 46) rfl (fun cx1_ => ?_) (fun cx1_ => ?_)
      · have cx1_ : 3 ≤ k_ := of_decide_eq_true cx1_
        refine sm_T_go 2 (c1 := (176, [some (.inr (.inr (some (6, 0)))), some (.inl a1_), some (.inl a2_), some (.inl ct), some (.inl k_), none, none], [.inl 1, .inl ct], S_)) rfl ?_
        refine sm_T_bin (w := ct - 1) rfl (bi_sub (by omega) (by omega) (by omega)) ?_ -- pc_ 176
        refine sm_T_go 1 (c1 := (179, [some (.inr (.inr (some (6, 0)))), some (.inl a1_), some (.inl a2_), some (.inl ct), some (.inl (ct - 1)), none, none], [], S_)) rfl ?_
        refine ih_.2.2 ct (ct - 1) S_ hI_ hF_ ⟨?_, trivial⟩ ?_
        · omega
        · omega
      · have cx1_ : ¬ (3 ≤ k_) := of_decide_eq_false cx1_
        refine sm_T_go 4 (c1 := (137, [some (.inr (.inr (some (6, 0)))), some (.inl a1_), some (.inl a2_), some (.inl ct), some (.inl k_), none, none], [.inl a2_, .inl 3, .inr (.inr (some (65, 0)))], S_)) rfl ?_
        refine sm_T_bin (w := 3 * a2_) rfl (bi_mul (by omega) (by omega) (by omega)) ?_ -- pc_ 137
        refine sm_T_go 1 (c1 := (140, [some (.inr (.inr (some (6, 0)))), some (.inl a1_), some (.inl a2_), some (.inl ct), some (.inl k_), none, none], [.inl k_, .inl (3 * a2_), .inr (.inr (some (65, 0)))], S_)) rfl ?_
        refine sm_T_bin (w := 3 * a2_ + k_) rfl (bi_add (by omega) (by omega) (by omega)) ?_ -- pc_ 140
        refine sm_T_iald (n := 3072) rfl rfl (by omega) (by omega) ?_
        have bx2_ : (-1) ≤ S_.2.2.1 65 0 (3 * a2_ + k_).toNat ∧ S_.2.2.1 65 0 (3 * a2_ + k_).toNat ≤ 1012 := hI_.2 65 0 _
        refine sm_T_go 1 (c1 := (143, [some (.inr (.inr (some (6, 0)))), some (.inl a1_), some (.inl a2_), some (.inl ct), some (.inl k_), none, none], [.inl (-1), .inl (S_.2.2.1 65 0 (3 * a2_ + k_).toNat)], S_)) rfl ?_
        refine sm_T_br (a := 0) (z := 25) rfl (fun cx3_ => ?_) (fun cx3_ => ?_)
        · have cx3_ : (S_.2.2.1 65 0 (3 * a2_ + k_).toNat) = (-1) := of_decide_eq_true cx3_
          refine sm_T_inc (a := 4) (z := 1) (v := k_) (w := k_ + 1) rfl rfl (by omega) (by omega) (by omega) ?_ -- pc_ 168
          refine sm_T_go 1 (c1 := (125, [some (.inr (.inr (some (6, 0)))), some (.inl a1_), some (.inl a2_), some (.inl ct), some (.inl (k_ + 1)), none, none], [], S_)) rfl ?_
          refine ih_.2.1 ct (k_ + 1) S_ hI_ hF_ ⟨?_, trivial⟩ ?_
          · omega
          · omega
        · have cx3_ : ¬ ((S_.2.2.1 65 0 (3 * a2_ + k_).toNat) = (-1)) := of_decide_eq_false cx3_
          have vt9_ := vt3 (k_ := k_) (by omega)
          refine sm_T_go 6 (c1 := (156, [some (.inr (.inr (some (6, 0)))), some (.inl a1_), some (.inl a2_), some (.inl ct), some (.inl k_), none, none], [.inl a2_, .inl 3, .inr (.inr (some (65, 0))), .inr (.inr (some (71, 0)))], S_)) rfl ?_
          refine sm_T_bin (w := 3 * a2_) rfl (bi_mul (by omega) (by omega) (by omega)) ?_ -- pc_ 156
          refine sm_T_go 1 (c1 := (159, [some (.inr (.inr (some (6, 0)))), some (.inl a1_), some (.inl a2_), some (.inl ct), some (.inl k_), none, none], [.inl k_, .inl (3 * a2_), .inr (.inr (some (65, 0))), .inr (.inr (some (71, 0)))], S_)) rfl ?_
          refine sm_T_bin (w := 3 * a2_ + k_) rfl (bi_add (by omega) (by omega) (by omega)) ?_ -- pc_ 159
          refine sm_T_iald (n := 3072) rfl rfl (by omega) (by omega) ?_
          refine sm_T_nt (u := some (.inr (.inr (some (299, 0))))) (S1 := S_) rfl rfl rfl ?_
          refine sm_T_go 1 (c1 := (166, [some (.inr (.inr (some (6, 0)))), some (.inl a1_), some (.inl a2_), some (.inl ct), some (.inl k_), none, none], [.inl k_, .inr (.inr (some (299, 0))), .inl (S_.2.2.1 65 0 (3 * a2_ + k_).toNat), .inr (.inr (some (71, 0)))], S_)) rfl ?_
          refine sm_T_nt (u := some (.inl (st_at 3 k_))) (S1 := S_) rfl rfl (nt_st (sc := sc_) (j := 3) (n := 3) (by decide) rfl rfl (by omega) (by omega)) ?_
          refine sm_T_iast (n := 1013) rfl rfl (by omega) (by omega) ?_
          have hIx4_ : gi (sm_aI S_ 71 0 (S_.2.2.1 65 0 (3 * a2_ + k_).toNat).toNat (st_at 3 k_)) := gi_aI hI_ (show (-2147483648) ≤ (st_at 3 k_) ∧ (st_at 3 k_) ≤ 2147483647 from ⟨by omega, by omega⟩)
          have hFx5_ : ai_fr (sx_W vw_105) S0_ (sm_aI S_ 71 0 (S_.2.2.1 65 0 (3 * a2_ + k_).toNat).toNat (st_at 3 k_)) := ai_fr_tr hF_ (ai_fr_aI rfl)
          refine sm_T_inc (a := 4) (z := 1) (v := k_) (w := k_ + 1) rfl rfl (by omega) (by omega) (by omega) ?_ -- pc_ 168
          refine sm_T_go 1 (c1 := (125, [some (.inr (.inr (some (6, 0)))), some (.inl a1_), some (.inl a2_), some (.inl ct), some (.inl (k_ + 1)), none, none], [], sm_aI S_ 71 0 (S_.2.2.1 65 0 (3 * a2_ + k_).toNat).toNat (st_at 3 k_))) rfl ?_
          refine ih_.2.1 ct (k_ + 1) (sm_aI S_ 71 0 (S_.2.2.1 65 0 (3 * a2_ + k_).toNat).toNat (st_at 3 k_)) hIx4_ hFx5_ ⟨?_, trivial⟩ ?_
          · omega
          · omega
    · rintro ct k_ S_ hI_ hF_ ⟨h0_, -⟩ hm_
      refine sm_T_go 1 (c1 := (181, [some (.inr (.inr (some (6, 0)))), some (.inl a1_), some (.inl a2_), some (.inl ct), some (.inl k_), none, none], [.inl k_], S_)) rfl ?_
      refine sm_T_b0 (a := 2) (z := 100) rfl (fun cx1_ => ?_) (fun cx1_ => ?_)
      · have cx1_ : k_ < 0 := of_decide_eq_true cx1_
        refine sm_T_go 3 (c1 := (286, [some (.inr (.inr (some (6, 0)))), some (.inl a1_), some (.inl a2_), some (.inl ct), some (.inl k_), none, none], [.inl a1_, .inr (.inr (some (71, 0)))], S_)) rfl ?_
        refine sm_T_iald (n := 1013) rfl rfl (by omega) (by omega) ?_
        have bx2_ : (-2147483648) ≤ S_.2.2.1 71 0 a1_.toNat ∧ S_.2.2.1 71 0 a1_.toNat ≤ 2147483647 := hI_.2 71 0 _
        refine sm_T_go 4 (c1 := (293, [some (.inr (.inr (some (6, 0)))), some (.inl a1_), some (.inl a2_), some (.inl ct), some (.inl k_), none, none], [.inl a2_, .inl 3, .inr (.inr (some (65, 0))), .inl (S_.2.2.1 71 0 a1_.toNat)], S_)) rfl ?_
        refine sm_T_bin (w := 3 * a2_) rfl (bi_mul (by omega) (by omega) (by omega)) ?_ -- pc_ 293
        refine sm_T_go 1 (c1 := (295, [some (.inr (.inr (some (6, 0)))), some (.inl a1_), some (.inl a2_), some (.inl ct), some (.inl k_), none, none], [.inl 2, .inl (3 * a2_), .inr (.inr (some (65, 0))), .inl (S_.2.2.1 71 0 a1_.toNat)], S_)) rfl ?_
        refine sm_T_bin (w := 3 * a2_ + 2) rfl (bi_add (by omega) (by omega) (by omega)) ?_ -- pc_ 295
        refine sm_T_iald (n := 3072) rfl rfl (by omega) (by omega) ?_
        have bx3_ : (-1) ≤ S_.2.2.1 65 0 (3 * a2_ + 2).toNat ∧ S_.2.2.1 65 0 (3 * a2_ + 2).toNat ≤ 1012 := hI_.2 65 0 _
        refine sm_T_go 1 (c1 := (298, [some (.inr (.inr (some (6, 0)))), some (.inl a1_), some (.inl a2_), some (.inl ct), some (.inl k_), none, none], [.inl (-1), .inl (S_.2.2.1 65 0 (3 * a2_ + 2).toNat), .inl (S_.2.2.1 71 0 a1_.toNat)], S_)) rfl ?_
        refine sm_T_br (a := 1) (z := 8) rfl (fun cx4_ => ?_) (fun cx4_ => ?_)
        · have cx4_ : (S_.2.2.1 65 0 (3 * a2_ + 2).toNat) ≠ (-1) := of_decide_eq_true cx4_
          refine sm_T_go 1 (c1 := (309, [some (.inr (.inr (some (6, 0)))), some (.inl a1_), some (.inl a2_), some (.inl ct), some (.inl k_), none, none], [.inl 255, .inl (S_.2.2.1 71 0 a1_.toNat)], S_)) rfl ?_
          refine sm_T_bin (w := ((S_.2.2.1 71 0 a1_.toNat) % 256)) rfl (bi_msk (k := 8) (by decide)) ?_ -- pc_ 309
          refine sm_T_ri rfl ⟨_, _, rfl, _, rfl, hI_, hF_, ?_⟩
          omega
        · have cx4_ : ¬ ((S_.2.2.1 65 0 (3 * a2_ + 2).toNat) ≠ (-1)) := of_decide_eq_false cx4_
          refine sm_T_go 2 (c1 := (309, [some (.inr (.inr (some (6, 0)))), some (.inl a1_), some (.inl a2_), some (.inl ct), some (.inl k_), none, none], [.inl 15, .inl (S_.2.2.1 71 0 a1_.toNat)], S_)) rfl ?_
          refine sm_T_bin (w := ((S_.2.2.1 71 0 a1_.toNat) % 16)) rfl (bi_msk (k := 4) (by decide)) ?_ -- pc_ 309
          refine sm_T_ri rfl ⟨_, _, rfl, _, rfl, hI_, hF_, ?_⟩
          omega
      · have cx1_ : ¬ (k_ < 0) := of_decide_eq_false cx1_
        refine sm_T_go 1 (c1 := (185, [some (.inr (.inr (some (6, 0)))), some (.inl a1_), some (.inl a2_), some (.inl ct), some (.inl k_), none, none], [.inr (.inr (some (6, 0)))], S_)) rfl ?_
        refine sm_T_gr rfl rfl ((hF_.2.1 6 0 0 rfl).trans hd_) ?_
        refine sm_T_go 1 (c1 := (189, [some (.inr (.inr (some (6, 0)))), some (.inl a1_), some (.inl a2_), some (.inl ct), some (.inl k_), none, none], [.inr (.inr (some (6, 0))), .inr (.inr (some (3, dd_)))], S_)) rfl ?_
        refine sm_T_gr rfl rfl ((hF_.2.1 6 0 0 rfl).trans hd_) ?_
        refine sm_T_go 4 (c1 := (201, [some (.inr (.inr (some (6, 0)))), some (.inl a1_), some (.inl a2_), some (.inl ct), some (.inl k_), none, none], [.inl k_, .inr (.inr (some (70, 0))), .inr (.inr (some (42, (0 + dd_)))), .inr (.inr (some (3, dd_)))], S_)) rfl ?_
        refine sm_T_iald (n := 1013) rfl rfl (by omega) (by omega) ?_
        have bx5_ : 0 ≤ S_.2.2.1 70 0 k_.toNat ∧ S_.2.2.1 70 0 k_.toNat ≤ 1012 := hI_.2 70 0 _
        refine sm_T_iald (n := 1013) rfl rfl (by omega) (by omega) ?_
        have bx6_ : 0 ≤ S_.2.2.1 42 (0 + dd_) (S_.2.2.1 70 0 k_.toNat).toNat ∧ S_.2.2.1 42 (0 + dd_) (S_.2.2.1 70 0 k_.toNat).toNat ≤ 2025 := hI_.2 42 (0 + dd_) _
        refine sm_T_cal (d1 := 0) (Q1 := vq_64 (S_.2.2.1 42 (0 + dd_) (S_.2.2.1 70 0 k_.toNat).toNat) dd_ S_) rfl rfl (by decide) (vc_64 (S_.2.2.1 42 (0 + dd_) (S_.2.2.1 70 0 k_.toNat).toNat) dd_ S_ hI_ (by omega)) (fun u_ Sx7_ px10_ => ?_)
        obtain ⟨rfl, vx12_, rfl, px10_⟩ := px10_
        have x203_ : 0 ≤ vx12_ ∧ vx12_ ≤ 2025 := by (rw [px10_]; exact swx (hI_.2 44 (0 + dd_) _) (by omega))
        refine sm_T_go 2 (c1 := (209, [some (.inr (.inr (some (6, 0)))), some (.inl a1_), some (.inl a2_), some (.inl ct), some (.inl k_), some (.inl vx12_), none], [.inr (.inr (some (6, 0)))], S_)) rfl ?_
        refine sm_T_gr rfl rfl ((hF_.2.1 6 0 0 rfl).trans hd_) ?_
        refine sm_T_go 1 (c1 := (213, [some (.inr (.inr (some (6, 0)))), some (.inl a1_), some (.inl a2_), some (.inl ct), some (.inl k_), some (.inl vx12_), none], [.inr (.inr (some (6, 0))), .inr (.inr (some (3, dd_)))], S_)) rfl ?_
        refine sm_T_gr rfl rfl ((hF_.2.1 6 0 0 rfl).trans hd_) ?_
        refine sm_T_go 4 (c1 := (225, [some (.inr (.inr (some (6, 0)))), some (.inl a1_), some (.inl a2_), some (.inl ct), some (.inl k_), some (.inl vx12_), none], [.inl k_, .inr (.inr (some (70, 0))), .inr (.inr (some (43, (0 + dd_)))), .inr (.inr (some (3, dd_)))], S_)) rfl ?_
        refine sm_T_iald (n := 1013) rfl rfl (by omega) (by omega) ?_
        refine sm_T_iald (n := 1013) rfl rfl (by omega) (by omega) ?_
        have bx13_ : 0 ≤ S_.2.2.1 43 (0 + dd_) (S_.2.2.1 70 0 k_.toNat).toNat ∧ S_.2.2.1 43 (0 + dd_) (S_.2.2.1 70 0 k_.toNat).toNat ≤ 2025 := hI_.2 43 (0 + dd_) _
        refine sm_T_cal (d1 := 0) (Q1 := vq_64 (S_.2.2.1 43 (0 + dd_) (S_.2.2.1 70 0 k_.toNat).toNat) dd_ S_) rfl rfl (by decide) (vc_64 (S_.2.2.1 43 (0 + dd_) (S_.2.2.1 70 0 k_.toNat).toNat) dd_ S_ hI_ (by omega)) (fun u_ Sx14_ px17_ => ?_)
        obtain ⟨rfl, vx19_, rfl, px17_⟩ := px17_
        have x227_ : 0 ≤ vx19_ ∧ vx19_ ≤ 2025 := by (rw [px17_]; exact swx (hI_.2 44 (0 + dd_) _) (by omega))
        refine sm_T_go 6 (c1 := (242, [some (.inr (.inr (some (6, 0)))), some (.inl a1_), some (.inl a2_), some (.inl ct), some (.inl k_), some (.inl vx12_), some (.inl vx19_)], [.inl k_, .inr (.inr (some (70, 0))), .inr (.inr (some (71, 0)))], S_)) rfl ?_
        refine sm_T_iald (n := 1013) rfl rfl (by omega) (by omega) ?_
        refine sm_T_go 4 (c1 := (250, [some (.inr (.inr (some (6, 0)))), some (.inl a1_), some (.inl a2_), some (.inl ct), some (.inl k_), some (.inl vx12_), some (.inl vx19_)], [.inl 1, .inl vx12_, .inr (.inr (some (71, 0))), .inl (S_.2.2.1 70 0 k_.toNat), .inr (.inr (some (71, 0)))], S_)) rfl ?_
        refine sm_T_bin (w := (vx12_ / 2)) rfl (bi_shr (k := 1) (by decide) (by omega) (by omega)) ?_ -- pc_ 250
        refine sm_T_iald (n := 1013) rfl rfl (by omega) (by omega) ?_
        have bx20_ : (-2147483648) ≤ S_.2.2.1 71 0 (vx12_ / 2).toNat ∧ S_.2.2.1 71 0 (vx12_ / 2).toNat ≤ 2147483647 := hI_.2 71 0 _
        refine sm_T_go 2 (c1 := (255, [some (.inr (.inr (some (6, 0)))), some (.inl a1_), some (.inl a2_), some (.inl ct), some (.inl k_), some (.inl vx12_), some (.inl vx19_)], [.inl 1, .inl vx12_, .inl (S_.2.2.1 71 0 (vx12_ / 2).toNat), .inl (S_.2.2.1 70 0 k_.toNat), .inr (.inr (some (71, 0)))], S_)) rfl ?_
        refine sm_T_bin (w := (vx12_ % 2)) rfl (bi_msk (k := 1) (by decide)) ?_ -- pc_ 255
        refine sm_T_neg (w := -(vx12_ % 2)) rfl (by omega) (by omega) (by omega) ?_ -- pc_ 256
        refine sm_T_bin (w := (i_xor (S_.2.2.1 71 0 (vx12_ / 2).toNat) (-(vx12_ % 2)))) rfl rfl ?_ -- pc_ 257
        have bx21_ := i_xor_n (S_.2.2.1 71 0 (vx12_ / 2).toNat) (-(vx12_ % 2))
        refine sm_T_go 4 (c1 := (265, [some (.inr (.inr (some (6, 0)))), some (.inl a1_), some (.inl a2_), some (.inl ct), some (.inl k_), some (.inl vx12_), some (.inl vx19_)], [.inl 1, .inl vx19_, .inr (.inr (some (71, 0))), .inl (i_xor (S_.2.2.1 71 0 (vx12_ / 2).toNat) (-(vx12_ % 2))), .inl (S_.2.2.1 70 0 k_.toNat), .inr (.inr (some (71, 0)))], S_)) rfl ?_
        refine sm_T_bin (w := (vx19_ / 2)) rfl (bi_shr (k := 1) (by decide) (by omega) (by omega)) ?_ -- pc_ 265
        refine sm_T_iald (n := 1013) rfl rfl (by omega) (by omega) ?_
        have bx22_ : (-2147483648) ≤ S_.2.2.1 71 0 (vx19_ / 2).toNat ∧ S_.2.2.1 71 0 (vx19_ / 2).toNat ≤ 2147483647 := hI_.2 71 0 _
        refine sm_T_go 2 (c1 := (270, [some (.inr (.inr (some (6, 0)))), some (.inl a1_), some (.inl a2_), some (.inl ct), some (.inl k_), some (.inl vx12_), some (.inl vx19_)], [.inl 1, .inl vx19_, .inl (S_.2.2.1 71 0 (vx19_ / 2).toNat), .inl (i_xor (S_.2.2.1 71 0 (vx12_ / 2).toNat) (-(vx12_ % 2))), .inl (S_.2.2.1 70 0 k_.toNat), .inr (.inr (some (71, 0)))], S_)) rfl ?_
        refine sm_T_bin (w := (vx19_ % 2)) rfl (bi_msk (k := 1) (by decide)) ?_ -- pc_ 270
        refine sm_T_neg (w := -(vx19_ % 2)) rfl (by omega) (by omega) (by omega) ?_ -- pc_ 271
        refine sm_T_bin (w := (i_xor (S_.2.2.1 71 0 (vx19_ / 2).toNat) (-(vx19_ % 2)))) rfl rfl ?_ -- pc_ 272
        have bx23_ := i_xor_n (S_.2.2.1 71 0 (vx19_ / 2).toNat) (-(vx19_ % 2))
        refine sm_T_bin (w := (i_and (i_xor (S_.2.2.1 71 0 (vx12_ / 2).toNat) (-(vx12_ % 2))) (i_xor (S_.2.2.1 71 0 (vx19_ / 2).toNat) (-(vx19_ % 2))))) rfl rfl ?_ -- pc_ 273
        have bx24_ := i_and_n (i_xor (S_.2.2.1 71 0 (vx12_ / 2).toNat) (-(vx12_ % 2))) (i_xor (S_.2.2.1 71 0 (vx19_ / 2).toNat) (-(vx19_ % 2)))
        refine sm_T_iast (n := 1013) rfl rfl (by omega) (by omega) ?_
        have hIx25_ : gi (sm_aI S_ 71 0 (S_.2.2.1 70 0 k_.toNat).toNat (i_and (i_xor (S_.2.2.1 71 0 (vx12_ / 2).toNat) (-(vx12_ % 2))) (i_xor (S_.2.2.1 71 0 (vx19_ / 2).toNat) (-(vx19_ % 2))))) := gi_aI hI_ (show (-2147483648) ≤ (i_and (i_xor (S_.2.2.1 71 0 (vx12_ / 2).toNat) (-(vx12_ % 2))) (i_xor (S_.2.2.1 71 0 (vx19_ / 2).toNat) (-(vx19_ % 2)))) ∧ (i_and (i_xor (S_.2.2.1 71 0 (vx12_ / 2).toNat) (-(vx12_ % 2))) (i_xor (S_.2.2.1 71 0 (vx19_ / 2).toNat) (-(vx19_ % 2)))) ≤ 2147483647 from ⟨by omega, by omega⟩)
        have hFx26_ : ai_fr (sx_W vw_105) S0_ (sm_aI S_ 71 0 (S_.2.2.1 70 0 k_.toNat).toNat (i_and (i_xor (S_.2.2.1 71 0 (vx12_ / 2).toNat) (-(vx12_ % 2))) (i_xor (S_.2.2.1 71 0 (vx19_ / 2).toNat) (-(vx19_ % 2))))) := ai_fr_tr hF_ (ai_fr_aI rfl)
        refine sm_T_inc (a := 4) (z := (-1)) (v := k_) (w := k_ - 1) rfl rfl (by omega) (by omega) (by omega) ?_ -- pc_ 275
        refine sm_T_go 1 (c1 := (179, [some (.inr (.inr (some (6, 0)))), some (.inl a1_), some (.inl a2_), some (.inl ct), some (.inl (k_ - 1)), some (.inl vx12_), some (.inl vx19_)], [], sm_aI S_ 71 0 (S_.2.2.1 70 0 k_.toNat).toNat (i_and (i_xor (S_.2.2.1 71 0 (vx12_ / 2).toNat) (-(vx12_ % 2))) (i_xor (S_.2.2.1 71 0 (vx19_ / 2).toNat) (-(vx19_ % 2)))))) rfl ?_
        refine sm_T_wk [some (.inr (.inr (some (6, 0)))), some (.inl a1_), some (.inl a2_), some (.inl ct), some (.inl (k_ - 1)), none, none] (by exact ⟨rfl, rfl, rfl, rfl, rfl, trivial⟩) ?_
        refine ih_.2.2 ct (k_ - 1) (sm_aI S_ 71 0 (S_.2.2.1 70 0 k_.toNat).toNat (i_and (i_xor (S_.2.2.1 71 0 (vx12_ / 2).toNat) (-(vx12_ % 2))) (i_xor (S_.2.2.1 71 0 (vx19_ / 2).toNat) (-(vx19_ % 2))))) hIx25_ hFx26_ ⟨?_, trivial⟩ ?_
        · omega
        · omega
set_option maxHeartbeats 400000 in
set_option maxRecDepth 20000 in
theorem vc_105 {sc_ : Nat × (Nat → Int)} (a1_ : Int) (a2_ : Int) (dd_ : Nat) (S0_ : sm_S) (hI_ : gi S0_) (hd_ : S0_.2.1 6 0 0 = some dd_) (h1_ : 0 ≤ a1_ ∧ a1_ ≤ 1012) (h2_ : 0 ≤ a2_ ∧ a2_ ≤ 1023) : sm_T (mt_P sc_) 2 105 (0, [some (.inr (.inr (some (6, 0)))), some (.inl a1_), some (.inl a2_), none, none, none, none], [], S0_) (fun ro9_ => ∃ u_ S1_, ro9_ = (.inl u_, S1_, 0) ∧ vq_105 a1_ a2_ dd_ S0_ u_ S1_) := by
  have hF_ : ai_fr (sx_W vw_105) S0_ S0_ := ai_fr_rf
  refine sm_T_go 4 (c1 := (6, [some (.inr (.inr (some (6, 0)))), some (.inl a1_), some (.inl a2_), none, none, none, none], [.inl a1_, .inl 0, .inr (.inr (some (70, 0)))], S0_)) rfl ?_
  refine sm_T_iast (n := 1013) rfl rfl (by omega) (by omega) ?_
  have hIx1_ : gi (sm_aI S0_ 70 0 (0 : Int).toNat a1_) := gi_aI hI_ (show 0 ≤ a1_ ∧ a1_ ≤ 1012 from ⟨by omega, by omega⟩)
  have hFx2_ : ai_fr (sx_W vw_105) S0_ (sm_aI S0_ 70 0 (0 : Int).toNat a1_) := ai_fr_tr hF_ (ai_fr_aI rfl)
  refine sm_T_go 4 (c1 := (12, [some (.inr (.inr (some (6, 0)))), some (.inl a1_), some (.inl a2_), some (.inl 1), some (.inl 0), none, none], [], sm_aI S0_ 70 0 (0 : Int).toNat a1_)) rfl ?_
  refine (vl_105 a1_ a2_ dd_ S0_ hd_ h1_ h2_ _).1 1 0 (sm_aI S0_ 70 0 (0 : Int).toNat a1_) hIx1_ hFx2_ ⟨?_, trivial⟩ (Nat.lt_succ_self _)
  · omega
