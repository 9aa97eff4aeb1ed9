/-! test; written by wip/p55/gen/vg -/
/-! M.reach -/
def vw_361 : sx_Wl := ([], [176], [])
def vq_361 (d : Int) (S0 : sm_S) (u : Option sm_V) (S1 : sm_S) : Prop := ∃ v : Int, u = some (.inl v) ∧ gi S1 ∧ ai_fr (sx_W vw_361) S0 S1 ∧ (1 ≤ v ∧ v ≤ 64)
theorem vl_361 {sc : Nat × (Nat → Int)} (d : Int) (S0 : sm_S) (hd : 0 ≤ d ∧ d < 6) (hb : (S0.2.2.1 154 0 (d.toNat)) + (S0.2.2.1 155 0 (d.toNat)) ≤ 12) : ∀ n : Nat, (∀ (s : Int) (S : sm_S), gi S → ai_fr (sx_W vw_361) S0 S → ((0 ≤ s ∧ s ≤ 64) ∧ (∀ k : Nat, (k : Int) < s → (S.2.2.1 176 0 (k)) = if (k : Int) = (S.2.2.1 157 0 (d.toNat)) then 1 else 0) ∧ True) → (400000 + (64 - s).toNat) < n → sm_T (mt_P sc) 0 361 (2, [some (.inr (.inr (some (13, 0)))), some (.inl d), some (.inl s), none, none, none], [], S) (fun r => ∃ u S1, r = (.inl u, S1, 0) ∧ vq_361 d S0 u S1)) ∧ (∀ (many : Int) (had : Int) (S : sm_S), gi S → ai_fr (sx_W vw_361) S0 S → ((0 ≤ had ∧ had ≤ many ∧ 1 ≤ many) ∧ (many = cn1 (fun k => (S.2.2.1 176 0 (k))) 64) ∧ True) → (((65 - had) * 5000).toNat) < n → sm_T (mt_P sc) 0 361 (39, [some (.inr (.inr (some (13, 0)))), some (.inl d), some (.inl many), some (.inl had), none, none], [], S) (fun r => ∃ u S1, r = (.inl u, S1, 0) ∧ vq_361 d S0 u S1)) ∧ (∀ (many : Int) (had : Int) (p : Int) (S : sm_S), gi S → ai_fr (sx_W vw_361) S0 S → ((1 ≤ had ∧ had ≤ many ∧ 0 ≤ p ∧ p ≤ 4096) ∧ (many = cn1 (fun k => (S.2.2.1 176 0 (k))) 64) ∧ True) → (((65 - had) * 5000 + (4097 - p)).toNat) < n → sm_T (mt_P sc) 0 361 (49, [some (.inr (.inr (some (13, 0)))), some (.inl d), some (.inl many), some (.inl had), some (.inl p), none], [], S) (fun r => ∃ u S1, r = (.inl u, S1, 0) ∧ vq_361 d S0 u S1)) := by
  intro n
  induction n with
  | zero => exact ⟨fun _ _ _ _ _ h => absurd h (Nat.not_lt_zero _), fun _ _ _ _ _ _ h => absurd h (Nat.not_lt_zero _), fun _ _ _ _ _ _ _ h => absurd h (Nat.not_lt_zero _)⟩
  | succ n ih =>
    refine ⟨?_, ?_, ?_⟩
    · rintro s S hI hF ⟨h1, h2, -⟩ hm
      refine sm_T_go 2 (c1 := (5, [some (.inr (.inr (some (13, 0)))), some (.inl d), some (.inl s), none, none, none], [.inl 64, .inl s], S)) rfl ?_
      refine sm_T_br (a := 3) (z := 30) rfl (fun c1 => ?_) (fun c1 => ?_)
      · have c1 : 64 ≤ s := of_decide_eq_true c1
        refine sm_T_go 4 (c1 := (39, [some (.inr (.inr (some (13, 0)))), some (.inl d), some (.inl 1), some (.inl 0), none, none], [], S)) rfl ?_
        refine ih.2.1 1 0 S hI hF ⟨?_, ?_, trivial⟩ ?_
        · omega
        · have e := cn1_one (f := fun k : Nat => if (k : Int) = S.2.2.1 157 0 d.toNat then 1 else 0) (j := (S.2.2.1 157 0 d.toNat).toNat) (by intro k; have := hI.2 157 0 d.toNat; have a1 : 0 ≤ S.2.2.1 157 0 d.toNat := this.1; constructor <;> intro h <;> first | (split at h <;> omega) | (rw [if_pos (by omega)])) 64
          have b9 : 0 ≤ S.2.2.1 157 0 d.toNat ∧ S.2.2.1 157 0 d.toNat ≤ 63 := hI.2 157 0 _
          rw [if_pos (by omega)] at e
          rw [cn1_cg (fun k hk => h2 k (by omega)), e]
          rfl
        · omega
      · have c1 : ¬ (64 ≤ s) := of_decide_eq_false c1
        refine sm_T_go 7 (c1 := (19, [some (.inr (.inr (some (13, 0)))), some (.inl d), some (.inl s), none, none, none], [.inl d, .inr (.inr (some (157, 0))), .inl s, .inl s, .inr (.inr (some (176, 0)))], S)) rfl ?_
        refine sm_T_iald (n := 6) rfl rfl (by omega) (by omega) ?_
        have b2 : 0 ≤ S.2.2.1 157 0 d.toNat ∧ S.2.2.1 157 0 d.toNat ≤ 63 := hI.2 157 0 _
        refine sm_T_br (a := 1) (z := 7) rfl (fun c3 => ?_) (fun c3 => ?_)
        · have c3 : s ≠ (S.2.2.1 157 0 d.toNat) := of_decide_eq_true c3
          refine sm_T_go 1 (c1 := (28, [some (.inr (.inr (some (13, 0)))), some (.inl d), some (.inl s), none, none, none], [.inl 0, .inl s, .inr (.inr (some (176, 0)))], S)) rfl ?_
          refine sm_T_zas1 (n := 64) rfl rfl (by omega) (by omega) (by omega) ?_
          have hI4 : gi (sm_aI S 176 0 s.toNat 0) := gi_aI hI (show 0 ≤ 0 ∧ 0 ≤ 1 from ⟨by omega, by omega⟩)
          have hF5 : ai_fr (sx_W vw_361) S0 (sm_aI S 176 0 s.toNat 0) := ai_fr_tr hF (ai_fr_aI rfl)
          refine sm_T_inc (a := 2) (z := 1) (v := s) (w := s + 1) rfl rfl (by omega) (by omega) (by omega) ?_
          refine sm_T_go 1 (c1 := (2, [some (.inr (.inr (some (13, 0)))), some (.inl d), some (.inl (s + 1)), none, none, none], [], sm_aI S 176 0 s.toNat 0)) rfl ?_
          refine ih.1 (s + 1) (sm_aI S 176 0 s.toNat 0) hI4 hF5 ⟨?_, ?_, trivial⟩ ?_
          · omega
          · intro k hk
            simp only [rd_eq, rd_ne, rf_eq, rf_nk, rf_nt, rd_fa, rd_af, rd_fl, rd_al, rd_lf, rd_la, rd_fr, rd_ar, ne_eq, Nat.reduceEqDiff, not_false_eq_true]
            grind
          · omega
        · have c3 : ¬ (s ≠ (S.2.2.1 157 0 d.toNat)) := of_decide_eq_false c3
          refine sm_T_go 2 (c1 := (28, [some (.inr (.inr (some (13, 0)))), some (.inl d), some (.inl s), none, none, none], [.inl 1, .inl s, .inr (.inr (some (176, 0)))], S)) rfl ?_
          refine sm_T_zas1 (n := 64) rfl rfl (by omega) (by omega) (by omega) ?_
          have hI6 : gi (sm_aI S 176 0 s.toNat 1) := gi_aI hI (show 0 ≤ 1 ∧ 1 ≤ 1 from ⟨by omega, by omega⟩)
          have hF7 : ai_fr (sx_W vw_361) S0 (sm_aI S 176 0 s.toNat 1) := ai_fr_tr hF (ai_fr_aI rfl)
          refine sm_T_inc (a := 2) (z := 1) (v := s) (w := s + 1) rfl rfl (by omega) (by omega) (by omega) ?_
          refine sm_T_go 1 (c1 := (2, [some (.inr (.inr (some (13, 0)))), some (.inl d), some (.inl (s + 1)), none, none, none], [], sm_aI S 176 0 s.toNat 1)) rfl ?_
          refine ih.1 (s + 1) (sm_aI S 176 0 s.toNat 1) hI6 hF7 ⟨?_, ?_, trivial⟩ ?_
          · omega
          · intro k hk
            simp only [rd_eq, rd_ne, rf_eq, rf_nk, rf_nt, rd_fa, rd_af, rd_fl, rd_al, rd_lf, rd_la, rd_fr, rd_ar, ne_eq, Nat.reduceEqDiff, not_false_eq_true]
            grind
          · omega
    · rintro many had S hI hF ⟨h1, h2, -⟩ hm
      have hc := cn1_le (fun k => (S.2.2.1 176 0 (k))) 64
      refine sm_T_go 2 (c1 := (41, [some (.inr (.inr (some (13, 0)))), some (.inl d), some (.inl many), some (.inl had), none, none], [.inl had, .inl many], S)) rfl ?_
      refine sm_T_br (a := 0) (z := 90) rfl (fun c1 => ?_) (fun c1 => ?_)
      · have c1 : many = had := of_decide_eq_true c1
        refine sm_T_go 1 (c1 := (132, [some (.inr (.inr (some (13, 0)))), some (.inl d), some (.inl many), some (.inl had), none, none], [.inl many], S)) rfl ?_
        refine sm_T_ri rfl ⟨_, _, rfl, _, rfl, hI, hF, ?_⟩
        omega
      · have c1 : ¬ (many = had) := of_decide_eq_false c1
        refine sm_T_go 4 (c1 := (49, [some (.inr (.inr (some (13, 0)))), some (.inl d), some (.inl many), some (.inl many), some (.inl 0), none], [], S)) rfl ?_
        refine ih.2.2 many many 0 S hI hF ⟨?_, ?_, trivial⟩ ?_
        · omega
        · omega
        · omega
    · rintro many had p S hI hF ⟨h1, h2, -⟩ hm
      have hc := cn1_le (fun k => (S.2.2.1 176 0 (k))) 64
      have e1 := (hF.2.2 154 rfl 0 d.toNat).1
      have e2 := (hF.2.2 155 rfl 0 d.toNat).1
      refine sm_T_go 5 (c1 := (57, [some (.inr (.inr (some (13, 0)))), some (.inl d), some (.inl many), some (.inl had), some (.inl p), none], [.inl d, .inr (.inr (some (154, 0))), .inl 1, .inl p], S)) rfl ?_
      refine sm_T_iald (n := 6) rfl rfl (by omega) (by omega) ?_
      have b1 : 0 ≤ S.2.2.1 154 0 d.toNat ∧ S.2.2.1 154 0 d.toNat ≤ 12 := hI.2 154 0 _
      refine sm_T_go 3 (c1 := (63, [some (.inr (.inr (some (13, 0)))), some (.inl d), some (.inl many), some (.inl had), some (.inl p), none], [.inl d, .inr (.inr (some (155, 0))), .inl (S.2.2.1 154 0 d.toNat), .inl 1, .inl p], S)) rfl ?_
      refine sm_T_iald (n := 6) rfl rfl (by omega) (by omega) ?_
      have b2 : 0 ≤ S.2.2.1 155 0 d.toNat ∧ S.2.2.1 155 0 d.toNat ≤ 6 := hI.2 155 0 _
      refine sm_T_bin (w := (S.2.2.1 154 0 d.toNat) + (S.2.2.1 155 0 d.toNat)) rfl (bi_add (by omega) (by omega) (by omega)) ?_
      refine sm_T_bin (w := (i_shl 1 ((S.2.2.1 154 0 d.toNat) + (S.2.2.1 155 0 d.toNat)))) rfl rfl ?_
      have b3 := i_shl1 (e := ((S.2.2.1 154 0 d.toNat) + (S.2.2.1 155 0 d.toNat))) (by omega) (by omega)
      have hp := pw_le (n := (((S.2.2.1 154 0 d.toNat) + (S.2.2.1 155 0 d.toNat))).toNat) (m := 12) (by omega)
      have hp0 := pw_pos (((S.2.2.1 154 0 d.toNat) + (S.2.2.1 155 0 d.toNat))).toNat
      refine sm_T_br (a := 3) (z := 62) rfl (fun c6 => ?_) (fun c6 => ?_)
      · have c6 : (i_shl 1 ((S.2.2.1 154 0 d.toNat) + (S.2.2.1 155 0 d.toNat))) ≤ p := of_decide_eq_true c6
        refine sm_T_go 1 (c1 := (39, [some (.inr (.inr (some (13, 0)))), some (.inl d), some (.inl many), some (.inl had), some (.inl p), none], [], S)) rfl ?_
        refine sm_T_wk [some (.inr (.inr (some (13, 0)))), some (.inl d), some (.inl many), some (.inl had), none, none] (by exact ⟨rfl, rfl, rfl, rfl, trivial⟩) ?_
        refine ih.2.1 many had S hI hF ⟨?_, ?_, trivial⟩ ?_
        · omega
        · omega
        · omega
      · have c6 : ¬ ((i_shl 1 ((S.2.2.1 154 0 d.toNat) + (S.2.2.1 155 0 d.toNat))) ≤ p) := of_decide_eq_false c6
        refine sm_T_go 4 (c1 := (77, [some (.inr (.inr (some (13, 0)))), some (.inl d), some (.inl many), some (.inl had), some (.inl p), none], [.inl d, .inl 4096, .inr (.inr (some (170, 0)))], S)) rfl ?_
        refine sm_T_bin (w := 4096 * d) rfl (bi_mul (by omega) (by omega) (by omega)) ?_
        refine sm_T_go 1 (c1 := (80, [some (.inr (.inr (some (13, 0)))), some (.inl d), some (.inl many), some (.inl had), some (.inl p), none], [.inl p, .inl (4096 * d), .inr (.inr (some (170, 0)))], S)) rfl ?_
        refine sm_T_bin (w := 4096 * d + p) rfl (bi_add (by omega) (by omega) (by omega)) ?_
        refine sm_T_iald (n := 24576) rfl rfl (by omega) (by omega) ?_
        have b7 : 0 ≤ S.2.2.1 170 0 (4096 * d + p).toNat ∧ S.2.2.1 170 0 (4096 * d + p).toNat ≤ 63 := hI.2 170 0 _
        refine sm_T_go 7 (c1 := (95, [some (.inr (.inr (some (13, 0)))), some (.inl d), some (.inl many), some (.inl had), some (.inl p), some (.inl (S.2.2.1 170 0 (4096 * d + p).toNat))], [.inl d, .inr (.inr (some (154, 0))), .inl p, .inr (.inr (some (176, 0)))], S)) rfl ?_
        refine sm_T_iald (n := 6) rfl rfl (by omega) (by omega) ?_
        refine sm_T_bin (w := (i_shr p (S.2.2.1 154 0 d.toNat))) rfl rfl ?_
        have b8 := i_shrv (x := p) (e := (S.2.2.1 154 0 d.toNat)) (by omega) (by omega) (by omega)
        have hq := shr_lt (x := p) (a := (S.2.2.1 154 0 d.toNat)) (b := S.2.2.1 155 0 d.toNat) (by omega) (by omega) (by omega) (by omega)
        have hq2 := pw_le (n := (S.2.2.1 155 0 d.toNat).toNat) (m := 6) (by omega)
        refine sm_T_zald (n := 64) rfl rfl (by omega) (by omega) ?_
        have b11 : 0 ≤ S.2.2.1 176 0 (i_shr p (S.2.2.1 154 0 d.toNat)).toNat ∧ S.2.2.1 176 0 (i_shr p (S.2.2.1 154 0 d.toNat)).toNat ≤ 1 := hI.2 176 0 _
        refine sm_T_b0 (a := 0) (z := 24) rfl (fun c12 => ?_) (fun c12 => ?_)
        · have c12 : (S.2.2.1 176 0 (i_shr p (S.2.2.1 154 0 d.toNat)).toNat) = 0 := of_decide_eq_true c12
          refine sm_T_inc (a := 4) (z := 1) (v := p) (w := p + 1) rfl rfl (by omega) (by omega) (by omega) ?_
          refine sm_T_go 1 (c1 := (49, [some (.inr (.inr (some (13, 0)))), some (.inl d), some (.inl many), some (.inl had), some (.inl (p + 1)), some (.inl (S.2.2.1 170 0 (4096 * d + p).toNat))], [], S)) rfl ?_
          refine sm_T_wk [some (.inr (.inr (some (13, 0)))), some (.inl d), some (.inl many), some (.inl had), some (.inl (p + 1)), none] (by exact ⟨rfl, rfl, rfl, rfl, rfl, trivial⟩) ?_
          refine ih.2.2 many had (p + 1) S hI hF ⟨?_, ?_, trivial⟩ ?_
          · omega
          · exact h2
          · omega
        · have c12 : ¬ ((S.2.2.1 176 0 (i_shr p (S.2.2.1 154 0 d.toNat)).toNat) = 0) := of_decide_eq_false c12
          refine sm_T_go 3 (c1 := (107, [some (.inr (.inr (some (13, 0)))), some (.inl d), some (.inl many), some (.inl had), some (.inl p), some (.inl (S.2.2.1 170 0 (4096 * d + p).toNat))], [.inl (S.2.2.1 170 0 (4096 * d + p).toNat), .inr (.inr (some (176, 0)))], S)) rfl ?_
          refine sm_T_zald (n := 64) rfl rfl (by omega) (by omega) ?_
          have b13 : 0 ≤ S.2.2.1 176 0 (S.2.2.1 170 0 (4096 * d + p).toNat).toNat ∧ S.2.2.1 176 0 (S.2.2.1 170 0 (4096 * d + p).toNat).toNat ≤ 1 := hI.2 176 0 _
          refine sm_T_b0 (a := 1) (z := 14) rfl (fun c14 => ?_) (fun c14 => ?_)
          · have c14 : (S.2.2.1 176 0 (S.2.2.1 170 0 (4096 * d + p).toNat).toNat) ≠ 0 := of_decide_eq_true c14
            refine sm_T_inc (a := 4) (z := 1) (v := p) (w := p + 1) rfl rfl (by omega) (by omega) (by omega) ?_
            refine sm_T_go 1 (c1 := (49, [some (.inr (.inr (some (13, 0)))), some (.inl d), some (.inl many), some (.inl had), some (.inl (p + 1)), some (.inl (S.2.2.1 170 0 (4096 * d + p).toNat))], [], S)) rfl ?_
            refine sm_T_wk [some (.inr (.inr (some (13, 0)))), some (.inl d), some (.inl many), some (.inl had), some (.inl (p + 1)), none] (by exact ⟨rfl, rfl, rfl, rfl, rfl, trivial⟩) ?_
            refine ih.2.2 many had (p + 1) S hI hF ⟨?_, ?_, trivial⟩ ?_
            · omega
            · exact h2
            · omega
          · have c14 : ¬ ((S.2.2.1 176 0 (S.2.2.1 170 0 (4096 * d + p).toNat).toNat) ≠ 0) := of_decide_eq_false c14
            refine sm_T_go 4 (c1 := (118, [some (.inr (.inr (some (13, 0)))), some (.inl d), some (.inl many), some (.inl had), some (.inl p), some (.inl (S.2.2.1 170 0 (4096 * d + p).toNat))], [.inl 1, .inl (S.2.2.1 170 0 (4096 * d + p).toNat), .inr (.inr (some (176, 0)))], S)) rfl ?_
            refine sm_T_zas1 (n := 64) rfl rfl (by omega) (by omega) (by omega) ?_
            have hI15 : gi (sm_aI S 176 0 (S.2.2.1 170 0 (4096 * d + p).toNat).toNat 1) := gi_aI hI (show 0 ≤ 1 ∧ 1 ≤ 1 from ⟨by omega, by omega⟩)
            have hF16 : ai_fr (sx_W vw_361) S0 (sm_aI S 176 0 (S.2.2.1 170 0 (4096 * d + p).toNat).toNat 1) := ai_fr_tr hF (ai_fr_aI rfl)
            refine sm_T_inc (a := 2) (z := 1) (v := many) (w := many + 1) rfl rfl (by omega) (by omega) (by omega) ?_
            refine sm_T_inc (a := 4) (z := 1) (v := p) (w := p + 1) rfl rfl (by omega) (by omega) (by omega) ?_
            refine sm_T_go 1 (c1 := (49, [some (.inr (.inr (some (13, 0)))), some (.inl d), some (.inl (many + 1)), some (.inl had), some (.inl (p + 1)), some (.inl (S.2.2.1 170 0 (4096 * d + p).toNat))], [], sm_aI S 176 0 (S.2.2.1 170 0 (4096 * d + p).toNat).toNat 1)) rfl ?_
            refine sm_T_wk [some (.inr (.inr (some (13, 0)))), some (.inl d), some (.inl (many + 1)), some (.inl had), some (.inl (p + 1)), none] (by exact ⟨rfl, rfl, rfl, rfl, rfl, trivial⟩) ?_
            refine ih.2.2 (many + 1) had (p + 1) (sm_aI S 176 0 (S.2.2.1 170 0 (4096 * d + p).toNat).toNat 1) hI15 hF16 ⟨?_, ?_, trivial⟩ ?_
            · omega
            · have := cn1_up (f := fun k => S.2.2.1 176 0 k) (g := fun k => (sm_aI S 176 0 (S.2.2.1 170 0 (4096 * d + p).toNat).toNat 1).2.2.1 176 0 k) (j := (S.2.2.1 170 0 (4096 * d + p).toNat).toNat) (by show S.2.2.1 176 0 _ ≠ 1; omega) (by show _ = _; rw [rd_aa, if_pos ⟨rfl, rfl, rfl⟩]) (by intro k hk; show _ = _; rw [rd_aa, if_neg (by omega)]) (n := 64) (by omega)
              omega
            · omega
theorem vc_361 {sc : Nat × (Nat → Int)} (d : Int) (S0 : sm_S) (hI : gi S0) (hd : 0 ≤ d ∧ d < 6) (hb : (S0.2.2.1 154 0 (d.toNat)) + (S0.2.2.1 155 0 (d.toNat)) ≤ 12) : sm_T (mt_P sc) 0 361 (0, [some (.inr (.inr (some (13, 0)))), some (.inl d), none, none, none, none], [], S0) (fun r => ∃ u S1, r = (.inl u, S1, 0) ∧ vq_361 d S0 u S1) := by
  have hF : ai_fr (sx_W vw_361) S0 S0 := ai_fr_rf
  refine sm_T_go 2 (c1 := (2, [some (.inr (.inr (some (13, 0)))), some (.inl d), some (.inl 0), none, none, none], [], S0)) rfl ?_
  refine (vl_361 d S0 hd hb _).1 0 S0 hI hF ⟨?_, ?_, trivial⟩ (Nat.lt_succ_self _)
  · omega
  · intro k hk; omega
