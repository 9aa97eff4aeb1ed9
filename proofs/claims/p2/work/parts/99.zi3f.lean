/-! M_.reach -/
def vw_361 : sx_Wl := ([], [176], [])
def vq_361 (d_ : Int) (S0_ : sm_S) (u_ : Option sm_V) (S1_ : sm_S) : Prop := ∃ v_ : Int, u_ = some (.inl v_) ∧ gi S1_ ∧ ai_fr (sx_W vw_361) S0_ S1_ ∧ (1 ≤ v_ ∧ v_ ≤ 64)
set_option maxHeartbeats 400000 in
theorem vl_361 {sc_ : Nat × (Nat → Int)} (d_ : Int) (S0_ : sm_S) (hd_ : 0 ≤ d_ ∧ d_ < 6) (hb_ : (S0_.2.2.1 154 0 (d_.toNat)) + (S0_.2.2.1 155 0 (d_.toNat)) ≤ 12) : ∀ nn_ : Nat, (∀ (s_ : Int) (S_ : sm_S), gi S_ → ai_fr (sx_W vw_361) S0_ S_ → ((0 ≤ s_ ∧ s_ ≤ 64) ∧ (∀ k_ : Nat, (k_ : Int) < s_ → (S_.2.2.1 176 0 (k_)) = if (k_ : Int) = (S_.2.2.1 157 0 (d_.toNat)) then 1 else 0) ∧ True) → (400000 + (64 - s_).toNat) < nn_ → sm_T (mt_P sc_) 0 361 (2, [some (.inr (.inr (some (13, 0)))), some (.inl d_), some (.inl s_), none, none, none], [], S_) (fun ro9_ => ∃ u_ S1_, ro9_ = (.inl u_, S1_, 0) ∧ vq_361 d_ S0_ u_ S1_)) ∧ (∀ (many : Int) (had_ : Int) (S_ : sm_S), gi S_ → ai_fr (sx_W vw_361) S0_ S_ → ((0 ≤ had_ ∧ had_ ≤ many ∧ 1 ≤ many) ∧ (many = cn1 (fun k_ => (S_.2.2.1 176 0 (k_))) 64) ∧ True) → (((65 - had_) * 5000).toNat) < nn_ → sm_T (mt_P sc_) 0 361 (39, [some (.inr (.inr (some (13, 0)))), some (.inl d_), some (.inl many), some (.inl had_), none, none], [], S_) (fun ro9_ => ∃ u_ S1_, ro9_ = (.inl u_, S1_, 0) ∧ vq_361 d_ S0_ u_ S1_)) ∧ (∀ (many : Int) (had_ : Int) (p_ : Int) (S_ : sm_S), gi S_ → ai_fr (sx_W vw_361) S0_ S_ → ((1 ≤ had_ ∧ had_ ≤ many ∧ 0 ≤ p_ ∧ p_ ≤ 4096) ∧ (many = cn1 (fun k_ => (S_.2.2.1 176 0 (k_))) 64) ∧ True) → (((65 - had_) * 5000 + (4097 - p_)).toNat) < nn_ → sm_T (mt_P sc_) 0 361 (49, [some (.inr (.inr (some (13, 0)))), some (.inl d_), some (.inl many), some (.inl had_), some (.inl p_), none], [], S_) (fun ro9_ => ∃ u_ S1_, ro9_ = (.inl u_, S1_, 0) ∧ vq_361 d_ S0_ u_ S1_)) := by
  intro nn_
  induction nn_ with
  | zero => exact ⟨fun _ _ _ _ _ h_ => absurd h_ (Nat.not_lt_zero _), fun _ _ _ _ _ _ h_ => absurd h_ (Nat.not_lt_zero _), fun _ _ _ _ _ _ _ h_ => absurd h_ (Nat.not_lt_zero _)⟩
  | succ nn_ ih_ =>
    refine ⟨?_, ?_, ?_⟩
    · rintro s_ S_ hI_ hF_ ⟨h1_, h2_, -⟩ hm_
      refine sm_T_go 2 (c1 := (5, [some (.inr (.inr (some (13, 0)))), some (.inl d_), some (.inl s_), none, none, none], [.inl 64, .inl s_], S_)) rfl ?_
      refine sm_T_br (a := 3) (z := 30) rfl (fun cx1_ => ?_) (fun cx1_ => ?_)
      · have cx1_ : 64 ≤ s_ := of_decide_eq_true cx1_
        refine sm_T_go 4 (c1 := (39, [some (.inr (.inr (some (13, 0)))), some (.inl d_), some (.inl 1), some (.inl 0), none, none], [], S_)) rfl ?_
        refine ih_.2.1 1 0 S_ hI_ hF_ ⟨?_, ?_, trivial⟩ ?_
        · omega
        · have e_ := cn1_one (f := fun k_ : Nat => if (k_ : Int) = S_.2.2.1 157 0 d_.toNat then 1 else 0) (j := (S_.2.2.1 157 0 d_.toNat).toNat) (by intro k_; have := hI_.2 157 0 d_.toNat; have a1_ : 0 ≤ S_.2.2.1 157 0 d_.toNat := this.1; constructor <;> intro h_ <;> first | (split at h_ <;> omega) | (rw [if_pos (by omega)])) 64
          have b9_ : 0 ≤ S_.2.2.1 157 0 d_.toNat ∧ S_.2.2.1 157 0 d_.toNat ≤ 63 := hI_.2 157 0 _
          rw [if_pos (by omega)] at e_
          rw [cn1_cg (fun k_ hk_ => h2_ k_ (by omega)), e_]
          rfl
        · omega
      · have cx1_ : ¬ (64 ≤ s_) := of_decide_eq_false cx1_
        refine sm_T_go 7 (c1 := (19, [some (.inr (.inr (some (13, 0)))), some (.inl d_), some (.inl s_), none, none, none], [.inl d_, .inr (.inr (some (157, 0))), .inl s_, .inl s_, .inr (.inr (some (176, 0)))], S_)) rfl ?_
        refine sm_T_iald (n := 6) rfl rfl (by omega) (by omega) ?_
        have bx2_ : 0 ≤ S_.2.2.1 157 0 d_.toNat ∧ S_.2.2.1 157 0 d_.toNat ≤ 63 := hI_.2 157 0 _
        refine sm_T_br (a := 1) (z := 7) rfl (fun cx3_ => ?_) (fun cx3_ => ?_)
        · have cx3_ : s_ ≠ (S_.2.2.1 157 0 d_.toNat) := of_decide_eq_true cx3_
          refine sm_T_go 1 (c1 := (28, [some (.inr (.inr (some (13, 0)))), some (.inl d_), some (.inl s_), none, none, none], [.inl 0, .inl s_, .inr (.inr (some (176, 0)))], S_)) rfl ?_
          refine sm_T_zas1 (n := 64) rfl rfl (by omega) (by omega) (by omega) ?_
          have hIx4_ : gi (sm_aI S_ 176 0 s_.toNat 0) := gi_aI hI_ (show 0 ≤ 0 ∧ 0 ≤ 1 from ⟨by omega, by omega⟩)
          have hFx5_ : ai_fr (sx_W vw_361) S0_ (sm_aI S_ 176 0 s_.toNat 0) := ai_fr_tr hF_ (ai_fr_aI rfl)
          refine sm_T_inc (a := 2) (z := 1) (v := s_) (w := s_ + 1) rfl rfl (by omega) (by omega) (by omega) ?_
          refine sm_T_go 1 (c1 := (2, [some (.inr (.inr (some (13, 0)))), some (.inl d_), some (.inl (s_ + 1)), none, none, none], [], sm_aI S_ 176 0 s_.toNat 0)) rfl ?_
          refine ih_.1 (s_ + 1) (sm_aI S_ 176 0 s_.toNat 0) hIx4_ hFx5_ ⟨?_, ?_, trivial⟩ ?_
          · omega
          · intro k_ hk_
            (try simp only [rd_eq, rd_ne, rf_eq, rf_nk, rf_nt, rd_fa, rd_af, rd_fl, rd_al, rd_lf, rd_la, rd_leq, rd_lne, rd_fr, rd_ar, ne_eq, Nat.reduceEqDiff, not_false_eq_true])
            grind
          · omega
        · have cx3_ : ¬ (s_ ≠ (S_.2.2.1 157 0 d_.toNat)) := of_decide_eq_false cx3_
          refine sm_T_go 2 (c1 := (28, [some (.inr (.inr (some (13, 0)))), some (.inl d_), some (.inl s_), none, none, none], [.inl 1, .inl s_, .inr (.inr (some (176, 0)))], S_)) rfl ?_
          refine sm_T_zas1 (n := 64) rfl rfl (by omega) (by omega) (by omega) ?_
          have hIx6_ : gi (sm_aI S_ 176 0 s_.toNat 1) := gi_aI hI_ (show 0 ≤ 1 ∧ 1 ≤ 1 from ⟨by omega, by omega⟩)
          have hFx7_ : ai_fr (sx_W vw_361) S0_ (sm_aI S_ 176 0 s_.toNat 1) := ai_fr_tr hF_ (ai_fr_aI rfl)
          refine sm_T_inc (a := 2) (z := 1) (v := s_) (w := s_ + 1) rfl rfl (by omega) (by omega) (by omega) ?_
          refine sm_T_go 1 (c1 := (2, [some (.inr (.inr (some (13, 0)))), some (.inl d_), some (.inl (s_ + 1)), none, none, none], [], sm_aI S_ 176 0 s_.toNat 1)) rfl ?_
          refine ih_.1 (s_ + 1) (sm_aI S_ 176 0 s_.toNat 1) hIx6_ hFx7_ ⟨?_, ?_, trivial⟩ ?_
          · omega
          · intro k_ hk_
            (try simp only [rd_eq, rd_ne, rf_eq, rf_nk, rf_nt, rd_fa, rd_af, rd_fl, rd_al, rd_lf, rd_la, rd_leq, rd_lne, rd_fr, rd_ar, ne_eq, Nat.reduceEqDiff, not_false_eq_true])
            grind
          · omega
    · rintro many had_ S_ hI_ hF_ ⟨h1_, h2_, -⟩ hm_
      have hc_ := cn1_le (fun k_ => (S_.2.2.1 176 0 (k_))) 64
      refine sm_T_go 2 (c1 := (41, [some (.inr (.inr (some (13, 0)))), some (.inl d_), some (.inl many), some (.inl had_), none, none], [.inl had_, .inl many], S_)) rfl ?_
      refine sm_T_br (a := 0) (z := 90) rfl (fun cx1_ => ?_) (fun cx1_ => ?_)
      · have cx1_ : many = had_ := of_decide_eq_true cx1_
        refine sm_T_go 1 (c1 := (132, [some (.inr (.inr (some (13, 0)))), some (.inl d_), some (.inl many), some (.inl had_), none, none], [.inl many], S_)) rfl ?_
        refine sm_T_ri rfl ⟨_, _, rfl, _, rfl, hI_, hF_, ?_⟩
        omega
      · have cx1_ : ¬ (many = had_) := of_decide_eq_false cx1_
        refine sm_T_go 4 (c1 := (49, [some (.inr (.inr (some (13, 0)))), some (.inl d_), some (.inl many), some (.inl many), some (.inl 0), none], [], S_)) rfl ?_
        refine ih_.2.2 many many 0 S_ hI_ hF_ ⟨?_, ?_, trivial⟩ ?_
        · omega
        · omega
        · omega
    · rintro many had_ p_ S_ hI_ hF_ ⟨h1_, h2_, -⟩ hm_
      have hc_ := cn1_le (fun k_ => (S_.2.2.1 176 0 (k_))) 64
      have e1_ := (hF_.2.2 154 rfl 0 d_.toNat).1
      have e2_ := (hF_.2.2 155 rfl 0 d_.toNat).1
      refine sm_T_go 5 (c1 := (57, [some (.inr (.inr (some (13, 0)))), some (.inl d_), some (.inl many), some (.inl had_), some (.inl p_), none], [.inl d_, .inr (.inr (some (154, 0))), .inl 1, .inl p_], S_)) rfl ?_
      refine sm_T_iald (n := 6) rfl rfl (by omega) (by omega) ?_
      have bx1_ : 0 ≤ S_.2.2.1 154 0 d_.toNat ∧ S_.2.2.1 154 0 d_.toNat ≤ 12 := hI_.2 154 0 _
      refine sm_T_go 3 (c1 := (63, [some (.inr (.inr (some (13, 0)))), some (.inl d_), some (.inl many), some (.inl had_), some (.inl p_), none], [.inl d_, .inr (.inr (some (155, 0))), .inl (S_.2.2.1 154 0 d_.toNat), .inl 1, .inl p_], S_)) rfl ?_
      refine sm_T_iald (n := 6) rfl rfl (by omega) (by omega) ?_
      have bx2_ : 0 ≤ S_.2.2.1 155 0 d_.toNat ∧ S_.2.2.1 155 0 d_.toNat ≤ 6 := hI_.2 155 0 _
      refine sm_T_bin (w := (S_.2.2.1 154 0 d_.toNat) + (S_.2.2.1 155 0 d_.toNat)) rfl (bi_add (by omega) (by omega) (by omega)) ?_
      refine sm_T_bin (w := (i_shl 1 ((S_.2.2.1 154 0 d_.toNat) + (S_.2.2.1 155 0 d_.toNat)))) rfl rfl ?_
      have bx3_ := i_shl1 (e := ((S_.2.2.1 154 0 d_.toNat) + (S_.2.2.1 155 0 d_.toNat))) (by omega) (by omega)
      have hp_ := pw_le (n := (((S_.2.2.1 154 0 d_.toNat) + (S_.2.2.1 155 0 d_.toNat))).toNat) (m := 12) (by omega)
      have hp0_ := pw_pos (((S_.2.2.1 154 0 d_.toNat) + (S_.2.2.1 155 0 d_.toNat))).toNat
      refine sm_T_br (a := 3) (z := 62) rfl (fun cx6_ => ?_) (fun cx6_ => ?_)
      · have cx6_ : (i_shl 1 ((S_.2.2.1 154 0 d_.toNat) + (S_.2.2.1 155 0 d_.toNat))) ≤ p_ := of_decide_eq_true cx6_
        refine sm_T_go 1 (c1 := (39, [some (.inr (.inr (some (13, 0)))), some (.inl d_), some (.inl many), some (.inl had_), some (.inl p_), none], [], S_)) rfl ?_
        refine sm_T_wk [some (.inr (.inr (some (13, 0)))), some (.inl d_), some (.inl many), some (.inl had_), none, none] (by exact ⟨rfl, rfl, rfl, rfl, trivial⟩) ?_
        refine ih_.2.1 many had_ S_ hI_ hF_ ⟨?_, ?_, trivial⟩ ?_
        · omega
        · omega
        · omega
      · have cx6_ : ¬ ((i_shl 1 ((S_.2.2.1 154 0 d_.toNat) + (S_.2.2.1 155 0 d_.toNat))) ≤ p_) := of_decide_eq_false cx6_
        refine sm_T_go 4 (c1 := (77, [some (.inr (.inr (some (13, 0)))), some (.inl d_), some (.inl many), some (.inl had_), some (.inl p_), none], [.inl d_, .inl 4096, .inr (.inr (some (170, 0)))], S_)) rfl ?_
        refine sm_T_bin (w := 4096 * d_) rfl (bi_mul (by omega) (by omega) (by omega)) ?_
        refine sm_T_go 1 (c1 := (80, [some (.inr (.inr (some (13, 0)))), some (.inl d_), some (.inl many), some (.inl had_), some (.inl p_), none], [.inl p_, .inl (4096 * d_), .inr (.inr (some (170, 0)))], S_)) rfl ?_
        refine sm_T_bin (w := 4096 * d_ + p_) rfl (bi_add (by omega) (by omega) (by omega)) ?_
        refine sm_T_iald (n := 24576) rfl rfl (by omega) (by omega) ?_
        have bx7_ : 0 ≤ S_.2.2.1 170 0 (4096 * d_ + p_).toNat ∧ S_.2.2.1 170 0 (4096 * d_ + p_).toNat ≤ 63 := hI_.2 170 0 _
        refine sm_T_go 7 (c1 := (95, [some (.inr (.inr (some (13, 0)))), some (.inl d_), some (.inl many), some (.inl had_), some (.inl p_), some (.inl (S_.2.2.1 170 0 (4096 * d_ + p_).toNat))], [.inl d_, .inr (.inr (some (154, 0))), .inl p_, .inr (.inr (some (176, 0)))], S_)) rfl ?_
        refine sm_T_iald (n := 6) rfl rfl (by omega) (by omega) ?_
        refine sm_T_bin (w := (i_shr p_ (S_.2.2.1 154 0 d_.toNat))) rfl rfl ?_
        have bx8_ := i_shrv (x := p_) (e := (S_.2.2.1 154 0 d_.toNat)) (by omega) (by omega) (by omega)
        have hq_ := shr_lt (x := p_) (a := (S_.2.2.1 154 0 d_.toNat)) (b := S_.2.2.1 155 0 d_.toNat) (by omega) (by omega) (by omega) (by omega)
        have hq2_ := pw_le (n := (S_.2.2.1 155 0 d_.toNat).toNat) (m := 6) (by omega)
        refine sm_T_zald (n := 64) rfl rfl (by omega) (by omega) ?_
        have bx11_ : 0 ≤ S_.2.2.1 176 0 (i_shr p_ (S_.2.2.1 154 0 d_.toNat)).toNat ∧ S_.2.2.1 176 0 (i_shr p_ (S_.2.2.1 154 0 d_.toNat)).toNat ≤ 1 := hI_.2 176 0 _
        refine sm_T_b0 (a := 0) (z := 24) rfl (fun cx12_ => ?_) (fun cx12_ => ?_)
        · have cx12_ : (S_.2.2.1 176 0 (i_shr p_ (S_.2.2.1 154 0 d_.toNat)).toNat) = 0 := of_decide_eq_true cx12_
          refine sm_T_inc (a := 4) (z := 1) (v := p_) (w := p_ + 1) rfl rfl (by omega) (by omega) (by omega) ?_
          refine sm_T_go 1 (c1 := (49, [some (.inr (.inr (some (13, 0)))), some (.inl d_), some (.inl many), some (.inl had_), some (.inl (p_ + 1)), some (.inl (S_.2.2.1 170 0 (4096 * d_ + p_).toNat))], [], S_)) rfl ?_
          refine sm_T_wk [some (.inr (.inr (some (13, 0)))), some (.inl d_), some (.inl many), some (.inl had_), some (.inl (p_ + 1)), none] (by exact ⟨rfl, rfl, rfl, rfl, rfl, trivial⟩) ?_
          refine ih_.2.2 many had_ (p_ + 1) S_ hI_ hF_ ⟨?_, ?_, trivial⟩ ?_
          · omega
          · exact h2_
          · omega
        · have cx12_ : ¬ ((S_.2.2.1 176 0 (i_shr p_ (S_.2.2.1 154 0 d_.toNat)).toNat) = 0) := of_decide_eq_false cx12_
          refine sm_T_go 3 (c1 := (107, [some (.inr (.inr (some (13, 0)))), some (.inl d_), some (.inl many), some (.inl had_), some (.inl p_), some (.inl (S_.2.2.1 170 0 (4096 * d_ + p_).toNat))], [.inl (S_.2.2.1 170 0 (4096 * d_ + p_).toNat), .inr (.inr (some (176, 0)))], S_)) rfl ?_
          refine sm_T_zald (n := 64) rfl rfl (by omega) (by omega) ?_
          have bx13_ : 0 ≤ S_.2.2.1 176 0 (S_.2.2.1 170 0 (4096 * d_ + p_).toNat).toNat ∧ S_.2.2.1 176 0 (S_.2.2.1 170 0 (4096 * d_ + p_).toNat).toNat ≤ 1 := hI_.2 176 0 _
          refine sm_T_b0 (a := 1) (z := 14) rfl (fun cx14_ => ?_) (fun cx14_ => ?_)
          · have cx14_ : (S_.2.2.1 176 0 (S_.2.2.1 170 0 (4096 * d_ + p_).toNat).toNat) ≠ 0 := of_decide_eq_true cx14_
            refine sm_T_inc (a := 4) (z := 1) (v := p_) (w := p_ + 1) rfl rfl (by omega) (by omega) (by omega) ?_
            refine sm_T_go 1 (c1 := (49, [some (.inr (.inr (some (13, 0)))), some (.inl d_), some (.inl many), some (.inl had_), some (.inl (p_ + 1)), some (.inl (S_.2.2.1 170 0 (4096 * d_ + p_).toNat))], [], S_)) rfl ?_
            refine sm_T_wk [some (.inr (.inr (some (13, 0)))), some (.inl d_), some (.inl many), some (.inl had_), some (.inl (p_ + 1)), none] (by exact ⟨rfl, rfl, rfl, rfl, rfl, trivial⟩) ?_
            refine ih_.2.2 many had_ (p_ + 1) S_ hI_ hF_ ⟨?_, ?_, trivial⟩ ?_
            · omega
            · exact h2_
            · omega
          · have cx14_ : ¬ ((S_.2.2.1 176 0 (S_.2.2.1 170 0 (4096 * d_ + p_).toNat).toNat) ≠ 0) := of_decide_eq_false cx14_
            refine sm_T_go 4 (c1 := (118, [some (.inr (.inr (some (13, 0)))), some (.inl d_), some (.inl many), some (.inl had_), some (.inl p_), some (.inl (S_.2.2.1 170 0 (4096 * d_ + p_).toNat))], [.inl 1, .inl (S_.2.2.1 170 0 (4096 * d_ + p_).toNat), .inr (.inr (some (176, 0)))], S_)) rfl ?_
            refine sm_T_zas1 (n := 64) rfl rfl (by omega) (by omega) (by omega) ?_
            have hIx15_ : gi (sm_aI S_ 176 0 (S_.2.2.1 170 0 (4096 * d_ + p_).toNat).toNat 1) := gi_aI hI_ (show 0 ≤ 1 ∧ 1 ≤ 1 from ⟨by omega, by omega⟩)
            have hFx16_ : ai_fr (sx_W vw_361) S0_ (sm_aI S_ 176 0 (S_.2.2.1 170 0 (4096 * d_ + p_).toNat).toNat 1) := ai_fr_tr hF_ (ai_fr_aI rfl)
            refine sm_T_inc (a := 2) (z := 1) (v := many) (w := many + 1) rfl rfl (by omega) (by omega) (by omega) ?_
            refine sm_T_inc (a := 4) (z := 1) (v := p_) (w := p_ + 1) rfl rfl (by omega) (by omega) (by omega) ?_
            refine sm_T_go 1 (c1 := (49, [some (.inr (.inr (some (13, 0)))), some (.inl d_), some (.inl (many + 1)), some (.inl had_), some (.inl (p_ + 1)), some (.inl (S_.2.2.1 170 0 (4096 * d_ + p_).toNat))], [], sm_aI S_ 176 0 (S_.2.2.1 170 0 (4096 * d_ + p_).toNat).toNat 1)) rfl ?_
            refine sm_T_wk [some (.inr (.inr (some (13, 0)))), some (.inl d_), some (.inl (many + 1)), some (.inl had_), some (.inl (p_ + 1)), none] (by exact ⟨rfl, rfl, rfl, rfl, rfl, trivial⟩) ?_
            refine ih_.2.2 (many + 1) had_ (p_ + 1) (sm_aI S_ 176 0 (S_.2.2.1 170 0 (4096 * d_ + p_).toNat).toNat 1) hIx15_ hFx16_ ⟨?_, ?_, trivial⟩ ?_
            · omega
            · have := cn1_up (f := fun k_ => S_.2.2.1 176 0 k_) (g := fun k_ => (sm_aI S_ 176 0 (S_.2.2.1 170 0 (4096 * d_ + p_).toNat).toNat 1).2.2.1 176 0 k_) (j := (S_.2.2.1 170 0 (4096 * d_ + p_).toNat).toNat) (by show S_.2.2.1 176 0 _ ≠ 1; omega) (by show _ = _; rw [rd_aa, if_pos ⟨rfl, rfl, rfl⟩]) (by intro k_ hk_; show _ = _; rw [rd_aa, if_neg (by omega)]) (n := 64) (by omega)
              omega
            · omega
set_option maxHeartbeats 400000 in
theorem vc_361 {sc_ : Nat × (Nat → Int)} (d_ : Int) (S0_ : sm_S) (hI_ : gi S0_) (hd_ : 0 ≤ d_ ∧ d_ < 6) (hb_ : (S0_.2.2.1 154 0 (d_.toNat)) + (S0_.2.2.1 155 0 (d_.toNat)) ≤ 12) : sm_T (mt_P sc_) 0 361 (0, [some (.inr (.inr (some (13, 0)))), some (.inl d_), none, none, none, none], [], S0_) (fun ro9_ => ∃ u_ S1_, ro9_ = (.inl u_, S1_, 0) ∧ vq_361 d_ S0_ u_ S1_) := by
  have hF_ : ai_fr (sx_W vw_361) S0_ S0_ := ai_fr_rf
  refine sm_T_go 2 (c1 := (2, [some (.inr (.inr (some (13, 0)))), some (.inl d_), some (.inl 0), none, none, none], [], S0_)) rfl ?_
  refine (vl_361 d_ S0_ hd_ hb_ _).1 0 S0_ hI_ hF_ ⟨?_, ?_, trivial⟩ (Nat.lt_succ_self _)
  · omega
  · intro k_ hk_; omega
