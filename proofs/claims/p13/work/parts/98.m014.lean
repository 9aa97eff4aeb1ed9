/-! 99.zi2b -/
section
/-! M_.sweep -/
def vw_354 : sx_Wl := ([], [172], [])
def vq_354 (F_ : Nat) (S0_ : sm_S) (u_ : Option sm_V) (S1_ : sm_S) : Prop := u_ = none ∧ gi S1_ ∧ ai_fr (sx_W vw_354) S0_ S1_ ∧ (rsw F_ S1_)
set_option maxHeartbeats 3000000 in
theorem vl_354 {sc_ : Nat × (Nat → Int)} (F_ : Nat) (S0_ : sm_S) (hg_ : rgr F_ S0_) (hfn_ : ∀ m9_ : Nat, (m9_ : Int) < S0_.1 13 0 37 → srw F_ m9_ 64 (-1) (S0_.2.2.1 140 0) (S0_.2.2.1 141 0) (S0_.2.2.2 171 0)) : ∀ nn_ : Nat, (∀ (n_ : Int) (S_ : sm_S), gi S_ → ai_fr (sx_W vw_354) S0_ S_ → ((0 ≤ n_ ∧ n_ ≤ S0_.1 13 0 37) ∧ (sw1 F_ 64 n_.toNat (-1) (S0_.2.2.1 140 0) (S0_.2.2.1 141 0) (S_.2.2.1 172 0) (S0_.2.2.2 171 0)) ∧ (0 < n_ → S_.2.2.1 172 0 0 = 0) ∧ True) → ((2000 * (1100 - n_) + 1500).toNat) < nn_ → sm_T (mt_P sc_) 1 354 (2, [some (.inr (.inr (some (13, 0)))), some (.inl n_), none, none, none], [], S_) (fun ro9_ => ∃ u_ S1_, ro9_ = (.inl u_, S1_, 0) ∧ vq_354 F_ S0_ u_ S1_)) ∧ (∀ (n_ : Int) (fd_ : Int) (m_ : Int) (S_ : sm_S), gi S_ → ai_fr (sx_W vw_354) S0_ S_ → ((0 ≤ n_ ∧ n_ < S0_.1 13 0 37 ∧ 0 ≤ m_ ∧ m_ ≤ n_) ∧ (sw1 F_ 64 n_.toNat (-1) (S0_.2.2.1 140 0) (S0_.2.2.1 141 0) (S_.2.2.1 172 0) (S0_.2.2.2 171 0)) ∧ (0 < n_ → S_.2.2.1 172 0 0 = 0) ∧ (rfn n_.toNat m_.toNat (S_.2.2.1 172 0) (S0_.2.2.2 171 0) fd_) ∧ True) → ((2000 * (1100 - n_) + 1400 - m_).toNat) < nn_ → sm_T (mt_P sc_) 1 354 (23, [some (.inr (.inr (some (13, 0)))), some (.inl n_), some (.inl fd_), some (.inl m_), none], [], S_) (fun ro9_ => ∃ u_ S1_, ro9_ = (.inl u_, S1_, 0) ∧ vq_354 F_ S0_ u_ S1_)) := by
  intro nn_
  induction nn_ with
  | zero => exact ⟨fun _ _ _ _ _ h_ => absurd h_ (Nat.not_lt_zero _), fun _ _ _ _ _ _ _ h_ => absurd h_ (Nat.not_lt_zero _)⟩
  | succ nn_ ih_ =>
    refine ⟨?_, ?_⟩
    · rintro n_ S_ hI_ hF_ ⟨h0_, h1_, h2_, -⟩ hm_
      have g1_ := hg_.1
      have g2_ := hg_.2.1
      have e37_ : S_.1 13 0 37 = S0_.1 13 0 37 := hF_.1 13 0 37 rfl
      have f71_ : S_.2.2.2 171 0 = S0_.2.2.2 171 0 := fr_lon hF_ rfl
      have gl_ := glo_r hg_
      have bx1_ : 0 ≤ S_.1 13 0 37 ∧ S_.1 13 0 37 ≤ 1014 := hI_.1 13 0 37 rfl
      refine sm_T_go 3 (c1 := (7, [some (.inr (.inr (some (13, 0)))), some (.inl n_), none, none, none], [.inl (S_.1 13 0 37), .inl n_], S_)) rfl ?_
      refine sm_T_br (a := 3) (z := 98) rfl (fun cx2_ => ?_) (fun cx2_ => ?_)
      · have cx2_ : (S_.1 13 0 37) ≤ n_ := of_decide_eq_true cx2_
        refine sm_T_rv rfl ⟨_, _, rfl, rfl, hI_, hF_, ?_⟩
        refine ⟨h2_ (by omega), fun m9_ hm9_ => ?_⟩
        rw [fr_arr (t := 140) (i := 0) hF_ rfl, fr_arr (t := 141) (i := 0) hF_ rfl]
        exact (h1_ m9_ (by omega)).1
      · have cx2_ : ¬ ((S_.1 13 0 37) ≤ n_) := of_decide_eq_false cx2_
        refine sm_T_go 5 (c1 := (17, [some (.inr (.inr (some (13, 0)))), some (.inl n_), none, none, none], [.inl n_, .inl 2, .inl n_, .inr (.inr (some (172, 0)))], S_)) rfl ?_
        refine sm_T_bin (w := 2 * n_) rfl (bi_mul (by omega) (by omega) (by omega)) ?_
        refine sm_T_iast (n := 2048) rfl rfl (by omega) (by omega) ?_
        have hIx3_ : gi (sm_aI S_ 172 0 n_.toNat (2 * n_)) := gi_aI hI_ (show 0 ≤ 2 * n_ ∧ 2 * n_ ≤ 2025 from ⟨by omega, by omega⟩)
        have hFx4_ : ai_fr (sx_W vw_354) S0_ (sm_aI S_ 172 0 n_.toNat (2 * n_)) := ai_fr_tr hF_ (ai_fr_aI rfl)
        refine sm_T_go 4 (c1 := (23, [some (.inr (.inr (some (13, 0)))), some (.inl n_), some (.inl 0), some (.inl 0), none], [], sm_aI S_ 172 0 n_.toNat (2 * n_))) rfl ?_
        refine ih_.2 n_ 0 0 (sm_aI S_ 172 0 n_.toNat (2 * n_)) hIx3_ hFx4_ ⟨?_, ?_, ?_, ?_, trivial⟩ ?_
        · omega
        · exact sw1_sf gl_ (by omega) h1_ (fun k9_ hk9_ => by rw [rd_eq, if_neg (by omega)])
        · (intro z9_; rw [rd_eq, if_neg (by omega)]; exact h2_ z9_)
        · exact Or.inl ⟨rfl, by rw [rd_eq, if_pos rfl]; omega, fun p9_ hp9_ => absurd hp9_ (Nat.not_lt_zero _)⟩
        · omega
    · rintro n_ fd_ m_ S_ hI_ hF_ ⟨h0_, h1_, h2_, h3_, -⟩ hm_
      have g1_ := hg_.1
      have g2_ := hg_.2.1
      have e37_ : S_.1 13 0 37 = S0_.1 13 0 37 := hF_.1 13 0 37 rfl
      have f71_ : S_.2.2.2 171 0 = S0_.2.2.2 171 0 := fr_lon hF_ rfl
      have gl_ := glo_r hg_
      refine sm_T_go 2 (c1 := (25, [some (.inr (.inr (some (13, 0)))), some (.inl n_), some (.inl fd_), some (.inl m_), none], [.inl n_, .inl m_], S_)) rfl ?_
      refine sm_T_br (a := 3) (z := 74) rfl (fun cx1_ => ?_) (fun cx1_ => ?_)
      · have cx1_ : n_ ≤ m_ := of_decide_eq_true cx1_
        refine sm_T_inc (a := 1) (z := 1) (v := n_) (w := n_ + 1) rfl rfl (by omega) (by omega) (by omega) ?_
        refine sm_T_go 1 (c1 := (2, [some (.inr (.inr (some (13, 0)))), some (.inl (n_ + 1)), some (.inl fd_), some (.inl m_), none], [], S_)) rfl ?_
        refine sm_T_wk [some (.inr (.inr (some (13, 0)))), some (.inl (n_ + 1)), none, none, none] (by exact ⟨rfl, rfl, trivial⟩) ?_
        refine ih_.1 (n_ + 1) S_ hI_ hF_ ⟨?_, ?_, ?_, trivial⟩ ?_
        · (clear h3_; omega)
        · rw [show (n_ + 1).toNat = n_.toNat + 1 by omega]
          have h4_ : ∃ f9_, rfn n_.toNat n_.toNat (S_.2.2.1 172 0) (S0_.2.2.2 171 0) f9_ := by (rcases h3_ with z9_ | z9_; (refine ⟨0, Or.inl ⟨rfl, z9_.2.1, ?_⟩⟩; rw [show n_.toNat = m_.toNat by have := z9_.1; omega]; rw [show n_.toNat = m_.toNat by have := z9_.1; omega] at z9_; exact z9_.2.2); (exact ⟨1, Or.inr ⟨rfl, z9_.2⟩⟩))
          obtain ⟨f9_, h5_⟩ := h4_
          exact sw_rf gl_ g1_.2.1 (by omega) h1_ (fun z9_ => h2_ (by omega)) (fun m9_ hm9_ => hfn_ m9_ (by omega)) h5_
        · intro z9_
          by_cases n0_ : n_ = 0
          · have b9_ := rfn_b h3_; rcases h3_ with y9_ | ⟨-, p9_, t9_, y1_, -⟩; (have := y9_.2.1; rw [show n_.toNat = 0 by omega] at this; omega); (have := y1_.1; omega)
          · exact h2_ (by omega)
        · (clear h3_; omega)
      · have cx1_ : ¬ (n_ ≤ m_) := of_decide_eq_false cx1_
        refine sm_T_go 1 (c1 := (29, [some (.inr (.inr (some (13, 0)))), some (.inl n_), some (.inl fd_), some (.inl m_), none], [.inl fd_], S_)) rfl ?_
        refine sm_T_b0 (a := 1) (z := 70) rfl (fun cx2_ => ?_) (fun cx2_ => ?_)
        · have cx2_ : fd_ ≠ 0 := of_decide_eq_true cx2_
          refine sm_T_inc (a := 1) (z := 1) (v := n_) (w := n_ + 1) rfl rfl (by omega) (by omega) (by omega) ?_
          refine sm_T_go 1 (c1 := (2, [some (.inr (.inr (some (13, 0)))), some (.inl (n_ + 1)), some (.inl fd_), some (.inl m_), none], [], S_)) rfl ?_
          refine sm_T_wk [some (.inr (.inr (some (13, 0)))), some (.inl (n_ + 1)), none, none, none] (by exact ⟨rfl, rfl, trivial⟩) ?_
          refine ih_.1 (n_ + 1) S_ hI_ hF_ ⟨?_, ?_, ?_, trivial⟩ ?_
          · (clear h3_; omega)
          · rw [show (n_ + 1).toNat = n_.toNat + 1 by omega]
            have h4_ : ∃ f9_, rfn n_.toNat n_.toNat (S_.2.2.1 172 0) (S0_.2.2.2 171 0) f9_ := by (rcases h3_ with z9_ | z9_; (refine ⟨0, Or.inl ⟨rfl, z9_.2.1, ?_⟩⟩; rw [show n_.toNat = m_.toNat by have := z9_.1; omega]; rw [show n_.toNat = m_.toNat by have := z9_.1; omega] at z9_; exact z9_.2.2); (exact ⟨1, Or.inr ⟨rfl, z9_.2⟩⟩))
            obtain ⟨f9_, h5_⟩ := h4_
            exact sw_rf gl_ g1_.2.1 (by omega) h1_ (fun z9_ => h2_ (by omega)) (fun m9_ hm9_ => hfn_ m9_ (by omega)) h5_
          · intro z9_
            by_cases n0_ : n_ = 0
            · have b9_ := rfn_b h3_; rcases h3_ with y9_ | ⟨-, p9_, t9_, y1_, -⟩; (have := y9_.2.1; rw [show n_.toNat = 0 by omega] at this; omega); (have := y1_.1; omega)
            · exact h2_ (by omega)
          · (clear h3_; omega)
        · have cx2_ : ¬ (fd_ ≠ 0) := of_decide_eq_false cx2_
          have f0_ : fd_ = 0 := by omega
          obtain ⟨y1_, y2_⟩ : S_.2.2.1 172 0 n_.toNat = 2 * ((n_.toNat : Nat) : Int) ∧ ∀ p_, p_ < m_.toNat → sPn (S_.2.2.1 172 0) n_.toNat p_ → ∀ t_, tmk (-1) t_ → ¬ lik 64 (S0_.2.2.2 171 0) n_.toNat p_ t_ := by rcases h3_ with z9_ | z9_; exact z9_.2; (exfalso; have := z9_.1; omega)
          have sfb_ : 0 ≤ S_.2.2.1 172 0 n_.toNat ∧ S_.2.2.1 172 0 n_.toNat ≤ 2025 := by omega
          refine sm_T_go 3 (c1 := (37, [some (.inr (.inr (some (13, 0)))), some (.inl n_), some (.inl fd_), some (.inl m_), none], [.inl m_, .inr (.inr (some (172, 0)))], S_)) rfl ?_
          refine sm_T_iald (n := 2048) rfl rfl (by omega) (by omega) ?_
          have bx3_ : 0 ≤ S_.2.2.1 172 0 m_.toNat ∧ S_.2.2.1 172 0 m_.toNat ≤ 2025 := hI_.2 172 0 _
          refine sm_T_go 2 (c1 := (40, [some (.inr (.inr (some (13, 0)))), some (.inl n_), some (.inl fd_), some (.inl m_), none], [.inl m_, .inl 2, .inl (S_.2.2.1 172 0 m_.toNat)], S_)) rfl ?_
          refine sm_T_bin (w := 2 * m_) rfl (bi_mul (by omega) (by omega) (by omega)) ?_
          refine sm_T_br (a := 1) (z := 12) rfl (fun cx4_ => ?_) (fun cx4_ => ?_)
          · have cx4_ : (S_.2.2.1 172 0 m_.toNat) ≠ 2 * m_ := of_decide_eq_true cx4_
            refine sm_T_go 15 (c1 := (91, [some (.inr (.inr (some (13, 0)))), some (.inl n_), some (.inl 0), some (.inl m_), some (.inl 2)], [.inl n_, .inr (.inr (some (172, 0))), .inl n_, .inr (.inr (some (172, 0)))], S_)) rfl ?_
            refine sm_T_iald (n := 2048) rfl rfl (by omega) (by omega) ?_
            have bx5_ : 0 ≤ S_.2.2.1 172 0 n_.toNat ∧ S_.2.2.1 172 0 n_.toNat ≤ 2025 := hI_.2 172 0 _
            refine sm_T_iast (n := 2048) rfl rfl (by omega) (by omega) ?_
            have hIx6_ : gi (sm_aI S_ 172 0 n_.toNat (S_.2.2.1 172 0 n_.toNat)) := gi_aI hI_ (show 0 ≤ (S_.2.2.1 172 0 n_.toNat) ∧ (S_.2.2.1 172 0 n_.toNat) ≤ 2025 from ⟨by omega, by omega⟩)
            have hFx7_ : ai_fr (sx_W vw_354) S0_ (sm_aI S_ 172 0 n_.toNat (S_.2.2.1 172 0 n_.toNat)) := ai_fr_tr hF_ (ai_fr_aI rfl)
            refine sm_T_inc (a := 3) (z := 1) (v := m_) (w := m_ + 1) rfl rfl (by omega) (by omega) (by omega) ?_
            refine sm_T_go 1 (c1 := (23, [some (.inr (.inr (some (13, 0)))), some (.inl n_), some (.inl 0), some (.inl (m_ + 1)), some (.inl 2)], [], sm_aI S_ 172 0 n_.toNat (S_.2.2.1 172 0 n_.toNat))) rfl ?_
            refine sm_T_wk [some (.inr (.inr (some (13, 0)))), some (.inl n_), some (.inl 0), some (.inl (m_ + 1)), none] (by exact ⟨rfl, rfl, rfl, rfl, trivial⟩) ?_
            refine ih_.2 n_ 0 (m_ + 1) (sm_aI S_ 172 0 n_.toNat (S_.2.2.1 172 0 n_.toNat)) hIx6_ hFx7_ ⟨?_, ?_, ?_, ?_, trivial⟩ ?_
            · (clear h3_; omega)
            · exact sw1_sf gl_ (by omega) h1_ (fun k9_ hk9_ => by rw [rd_eq, if_neg (by omega)])
            · (intro z9_; rw [rd_eq, if_neg (by omega)]; exact h2_ z9_)
            · have cg_ : ∀ k9_, k9_ < n_.toNat → ((sm_aI S_ 172 0 n_.toNat (S_.2.2.1 172 0 n_.toNat))).2.2.1 172 0 k9_ = S_.2.2.1 172 0 k9_ := fun k9_ hk9_ => by rw [rd_eq, if_neg (by omega)]
              have cn_ : ∀ w9_, w9_ < 64 → lcn (S0_.2.2.2 171 0 (64 * n_.toNat + w9_)) := rok_c (m_ := -1) (fun j9_ hj9_ => (hfn_ n_.toNat (by omega) j9_ hj9_).1)
              first   | (have c9_ : S_.2.2.1 172 0 m_.toNat ≠ 2 * m_ := (by omega); refine Or.inl ⟨rfl, by rw [rd_eq, if_pos rfl]; exact y1_, fun p9_ hp9_ hs9_ => ?_⟩; rw [sPn_sf cg_] at hs9_; by_cases z9_ : p9_ = m_.toNat; (exfalso; have := hs9_.2; rw [z9_] at this; omega); exact y2_ p9_ (by omega) hs9_)   | (rcases e47_ with ⟨a9_, b9_⟩ | ⟨a9_, b9_⟩ | ⟨a9_, b9_, d9_⟩; (first | (exfalso; omega) | (refine Or.inr ⟨rfl, m_.toNat, 0, (sPn_sf cg_).mpr ⟨by omega, by omega⟩, Or.inl rfl, lik_sy cn_ b9_, ?_⟩; rw [rd_eq, if_pos rfl, if_pos rfl]; omega)); (first | (exfalso; omega) | (refine Or.inr ⟨rfl, m_.toNat, -1, (sPn_sf cg_).mpr ⟨by omega, by omega⟩, Or.inr rfl, lik_sy cn_ b9_, ?_⟩; rw [rd_eq, if_pos rfl, if_neg (by decide)]; omega)); (first | (exfalso; omega) | (refine Or.inl ⟨rfl, by rw [rd_eq, if_pos rfl]; exact y1_, fun p9_ hp9_ hs9_ => ?_⟩; rw [sPn_sf cg_] at hs9_; by_cases z9_ : p9_ = m_.toNat; (intro t9_ u9_ v9_; rw [z9_] at v9_; have w9_ := lik_sy (rok_c (m_ := -1) (fun j9_ hj9_ => (hfn_ m_.toNat (by omega) j9_ hj9_).1)) v9_; rcases u9_ with q9_ | q9_; (rw [q9_] at w9_; exact b9_ w9_); (rw [q9_] at w9_; exact d9_ w9_)); exact y2_ p9_ (by omega) hs9_)))
            · (clear h3_; omega)
          · have cx4_ : ¬ ((S_.2.2.1 172 0 m_.toNat) ≠ 2 * m_) := of_decide_eq_false cx4_
            refine sm_T_go 3 (c1 := (47, [some (.inr (.inr (some (13, 0)))), some (.inl n_), some (.inl fd_), some (.inl m_), none], [.inl n_, .inl m_, .inr (.inr (some (13, 0)))], S_)) rfl ?_
            refine sm_T_cal (d1 := 0) (Q1 := vq_353 m_ n_ m_.toNat n_.toNat S_) rfl rfl (by decide) (vc_353 m_ n_ m_.toNat n_.toNat S_ hI_ (by omega) (by omega) (by (rw [f71_]; exact fun j9_ hj9_ => (hfn_ n_.toNat (by omega) j9_ hj9_).1))) (fun u_ Sx8_ px11_ => ?_)
            obtain ⟨rfl, vx13_, rfl, px11_⟩ := px11_
            have e47_ := px11_
            rw [f71_] at e47_
            refine sm_T_go 4 (c1 := (59, [some (.inr (.inr (some (13, 0)))), some (.inl n_), some (.inl fd_), some (.inl m_), some (.inl vx13_)], [.inl 2, .inl vx13_], S_)) rfl ?_
            refine sm_T_br (a := 3) (z := 7) rfl (fun cx14_ => ?_) (fun cx14_ => ?_)
            · have cx14_ : 2 ≤ vx13_ := of_decide_eq_true cx14_
              refine sm_T_go 10 (c1 := (91, [some (.inr (.inr (some (13, 0)))), some (.inl n_), some (.inl 0), some (.inl m_), some (.inl vx13_)], [.inl n_, .inr (.inr (some (172, 0))), .inl n_, .inr (.inr (some (172, 0)))], S_)) rfl ?_
              refine sm_T_iald (n := 2048) rfl rfl (by omega) (by omega) ?_
              have bx15_ : 0 ≤ S_.2.2.1 172 0 n_.toNat ∧ S_.2.2.1 172 0 n_.toNat ≤ 2025 := hI_.2 172 0 _
              refine sm_T_iast (n := 2048) rfl rfl (by omega) (by omega) ?_
              have hIx16_ : gi (sm_aI S_ 172 0 n_.toNat (S_.2.2.1 172 0 n_.toNat)) := gi_aI hI_ (show 0 ≤ (S_.2.2.1 172 0 n_.toNat) ∧ (S_.2.2.1 172 0 n_.toNat) ≤ 2025 from ⟨by omega, by omega⟩)
              have hFx17_ : ai_fr (sx_W vw_354) S0_ (sm_aI S_ 172 0 n_.toNat (S_.2.2.1 172 0 n_.toNat)) := ai_fr_tr hF_ (ai_fr_aI rfl)
              refine sm_T_inc (a := 3) (z := 1) (v := m_) (w := m_ + 1) rfl rfl (by omega) (by omega) (by omega) ?_
              refine sm_T_go 1 (c1 := (23, [some (.inr (.inr (some (13, 0)))), some (.inl n_), some (.inl 0), some (.inl (m_ + 1)), some (.inl vx13_)], [], sm_aI S_ 172 0 n_.toNat (S_.2.2.1 172 0 n_.toNat))) rfl ?_
              refine sm_T_wk [some (.inr (.inr (some (13, 0)))), some (.inl n_), some (.inl 0), some (.inl (m_ + 1)), none] (by exact ⟨rfl, rfl, rfl, rfl, trivial⟩) ?_
              refine ih_.2 n_ 0 (m_ + 1) (sm_aI S_ 172 0 n_.toNat (S_.2.2.1 172 0 n_.toNat)) hIx16_ hFx17_ ⟨?_, ?_, ?_, ?_, trivial⟩ ?_
              · (clear h3_; omega)
              · exact sw1_sf gl_ (by omega) h1_ (fun k9_ hk9_ => by rw [rd_eq, if_neg (by omega)])
              · (intro z9_; rw [rd_eq, if_neg (by omega)]; exact h2_ z9_)
              · have cg_ : ∀ k9_, k9_ < n_.toNat → ((sm_aI S_ 172 0 n_.toNat (S_.2.2.1 172 0 n_.toNat))).2.2.1 172 0 k9_ = S_.2.2.1 172 0 k9_ := fun k9_ hk9_ => by rw [rd_eq, if_neg (by omega)]
                have cn_ : ∀ w9_, w9_ < 64 → lcn (S0_.2.2.2 171 0 (64 * n_.toNat + w9_)) := rok_c (m_ := -1) (fun j9_ hj9_ => (hfn_ n_.toNat (by omega) j9_ hj9_).1)
                first   | (have c9_ : S_.2.2.1 172 0 m_.toNat ≠ 2 * m_ := (by omega); refine Or.inl ⟨rfl, by rw [rd_eq, if_pos rfl]; exact y1_, fun p9_ hp9_ hs9_ => ?_⟩; rw [sPn_sf cg_] at hs9_; by_cases z9_ : p9_ = m_.toNat; (exfalso; have := hs9_.2; rw [z9_] at this; omega); exact y2_ p9_ (by omega) hs9_)   | (rcases e47_ with ⟨a9_, b9_⟩ | ⟨a9_, b9_⟩ | ⟨a9_, b9_, d9_⟩; (first | (exfalso; omega) | (refine Or.inr ⟨rfl, m_.toNat, 0, (sPn_sf cg_).mpr ⟨by omega, by omega⟩, Or.inl rfl, lik_sy cn_ b9_, ?_⟩; rw [rd_eq, if_pos rfl, if_pos rfl]; omega)); (first | (exfalso; omega) | (refine Or.inr ⟨rfl, m_.toNat, -1, (sPn_sf cg_).mpr ⟨by omega, by omega⟩, Or.inr rfl, lik_sy cn_ b9_, ?_⟩; rw [rd_eq, if_pos rfl, if_neg (by decide)]; omega)); (first | (exfalso; omega) | (refine Or.inl ⟨rfl, by rw [rd_eq, if_pos rfl]; exact y1_, fun p9_ hp9_ hs9_ => ?_⟩; rw [sPn_sf cg_] at hs9_; by_cases z9_ : p9_ = m_.toNat; (intro t9_ u9_ v9_; rw [z9_] at v9_; have w9_ := lik_sy (rok_c (m_ := -1) (fun j9_ hj9_ => (hfn_ m_.toNat (by omega) j9_ hj9_).1)) v9_; rcases u9_ with q9_ | q9_; (rw [q9_] at w9_; exact b9_ w9_); (rw [q9_] at w9_; exact d9_ w9_)); exact y2_ p9_ (by omega) hs9_)))
              · (clear h3_; omega)
            · have cx14_ : ¬ (2 ≤ vx13_) := of_decide_eq_false cx14_
              refine sm_T_go 10 (c1 := (79, [some (.inr (.inr (some (13, 0)))), some (.inl n_), some (.inl 1), some (.inl m_), some (.inl vx13_)], [.inl m_, .inl 2, .inl n_, .inr (.inr (some (172, 0)))], S_)) rfl ?_
              refine sm_T_bin (w := 2 * m_) rfl (bi_mul (by omega) (by omega) (by omega)) ?_
              refine sm_T_go 1 (c1 := (82, [some (.inr (.inr (some (13, 0)))), some (.inl n_), some (.inl 1), some (.inl m_), some (.inl vx13_)], [.inl vx13_, .inl (2 * m_), .inl n_, .inr (.inr (some (172, 0)))], S_)) rfl ?_
              refine sm_T_bin (w := 2 * m_ + vx13_) rfl (bi_add (by omega) (by omega) (by omega)) ?_
              refine sm_T_go 1 (c1 := (92, [some (.inr (.inr (some (13, 0)))), some (.inl n_), some (.inl 1), some (.inl m_), some (.inl vx13_)], [.inl (2 * m_ + vx13_), .inl n_, .inr (.inr (some (172, 0)))], S_)) rfl ?_
              refine sm_T_iast (n := 2048) rfl rfl (by omega) (by omega) ?_
              have hIx18_ : gi (sm_aI S_ 172 0 n_.toNat (2 * m_ + vx13_)) := gi_aI hI_ (show 0 ≤ 2 * m_ + vx13_ ∧ 2 * m_ + vx13_ ≤ 2025 from ⟨by omega, by omega⟩)
              have hFx19_ : ai_fr (sx_W vw_354) S0_ (sm_aI S_ 172 0 n_.toNat (2 * m_ + vx13_)) := ai_fr_tr hF_ (ai_fr_aI rfl)
              refine sm_T_inc (a := 3) (z := 1) (v := m_) (w := m_ + 1) rfl rfl (by omega) (by omega) (by omega) ?_
              refine sm_T_go 1 (c1 := (23, [some (.inr (.inr (some (13, 0)))), some (.inl n_), some (.inl 1), some (.inl (m_ + 1)), some (.inl vx13_)], [], sm_aI S_ 172 0 n_.toNat (2 * m_ + vx13_))) rfl ?_
              refine sm_T_wk [some (.inr (.inr (some (13, 0)))), some (.inl n_), some (.inl 1), some (.inl (m_ + 1)), none] (by exact ⟨rfl, rfl, rfl, rfl, trivial⟩) ?_
              refine ih_.2 n_ 1 (m_ + 1) (sm_aI S_ 172 0 n_.toNat (2 * m_ + vx13_)) hIx18_ hFx19_ ⟨?_, ?_, ?_, ?_, trivial⟩ ?_
              · (clear h3_; omega)
              · exact sw1_sf gl_ (by omega) h1_ (fun k9_ hk9_ => by rw [rd_eq, if_neg (by omega)])
              · (intro z9_; rw [rd_eq, if_neg (by omega)]; exact h2_ z9_)
              · have cg_ : ∀ k9_, k9_ < n_.toNat → ((sm_aI S_ 172 0 n_.toNat (2 * m_ + vx13_))).2.2.1 172 0 k9_ = S_.2.2.1 172 0 k9_ := fun k9_ hk9_ => by rw [rd_eq, if_neg (by omega)]
                have cn_ : ∀ w9_, w9_ < 64 → lcn (S0_.2.2.2 171 0 (64 * n_.toNat + w9_)) := rok_c (m_ := -1) (fun j9_ hj9_ => (hfn_ n_.toNat (by omega) j9_ hj9_).1)
                first   | (have c9_ : S_.2.2.1 172 0 m_.toNat ≠ 2 * m_ := (by omega); refine Or.inl ⟨rfl, by rw [rd_eq, if_pos rfl]; exact y1_, fun p9_ hp9_ hs9_ => ?_⟩; rw [sPn_sf cg_] at hs9_; by_cases z9_ : p9_ = m_.toNat; (exfalso; have := hs9_.2; rw [z9_] at this; omega); exact y2_ p9_ (by omega) hs9_)   | (rcases e47_ with ⟨a9_, b9_⟩ | ⟨a9_, b9_⟩ | ⟨a9_, b9_, d9_⟩; (first | (exfalso; omega) | (refine Or.inr ⟨rfl, m_.toNat, 0, (sPn_sf cg_).mpr ⟨by omega, by omega⟩, Or.inl rfl, lik_sy cn_ b9_, ?_⟩; rw [rd_eq, if_pos rfl, if_pos rfl]; omega)); (first | (exfalso; omega) | (refine Or.inr ⟨rfl, m_.toNat, -1, (sPn_sf cg_).mpr ⟨by omega, by omega⟩, Or.inr rfl, lik_sy cn_ b9_, ?_⟩; rw [rd_eq, if_pos rfl, if_neg (by decide)]; omega)); (first | (exfalso; omega) | (refine Or.inl ⟨rfl, by rw [rd_eq, if_pos rfl]; exact y1_, fun p9_ hp9_ hs9_ => ?_⟩; rw [sPn_sf cg_] at hs9_; by_cases z9_ : p9_ = m_.toNat; (intro t9_ u9_ v9_; rw [z9_] at v9_; have w9_ := lik_sy (rok_c (m_ := -1) (fun j9_ hj9_ => (hfn_ m_.toNat (by omega) j9_ hj9_).1)) v9_; rcases u9_ with q9_ | q9_; (rw [q9_] at w9_; exact b9_ w9_); (rw [q9_] at w9_; exact d9_ w9_)); exact y2_ p9_ (by omega) hs9_)))
              · (clear h3_; omega)
set_option maxHeartbeats 3000000 in
theorem vc_354 {sc_ : Nat × (Nat → Int)} (F_ : Nat) (S0_ : sm_S) (hI_ : gi S0_) (hg_ : rgr F_ S0_) (hfn_ : ∀ m9_ : Nat, (m9_ : Int) < S0_.1 13 0 37 → srw F_ m9_ 64 (-1) (S0_.2.2.1 140 0) (S0_.2.2.1 141 0) (S0_.2.2.2 171 0)) : sm_T (mt_P sc_) 1 354 (0, [some (.inr (.inr (some (13, 0)))), none, none, none, none], [], S0_) (fun ro9_ => ∃ u_ S1_, ro9_ = (.inl u_, S1_, 0) ∧ vq_354 F_ S0_ u_ S1_) := by
  have hF_ : ai_fr (sx_W vw_354) S0_ S0_ := ai_fr_rf
  refine sm_T_go 2 (c1 := (2, [some (.inr (.inr (some (13, 0)))), some (.inl 0), none, none, none], [], S0_)) rfl ?_
  refine (vl_354 F_ S0_ hg_ hfn_ _).1 0 S0_ hI_ hF_ ⟨?_, ?_, ?_, trivial⟩ (Nat.lt_succ_self _)
  · (have g1_ := hg_.1; have g2_ := hg_.2.1; omega)
  · (intro m9_ hm9_; exact absurd hm9_ (Nat.not_lt_zero _))
  · (intro z9_; exact absurd z9_ (by decide))
end
/-! 99.zi3a -/
section
/-! the reference: what is told of a design; written by wip/p55/gen/vg -/

/-! what is_ told of_ a_ design, in the_ reference -/
/-- roots and next values are_ literals of_ the_ graph -/
def rrt (o_ : Int) (S_ : sm_S) : Prop := (0 ≤ o_ ∧ o_ ≤ 16) ∧ (0 ≤ S_.1 13 0 53 ∧ S_.1 13 0 53 ≤ 6) ∧ (∀ k_ : Nat, (k_ : Int) < o_ → 0 ≤ S_.2.2.1 175 0 k_ ∧ S_.2.2.1 175 0 k_ < 2 * S_.1 13 0 37) ∧ ∀ k_ : Nat, (k_ : Int) < S_.1 13 0 53 → 0 ≤ S_.2.2.1 151 0 k_ ∧ S_.2.2.1 151 0 k_ < 2 * S_.1 13 0 37
theorem rrt_fr {w_ : sx_Wl} {o_ : Int} {S_ S'_ : sm_S} (h_ : rrt o_ S_) (g_ : ai_fr (sx_W w_) S_ S'_) (h1_ : (sx_W w_).1 13 53 = false) (h2_ : (sx_W w_).1 13 37 = false) (h4_ : (sx_W w_).2.1 175 = false) (h5_ : (sx_W w_).2.1 151 = false) : rrt o_ S'_ := by
  unfold rrt
  rw [g_.1 13 0 53 h1_, g_.1 13 0 37 h2_, fr_arr (t := 175) g_ h4_, fr_arr (t := 151) g_ h5_]
  exact h_
theorem rsw_fr {w_ : sx_Wl} {F_ : Nat} {S_ S'_ : sm_S} (h_ : rsw F_ S_) (g_ : ai_fr (sx_W w_) S_ S'_) (h1_ : (sx_W w_).1 13 37 = false) (h2_ : (sx_W w_).2.1 140 = false) (h3_ : (sx_W w_).2.1 141 = false) (h4_ : (sx_W w_).2.1 172 = false) : rsw F_ S'_ := by
  unfold rsw
  rw [g_.1 13 0 37 h1_, fr_arr (t := 140) g_ h2_, fr_arr (t := 141) g_ h3_, fr_arr (t := 172) g_ h4_]
  exact h_
theorem rsl_n {F_ : Nat} {S_ : sm_S} {l_ : Int} (h_ : rsw F_ S_) (h0_ : 0 ≤ l_) (h1_ : l_ < 2 * S_.1 13 0 37) (h2_ : S_.1 13 0 37 ≤ 1013) : 0 ≤ i_xor (S_.2.2.1 172 0 (l_ / 2).toNat) (l_ % 2) / 2 ∧ i_xor (S_.2.2.1 172 0 (l_ / 2).toNat) (l_ % 2) / 2 ≤ l_ / 2 ∧ 0 ≤ i_xor (S_.2.2.1 172 0 (l_ / 2).toNat) (l_ % 2) ∧ i_xor (S_.2.2.1 172 0 (l_ / 2).toNat) (l_ % 2) ≤ 2025 := by
  obtain ⟨q1_, q2_, -⟩ := h_.2 (l_ / 2).toNat (by omega)
  have x_ := i_xb (x_ := S_.2.2.1 172 0 (l_ / 2).toNat) (b_ := l_ % 2) (by omega) (by omega)
  omega
/-! M_.gatherOutputs -/
def vw_357 : sx_Wl := ([], [175], [])
def vq_357 (b_ : Nat → Int) (n_ : Nat) (T_ : Nat) (tp_ : Nat) (B_ : pA) (e_ : gE) (N_ : Nat) (S0_ : sm_S) (u_ : Option sm_V) (S1_ : sm_S) : Prop := ∃ v_ : Int, u_ = some (.inl v_) ∧ gi S1_ ∧ ai_fr (sx_W vw_357) S0_ S1_ ∧ (v_ = su (t_in B_ 1 tp_) (B_.1 tp_) ∧ (∀ k9_ : Nat, (k9_ : Int) < v_ → 0 ≤ S1_.2.2.1 175 0 k9_ ∧ S1_.2.2.1 175 0 k9_ < 2 * (N_ : Int)))
set_option maxHeartbeats 1500000 in
theorem vl_357 {sc_ : Nat × (Nat → Int)} (b_ : Nat → Int) (n_ : Nat) (T_ : Nat) (tp_ : Nat) (B_ : pA) (e_ : gE) (N_ : Nat) (S0_ : sm_S) (hmo_ : (S0_.1 13 0 12) = (tp_ : Int) + 1 ∧ tp_ ≤ 15) (hre_ : re1 b_ n_ T_ B_ tp_ S0_) (hB_ : a_ok b_ n_ B_ tp_) (hsu_ : su (t_in B_ 1 tp_) (B_.1 tp_) ≤ 16) (hE_ : ∀ s9_, s9_ < 40 → rwv (S0_.2.2.1 144 0) (8 * s9_) (e_ s9_)) (hln_ : ∀ s9_, s9_ < B_.1 tp_ → B_.2.2.1 (40 * tp_ + s9_) ≠ 5 → ((e_ s9_).length : Int) = B_.2.2.2.1 (40 * tp_ + s9_)) (hlw_ : ∀ s9_, lwl N_ (e_ s9_)) : ∀ nn_ : Nat, (∀ (top_ : Int) (o_ : Int) (s_ : Int) (S_ : sm_S), gi S_ → ai_fr (sx_W vw_357) S0_ S_ → ((top_ = (tp_ : Int) ∧ 0 ≤ s_ ∧ s_ ≤ (B_.1 tp_ : Int) ∧ o_ = su (t_in B_ 1 tp_) s_.toNat) ∧ (∀ k9_ : Nat, (k9_ : Int) < o_ → 0 ≤ S_.2.2.1 175 0 k9_ ∧ S_.2.2.1 175 0 k9_ < 2 * (N_ : Int)) ∧ True) → ((20 * (50 - s_) + 10).toNat) < nn_ → sm_T (mt_P sc_) 0 357 (11, [some (.inr (.inr (some (13, 0)))), some (.inl top_), some (.inl o_), some (.inl s_), none], [], S_) (fun ro9_ => ∃ u_ S1_, ro9_ = (.inl u_, S1_, 0) ∧ vq_357 b_ n_ T_ tp_ B_ e_ N_ S0_ u_ S1_)) ∧ (∀ (top_ : Int) (o_ : Int) (s_ : Int) (k_ : Int) (S_ : sm_S), gi S_ → ai_fr (sx_W vw_357) S0_ S_ → ((top_ = (tp_ : Int) ∧ 0 ≤ s_ ∧ s_ < (B_.1 tp_ : Int) ∧ 0 ≤ k_ ∧ k_ ≤ B_.2.2.2.1 (40 * tp_ + s_.toNat) ∧ o_ = su (t_in B_ 1 tp_) s_.toNat + k_ ∧ (0 < k_ → B_.2.2.1 (40 * tp_ + s_.toNat) = 1)) ∧ (∀ k9_ : Nat, (k9_ : Int) < o_ → 0 ≤ S_.2.2.1 175 0 k9_ ∧ S_.2.2.1 175 0 k9_ < 2 * (N_ : Int)) ∧ True) → ((20 * (50 - s_) + 9 - k_).toNat) < nn_ → sm_T (mt_P sc_) 0 357 (24, [some (.inr (.inr (some (13, 0)))), some (.inl top_), some (.inl o_), some (.inl s_), some (.inl k_)], [], S_) (fun ro9_ => ∃ u_ S1_, ro9_ = (.inl u_, S1_, 0) ∧ vq_357 b_ n_ T_ tp_ B_ e_ N_ S0_ u_ S1_)) := by
  intro nn_
  induction nn_ with
  | zero => exact ⟨fun _ _ _ _ _ _ _ h_ => absurd h_ (Nat.not_lt_zero _), fun _ _ _ _ _ _ _ _ h_ => absurd h_ (Nat.not_lt_zero _)⟩
  | succ nn_ ih_ =>
    refine ⟨?_, ?_⟩
    · rintro top_ o_ s_ S_ hI_ hF_ ⟨h0_, h1_, -⟩ hm_
      have mo1_ : S_.1 13 0 12 = (tp_ : Int) + 1 := (hF_.1 13 0 12 rfl).trans hmo_.1
      have tp15_ := hmo_.2
      have B40_ := (hB_.2 tp_ (Nat.le_refl _)).1
      have cn_ : S_.2.2.1 126 0 top_.toNat = (B_.1 tp_ : Int) := by rw [fr_arr (t := 126) (i := 0) hF_ rfl, show top_.toNat = tp_ by omega]; exact hre_.1
      have cb_ := su_el (f_ := t_in B_ 1 tp_) (k_ := B_.1 tp_) (fun j_ hj_ => by have z_ := ((hB_.2 tp_ (Nat.le_refl _)).2 j_ hj_).2.2.1; unfold t_in; split <;> omega)
      have sv_ : s_ < (B_.1 tp_ : Int) → S_.2.2.1 128 0 (40 * top_ + s_).toNat = r_s2 (B_.2.2.1 (40 * tp_ + s_.toNat)) ∧ S_.2.2.1 129 0 (40 * top_ + s_).toNat = B_.2.2.2.1 (40 * tp_ + s_.toNat) ∧ (r_s2 (B_.2.2.1 (40 * tp_ + s_.toNat)) = 2 ↔ B_.2.2.1 (40 * tp_ + s_.toNat) = 1) := by intro z_; rw [fr_arr (t := 128) (i := 0) hF_ rfl, fr_arr (t := 129) (i := 0) hF_ rfl, show (40 * top_ + s_).toNat = 40 * tp_ + s_.toNat by omega]; exact ⟨(hre_.2 s_.toNat (by omega)).2.1, (hre_.2 s_.toNat (by omega)).2.2.1, by unfold r_s2; split <;> (try split) <;> omega⟩
      have s1_ : s_ < (B_.1 tp_ : Int) → su (t_in B_ 1 tp_) (s_.toNat + 1) = su (t_in B_ 1 tp_) s_.toNat + t_in B_ 1 tp_ s_.toNat ∧ su (t_in B_ 1 tp_) (s_.toNat + 1) ≤ su (t_in B_ 1 tp_) (B_.1 tp_) ∧ 0 ≤ su (t_in B_ 1 tp_) s_.toNat := fun z_ => ⟨rfl, (cb_.2.2 (s_.toNat + 1) (by omega)).2, (cb_.2.2 s_.toNat (by omega)).1⟩
      have f44_ : S_.2.2.1 144 0 = S0_.2.2.1 144 0 := fr_arr hF_ rfl
      have a40_ : a_ok b_ n_ B_ tp_ := hB_
      refine sm_T_go 4 (c1 := (17, [some (.inr (.inr (some (13, 0)))), some (.inl top_), some (.inl o_), some (.inl s_), none], [.inl top_, .inr (.inr (some (126, 0))), .inl s_], S_)) rfl ?_
      refine sm_T_iald (n := 16) rfl rfl (by omega) (by omega) ?_
      have bx1_ : 0 ≤ S_.2.2.1 126 0 top_.toNat ∧ S_.2.2.1 126 0 top_.toNat ≤ 40 := hI_.2 126 0 _
      refine sm_T_br (a := 3) (z := 70) rfl (fun cx2_ => ?_) (fun cx2_ => ?_)
      · have cx2_ : (S_.2.2.1 126 0 top_.toNat) ≤ s_ := of_decide_eq_true cx2_
        refine sm_T_go 1 (c1 := (89, [some (.inr (.inr (some (13, 0)))), some (.inl top_), some (.inl o_), some (.inl s_), none], [.inl o_], S_)) rfl ?_
        refine sm_T_ri rfl ⟨_, _, rfl, _, rfl, hI_, hF_, ?_⟩
        have se_ : s_.toNat = B_.1 tp_ := by omega
        rw [se_] at h0_
        refine ⟨h0_.2.2.2, fun k9_ hk9_ => h1_ k9_ ?_⟩
        omega
      · have cx2_ : ¬ ((S_.2.2.1 126 0 top_.toNat) ≤ s_) := of_decide_eq_false cx2_
        obtain ⟨sv1_, sv2_, sv3_⟩ := sv_ (by omega)
        have s2_ := s1_ (by omega)
        have wb_ := ((hB_.2 tp_ (Nat.le_refl _)).2 s_.toNat (by omega)).2.2.1
        refine sm_T_go 2 (c1 := (24, [some (.inr (.inr (some (13, 0)))), some (.inl top_), some (.inl o_), some (.inl s_), some (.inl 0)], [], S_)) rfl ?_
        refine ih_.2 top_ o_ s_ 0 S_ hI_ hF_ ⟨?_, ?_, trivial⟩ ?_
        · omega
        · exact h1_
        · omega
    · rintro top_ o_ s_ k_ S_ hI_ hF_ ⟨h0_, h1_, -⟩ hm_
      have mo1_ : S_.1 13 0 12 = (tp_ : Int) + 1 := (hF_.1 13 0 12 rfl).trans hmo_.1
      have tp15_ := hmo_.2
      have B40_ := (hB_.2 tp_ (Nat.le_refl _)).1
      have cn_ : S_.2.2.1 126 0 top_.toNat = (B_.1 tp_ : Int) := by rw [fr_arr (t := 126) (i := 0) hF_ rfl, show top_.toNat = tp_ by omega]; exact hre_.1
      have cb_ := su_el (f_ := t_in B_ 1 tp_) (k_ := B_.1 tp_) (fun j_ hj_ => by have z_ := ((hB_.2 tp_ (Nat.le_refl _)).2 j_ hj_).2.2.1; unfold t_in; split <;> omega)
      have sv_ : s_ < (B_.1 tp_ : Int) → S_.2.2.1 128 0 (40 * top_ + s_).toNat = r_s2 (B_.2.2.1 (40 * tp_ + s_.toNat)) ∧ S_.2.2.1 129 0 (40 * top_ + s_).toNat = B_.2.2.2.1 (40 * tp_ + s_.toNat) ∧ (r_s2 (B_.2.2.1 (40 * tp_ + s_.toNat)) = 2 ↔ B_.2.2.1 (40 * tp_ + s_.toNat) = 1) := by intro z_; rw [fr_arr (t := 128) (i := 0) hF_ rfl, fr_arr (t := 129) (i := 0) hF_ rfl, show (40 * top_ + s_).toNat = 40 * tp_ + s_.toNat by omega]; exact ⟨(hre_.2 s_.toNat (by omega)).2.1, (hre_.2 s_.toNat (by omega)).2.2.1, by unfold r_s2; split <;> (try split) <;> omega⟩
      have s1_ : s_ < (B_.1 tp_ : Int) → su (t_in B_ 1 tp_) (s_.toNat + 1) = su (t_in B_ 1 tp_) s_.toNat + t_in B_ 1 tp_ s_.toNat ∧ su (t_in B_ 1 tp_) (s_.toNat + 1) ≤ su (t_in B_ 1 tp_) (B_.1 tp_) ∧ 0 ≤ su (t_in B_ 1 tp_) s_.toNat := fun z_ => ⟨rfl, (cb_.2.2 (s_.toNat + 1) (by omega)).2, (cb_.2.2 s_.toNat (by omega)).1⟩
      have f44_ : S_.2.2.1 144 0 = S0_.2.2.1 144 0 := fr_arr hF_ rfl
      have a40_ : a_ok b_ n_ B_ tp_ := hB_
      obtain ⟨sv1_, sv2_, sv3_⟩ := sv_ (by omega)
      have s2_ := s1_ (by omega)
      have wb_ := ((hB_.2 tp_ (Nat.le_refl _)).2 s_.toNat (by omega)).2.2.1
      refine sm_T_go 5 (c1 := (33, [some (.inr (.inr (some (13, 0)))), some (.inl top_), some (.inl o_), some (.inl s_), some (.inl k_)], [.inl top_, .inl 40, .inr (.inr (some (129, 0))), .inl k_], S_)) rfl ?_
      refine sm_T_bin (w := 40 * top_) rfl (bi_mul (by omega) (by omega) (by omega)) ?_
      refine sm_T_go 1 (c1 := (35, [some (.inr (.inr (some (13, 0)))), some (.inl top_), some (.inl o_), some (.inl s_), some (.inl k_)], [.inl s_, .inl (40 * top_), .inr (.inr (some (129, 0))), .inl k_], S_)) rfl ?_
      refine sm_T_bin (w := 40 * top_ + s_) rfl (bi_add (by omega) (by omega) (by omega)) ?_
      refine sm_T_iald (n := 640) rfl rfl (by omega) (by omega) ?_
      have bx1_ : 0 ≤ S_.2.2.1 129 0 (40 * top_ + s_).toNat ∧ S_.2.2.1 129 0 (40 * top_ + s_).toNat ≤ 8 := hI_.2 129 0 _
      refine sm_T_br (a := 3) (z := 45) rfl (fun cx2_ => ?_) (fun cx2_ => ?_)
      · have cx2_ : (S_.2.2.1 129 0 (40 * top_ + s_).toNat) ≤ k_ := of_decide_eq_true cx2_
        refine sm_T_inc (a := 3) (z := 1) (v := s_) (w := s_ + 1) rfl rfl (by omega) (by omega) (by omega) ?_
        refine sm_T_go 1 (c1 := (11, [some (.inr (.inr (some (13, 0)))), some (.inl top_), some (.inl o_), some (.inl (s_ + 1)), some (.inl k_)], [], S_)) rfl ?_
        refine sm_T_wk [some (.inr (.inr (some (13, 0)))), some (.inl top_), some (.inl o_), some (.inl (s_ + 1)), none] (by exact ⟨rfl, rfl, rfl, rfl, trivial⟩) ?_
        refine ih_.1 top_ o_ (s_ + 1) S_ hI_ hF_ ⟨?_, ?_, trivial⟩ ?_
        · have t9_ : t_in B_ 1 tp_ s_.toNat = k_ := by unfold t_in; split <;> omega
          rw [show (s_ + 1).toNat = s_.toNat + 1 by omega]
          omega
        · exact h1_
        · omega
      · have cx2_ : ¬ ((S_.2.2.1 129 0 (40 * top_ + s_).toNat) ≤ k_) := of_decide_eq_false cx2_
        refine sm_T_go 4 (c1 := (47, [some (.inr (.inr (some (13, 0)))), some (.inl top_), some (.inl o_), some (.inl s_), some (.inl k_)], [.inl top_, .inl 40, .inr (.inr (some (128, 0)))], S_)) rfl ?_
        refine sm_T_bin (w := 40 * top_) rfl (bi_mul (by omega) (by omega) (by omega)) ?_
        refine sm_T_go 1 (c1 := (49, [some (.inr (.inr (some (13, 0)))), some (.inl top_), some (.inl o_), some (.inl s_), some (.inl k_)], [.inl s_, .inl (40 * top_), .inr (.inr (some (128, 0)))], S_)) rfl ?_
        refine sm_T_bin (w := 40 * top_ + s_) rfl (bi_add (by omega) (by omega) (by omega)) ?_
        refine sm_T_iald (n := 640) rfl rfl (by omega) (by omega) ?_
        have bx3_ : 0 ≤ S_.2.2.1 128 0 (40 * top_ + s_).toNat ∧ S_.2.2.1 128 0 (40 * top_ + s_).toNat ≤ 5 := hI_.2 128 0 _
        refine sm_T_go 1 (c1 := (52, [some (.inr (.inr (some (13, 0)))), some (.inl top_), some (.inl o_), some (.inl s_), some (.inl k_)], [.inl 2, .inl (S_.2.2.1 128 0 (40 * top_ + s_).toNat)], S_)) rfl ?_
        refine sm_T_br (a := 1) (z := 30) rfl (fun cx4_ => ?_) (fun cx4_ => ?_)
        · have cx4_ : (S_.2.2.1 128 0 (40 * top_ + s_).toNat) ≠ 2 := of_decide_eq_true cx4_
          refine sm_T_inc (a := 3) (z := 1) (v := s_) (w := s_ + 1) rfl rfl (by omega) (by omega) (by omega) ?_
          refine sm_T_go 1 (c1 := (11, [some (.inr (.inr (some (13, 0)))), some (.inl top_), some (.inl o_), some (.inl (s_ + 1)), some (.inl k_)], [], S_)) rfl ?_
          refine sm_T_wk [some (.inr (.inr (some (13, 0)))), some (.inl top_), some (.inl o_), some (.inl (s_ + 1)), none] (by exact ⟨rfl, rfl, rfl, rfl, trivial⟩) ?_
          refine ih_.1 top_ o_ (s_ + 1) S_ hI_ hF_ ⟨?_, ?_, trivial⟩ ?_
          · have t9_ : t_in B_ 1 tp_ s_.toNat = k_ := by unfold t_in; split <;> omega
            rw [show (s_ + 1).toNat = s_.toNat + 1 by omega]
            omega
          · exact h1_
          · omega
        · have cx4_ : ¬ ((S_.2.2.1 128 0 (40 * top_ + s_).toNat) ≠ 2) := of_decide_eq_false cx4_
          have k1_ : B_.2.2.1 (40 * tp_ + s_.toNat) = 1 := sv3_.mp (by rw [← sv1_]; omega)
          have t9_ : t_in B_ 1 tp_ s_.toNat = B_.2.2.2.1 (40 * tp_ + s_.toNat) := by unfold t_in; rw [if_pos k1_]
          have ln9_ := hln_ s_.toNat (by omega) (by omega)
          have e9_ := rwv_lz (hE_ s_.toNat (by omega)) (hlw_ s_.toNat) (k_ := k_.toNat) (by omega)
          rw [← f44_, show 8 * s_.toNat + k_.toNat = (8 * s_ + k_).toNat by omega] at e9_
          have cp9_ : S_.2.2.1 144 0 (8 * s_ + k_).toNat ≤ 2047 := (hI_.2 144 0 _).2
          refine sm_T_go 7 (c1 := (67, [some (.inr (.inr (some (13, 0)))), some (.inl top_), some (.inl o_), some (.inl s_), some (.inl k_)], [.inl s_, .inl 8, .inr (.inr (some (144, 0))), .inl o_, .inr (.inr (some (175, 0)))], S_)) rfl ?_
          refine sm_T_bin (w := 8 * s_) rfl (bi_mul (by omega) (by omega) (by omega)) ?_
          refine sm_T_go 1 (c1 := (70, [some (.inr (.inr (some (13, 0)))), some (.inl top_), some (.inl o_), some (.inl s_), some (.inl k_)], [.inl k_, .inl (8 * s_), .inr (.inr (some (144, 0))), .inl o_, .inr (.inr (some (175, 0)))], S_)) rfl ?_
          refine sm_T_bin (w := 8 * s_ + k_) rfl (bi_add (by omega) (by omega) (by omega)) ?_
          refine sm_T_iald (n := 5120) rfl rfl (by omega) (by omega) ?_
          have bx5_ : 0 ≤ S_.2.2.1 144 0 (8 * s_ + k_).toNat ∧ S_.2.2.1 144 0 (8 * s_ + k_).toNat ≤ 2047 := hI_.2 144 0 _
          refine sm_T_iast (n := 16) rfl rfl (by omega) (by omega) ?_
          have hIx6_ : gi (sm_aI S_ 175 0 o_.toNat (S_.2.2.1 144 0 (8 * s_ + k_).toNat)) := gi_aI hI_ (show 0 ≤ (S_.2.2.1 144 0 (8 * s_ + k_).toNat) ∧ (S_.2.2.1 144 0 (8 * s_ + k_).toNat) ≤ 2047 from ⟨by omega, by omega⟩)
          have hFx7_ : ai_fr (sx_W vw_357) S0_ (sm_aI S_ 175 0 o_.toNat (S_.2.2.1 144 0 (8 * s_ + k_).toNat)) := ai_fr_tr hF_ (ai_fr_aI rfl)
          refine sm_T_inc (a := 2) (z := 1) (v := o_) (w := o_ + 1) rfl rfl (by omega) (by omega) (by omega) ?_
          refine sm_T_inc (a := 4) (z := 1) (v := k_) (w := k_ + 1) rfl rfl (by omega) (by omega) (by omega) ?_
          refine sm_T_go 1 (c1 := (24, [some (.inr (.inr (some (13, 0)))), some (.inl top_), some (.inl (o_ + 1)), some (.inl s_), some (.inl (k_ + 1))], [], sm_aI S_ 175 0 o_.toNat (S_.2.2.1 144 0 (8 * s_ + k_).toNat))) rfl ?_
          refine ih_.2 top_ (o_ + 1) s_ (k_ + 1) (sm_aI S_ 175 0 o_.toNat (S_.2.2.1 144 0 (8 * s_ + k_).toNat)) hIx6_ hFx7_ ⟨?_, ?_, trivial⟩ ?_
          · omega
          · intro k9_ hk9_
            rw [rd_eq]
            by_cases z9_ : (k9_ : Int) = o_
            · rw [if_pos (by omega)]; exact e9_
            · rw [if_neg (by omega)]; exact h1_ k9_ (by omega)
          · omega
set_option maxHeartbeats 1500000 in
theorem vc_357 {sc_ : Nat × (Nat → Int)} (b_ : Nat → Int) (n_ : Nat) (T_ : Nat) (tp_ : Nat) (B_ : pA) (e_ : gE) (N_ : Nat) (S0_ : sm_S) (hI_ : gi S0_) (hmo_ : (S0_.1 13 0 12) = (tp_ : Int) + 1 ∧ tp_ ≤ 15) (hre_ : re1 b_ n_ T_ B_ tp_ S0_) (hB_ : a_ok b_ n_ B_ tp_) (hsu_ : su (t_in B_ 1 tp_) (B_.1 tp_) ≤ 16) (hE_ : ∀ s9_, s9_ < 40 → rwv (S0_.2.2.1 144 0) (8 * s9_) (e_ s9_)) (hln_ : ∀ s9_, s9_ < B_.1 tp_ → B_.2.2.1 (40 * tp_ + s9_) ≠ 5 → ((e_ s9_).length : Int) = B_.2.2.2.1 (40 * tp_ + s9_)) (hlw_ : ∀ s9_, lwl N_ (e_ s9_)) : sm_T (mt_P sc_) 0 357 (0, [some (.inr (.inr (some (13, 0)))), none, none, none, none], [], S0_) (fun ro9_ => ∃ u_ S1_, ro9_ = (.inl u_, S1_, 0) ∧ vq_357 b_ n_ T_ tp_ B_ e_ N_ S0_ u_ S1_) := by
  have hF_ : ai_fr (sx_W vw_357) S0_ S0_ := ai_fr_rf
  have bx1_ : 0 ≤ S0_.1 13 0 12 ∧ S0_.1 13 0 12 ≤ 16 := hI_.1 13 0 12 rfl
  refine sm_T_go 3 (c1 := (5, [some (.inr (.inr (some (13, 0)))), none, none, none, none], [.inl 1, .inl (S0_.1 13 0 12)], S0_)) rfl ?_
  refine sm_T_bin (w := (S0_.1 13 0 12) - 1) rfl (bi_sub (by omega) (by omega) (by omega)) ?_
  refine sm_T_go 5 (c1 := (11, [some (.inr (.inr (some (13, 0)))), some (.inl ((S0_.1 13 0 12) - 1)), some (.inl 0), some (.inl 0), none], [], S0_)) rfl ?_
  refine (vl_357 b_ n_ T_ tp_ B_ e_ N_ S0_ hmo_ hre_ hB_ hsu_ hE_ hln_ hlw_ _).1 ((S0_.1 13 0 12) - 1) 0 0 S0_ hI_ hF_ ⟨?_, ?_, trivial⟩ (Nat.lt_succ_self _)
  · exact ⟨by omega, by decide, by omega, rfl⟩
  · (intro k9_ hk9_; omega)
end
/-! 99.zi3b -/
section
/-! M_.greatestDepth -/
def vw_358 : sx_Wl := ([], [174], [])
def vq_358 (o_ : Int) (F_ : Nat) (S0_ : sm_S) (u_ : Option sm_V) (S1_ : sm_S) : Prop := ∃ v_ : Int, u_ = some (.inl v_) ∧ gi S1_ ∧ ai_fr (sx_W vw_358) S0_ S1_ ∧ (0 ≤ v_ ∧ v_ ≤ 1000)
set_option maxHeartbeats 2000000 in
set_option maxRecDepth 20000 in
theorem vl_358 {sc_ : Nat × (Nat → Int)} (o_ : Int) (F_ : Nat) (S0_ : sm_S) (hg_ : rgr F_ S0_) (hr_ : rrt o_ S0_) : ∀ nn_ : Nat, (∀ (n_ : Int) (S_ : sm_S), gi S_ → ai_fr (sx_W vw_358) S0_ S_ → ((0 ≤ n_ ∧ n_ ≤ S0_.1 13 0 37) ∧ (∀ k9_ : Nat, (k9_ : Int) < n_ → 0 ≤ S_.2.2.1 174 0 k9_ ∧ S_.2.2.1 174 0 k9_ ≤ (if k9_ < F_ then 0 else (k9_ : Int) - F_ + 1)) ∧ True) → ((5000 - n_).toNat) < nn_ → sm_T (mt_P sc_) 0 358 (2, [some (.inr (.inr (some (13, 0)))), some (.inl o_), some (.inl n_), none, none], [], S_) (fun ro9_ => ∃ u_ S1_, ro9_ = (.inl u_, S1_, 0) ∧ vq_358 o_ F_ S0_ u_ S1_)) ∧ (∀ (md_ : Int) (k_ : Int) (S_ : sm_S), gi S_ → ai_fr (sx_W vw_358) S0_ S_ → ((0 ≤ k_ ∧ k_ ≤ 16 ∧ 0 ≤ md_ ∧ md_ ≤ 1000) ∧ (∀ k9_ : Nat, (k9_ : Int) < S0_.1 13 0 37 → 0 ≤ S_.2.2.1 174 0 k9_ ∧ S_.2.2.1 174 0 k9_ ≤ 1000) ∧ True) → ((2000 - k_).toNat) < nn_ → sm_T (mt_P sc_) 0 358 (105, [some (.inr (.inr (some (13, 0)))), some (.inl o_), some (.inl md_), some (.inl k_), none], [], S_) (fun ro9_ => ∃ u_ S1_, ro9_ = (.inl u_, S1_, 0) ∧ vq_358 o_ F_ S0_ u_ S1_)) ∧ (∀ (md_ : Int) (k_ : Int) (S_ : sm_S), gi S_ → ai_fr (sx_W vw_358) S0_ S_ → ((0 ≤ k_ ∧ 0 ≤ md_ ∧ md_ ≤ 1000) ∧ (∀ k9_ : Nat, (k9_ : Int) < S0_.1 13 0 37 → 0 ≤ S_.2.2.1 174 0 k9_ ∧ S_.2.2.1 174 0 k9_ ≤ 1000) ∧ True) → ((1000 - k_).toNat) < nn_ → sm_T (mt_P sc_) 0 358 (153, [some (.inr (.inr (some (13, 0)))), some (.inl o_), some (.inl md_), some (.inl k_), none], [], S_) (fun ro9_ => ∃ u_ S1_, ro9_ = (.inl u_, S1_, 0) ∧ vq_358 o_ F_ S0_ u_ S1_)) := by
  intro nn_
  induction nn_ with
  | zero => exact ⟨fun _ _ _ _ _ h_ => absurd h_ (Nat.not_lt_zero _), fun _ _ _ _ _ _ h_ => absurd h_ (Nat.not_lt_zero _), fun _ _ _ _ _ _ h_ => absurd h_ (Nat.not_lt_zero _)⟩
  | succ nn_ ih_ =>
    refine ⟨?_, ?_, ?_⟩
    · rintro n_ S_ hI_ hF_ ⟨h0_, h1_, -⟩ hm_
      have g1_ := hg_.1
      have g2_ := hg_.2.1
      have e37_ : S_.1 13 0 37 = S0_.1 13 0 37 := hF_.1 13 0 37 rfl
      have e38_ : S_.1 13 0 38 = S0_.1 13 0 38 := hF_.1 13 0 38 rfl
      have e53_ : S_.1 13 0 53 = S0_.1 13 0 53 := hF_.1 13 0 53 rfl
      have f40_ : S_.2.2.1 140 0 = S0_.2.2.1 140 0 := fr_arr hF_ rfl
      have f41_ : S_.2.2.1 141 0 = S0_.2.2.1 141 0 := fr_arr hF_ rfl
      have r1_ := hr_.1
      have r2_ := hr_.2.1
      have f75_ : S_.2.2.1 175 0 = S0_.2.2.1 175 0 := fr_arr hF_ rfl
      have f51_ : S_.2.2.1 151 0 = S0_.2.2.1 151 0 := fr_arr hF_ rfl
      have bx1_ : 0 ≤ S_.1 13 0 37 ∧ S_.1 13 0 37 ≤ 1014 := hI_.1 13 0 37 rfl
      refine sm_T_go 3 (c1 := (7, [some (.inr (.inr (some (13, 0)))), some (.inl o_), some (.inl n_), none, none], [.inl (S_.1 13 0 37), .inl n_], S_)) rfl ?_
      refine sm_T_br (a := 3) (z := 94) rfl (fun cx2_ => ?_) (fun cx2_ => ?_)
      · have cx2_ : (S_.1 13 0 37) ≤ n_ := of_decide_eq_true cx2_
        refine sm_T_go 4 (c1 := (105, [some (.inr (.inr (some (13, 0)))), some (.inl o_), some (.inl 0), some (.inl 0), none], [], S_)) rfl ?_
        refine ih_.2.1 0 0 S_ hI_ hF_ ⟨?_, ?_, trivial⟩ ?_
        · omega
        · intro k9_ hk9_
          have w9_ := h1_ k9_ (by omega)
          refine ⟨w9_.1, ?_⟩
          have w8_ := w9_.2
          split at w8_ <;> omega
        · omega
      · have cx2_ : ¬ ((S_.1 13 0 37) ≤ n_) := of_decide_eq_false cx2_
        have bx3_ : 0 ≤ S_.1 13 0 38 ∧ S_.1 13 0 38 ≤ 19 := hI_.1 13 0 38 rfl
        refine sm_T_go 3 (c1 := (15, [some (.inr (.inr (some (13, 0)))), some (.inl o_), some (.inl n_), none, none], [.inl (S_.1 13 0 38), .inl n_], S_)) rfl ?_
        refine sm_T_br (a := 3) (z := 7) rfl (fun cx4_ => ?_) (fun cx4_ => ?_)
        · have cx4_ : (S_.1 13 0 38) ≤ n_ := of_decide_eq_true cx4_
          have gn_ := hg_.2.2 n_.toNat (by omega) (by omega)
          rw [← f40_, ← f41_] at gn_
          have lo_ := h1_ (S_.2.2.1 140 0 n_.toNat / 2).toNat (by omega)
          have hi_ := h1_ (S_.2.2.1 141 0 n_.toNat / 2).toNat (by omega)
          refine sm_T_go 5 (c1 := (31, [some (.inr (.inr (some (13, 0)))), some (.inl o_), some (.inl n_), none, none], [.inl n_, .inr (.inr (some (140, 0))), .inr (.inr (some (174, 0)))], S_)) rfl ?_
          refine sm_T_iald (n := 2048) rfl rfl (by omega) (by omega) ?_
          have bx5_ : 0 ≤ S_.2.2.1 140 0 n_.toNat ∧ S_.2.2.1 140 0 n_.toNat ≤ 2047 := hI_.2 140 0 _
          refine sm_T_go 1 (c1 := (33, [some (.inr (.inr (some (13, 0)))), some (.inl o_), some (.inl n_), none, none], [.inl 1, .inl (S_.2.2.1 140 0 n_.toNat), .inr (.inr (some (174, 0)))], S_)) rfl ?_
          refine sm_T_bin (w := ((S_.2.2.1 140 0 n_.toNat) / 2)) rfl (bi_shr (k := 1) (by decide) (by omega) (by omega)) ?_
          refine sm_T_iald (n := 2048) rfl rfl (by omega) (by omega) ?_
          have bx6_ : 0 ≤ S_.2.2.1 174 0 ((S_.2.2.1 140 0 n_.toNat) / 2).toNat ∧ S_.2.2.1 174 0 ((S_.2.2.1 140 0 n_.toNat) / 2).toNat ≤ 1000 := hI_.2 174 0 _
          refine sm_T_go 4 (c1 := (41, [some (.inr (.inr (some (13, 0)))), some (.inl o_), some (.inl n_), some (.inl (S_.2.2.1 174 0 ((S_.2.2.1 140 0 n_.toNat) / 2).toNat)), none], [.inl (S_.1 13 0 38), .inl n_], S_)) rfl ?_
          refine sm_T_br (a := 3) (z := 7) rfl (fun cx7_ => ?_) (fun cx7_ => ?_)
          · have cx7_ : (S_.1 13 0 38) ≤ n_ := of_decide_eq_true cx7_
            refine sm_T_go 5 (c1 := (57, [some (.inr (.inr (some (13, 0)))), some (.inl o_), some (.inl n_), some (.inl (S_.2.2.1 174 0 ((S_.2.2.1 140 0 n_.toNat) / 2).toNat)), none], [.inl n_, .inr (.inr (some (141, 0))), .inr (.inr (some (174, 0)))], S_)) rfl ?_
            refine sm_T_iald (n := 2048) rfl rfl (by omega) (by omega) ?_
            have bx8_ : 0 ≤ S_.2.2.1 141 0 n_.toNat ∧ S_.2.2.1 141 0 n_.toNat ≤ 2047 := hI_.2 141 0 _
            refine sm_T_go 1 (c1 := (59, [some (.inr (.inr (some (13, 0)))), some (.inl o_), some (.inl n_), some (.inl (S_.2.2.1 174 0 ((S_.2.2.1 140 0 n_.toNat) / 2).toNat)), none], [.inl 1, .inl (S_.2.2.1 141 0 n_.toNat), .inr (.inr (some (174, 0)))], S_)) rfl ?_
            refine sm_T_bin (w := ((S_.2.2.1 141 0 n_.toNat) / 2)) rfl (bi_shr (k := 1) (by decide) (by omega) (by omega)) ?_
            refine sm_T_iald (n := 2048) rfl rfl (by omega) (by omega) ?_
            have bx9_ : 0 ≤ S_.2.2.1 174 0 ((S_.2.2.1 141 0 n_.toNat) / 2).toNat ∧ S_.2.2.1 174 0 ((S_.2.2.1 141 0 n_.toNat) / 2).toNat ≤ 1000 := hI_.2 174 0 _
            refine sm_T_go 7 (c1 := (73, [some (.inr (.inr (some (13, 0)))), some (.inl o_), some (.inl n_), some (.inl (S_.2.2.1 174 0 ((S_.2.2.1 140 0 n_.toNat) / 2).toNat)), some (.inl (S_.2.2.1 174 0 ((S_.2.2.1 141 0 n_.toNat) / 2).toNat))], [.inl (S_.1 13 0 38), .inl n_, .inl n_, .inr (.inr (some (174, 0)))], S_)) rfl ?_
            refine sm_T_br (a := 3) (z := 7) rfl (fun cx10_ => ?_) (fun cx10_ => ?_)
            · have cx10_ : (S_.1 13 0 38) ≤ n_ := of_decide_eq_true cx10_
              refine sm_T_go 3 (c1 := (84, [some (.inr (.inr (some (13, 0)))), some (.inl o_), some (.inl n_), some (.inl (S_.2.2.1 174 0 ((S_.2.2.1 140 0 n_.toNat) / 2).toNat)), some (.inl (S_.2.2.1 174 0 ((S_.2.2.1 141 0 n_.toNat) / 2).toNat))], [.inl (S_.2.2.1 174 0 ((S_.2.2.1 141 0 n_.toNat) / 2).toNat), .inl (S_.2.2.1 174 0 ((S_.2.2.1 140 0 n_.toNat) / 2).toNat), .inl 1, .inl n_, .inr (.inr (some (174, 0)))], S_)) rfl ?_
              refine sm_T_br (a := 5) (z := 7) rfl (fun cx11_ => ?_) (fun cx11_ => ?_)
              · have cx11_ : (S_.2.2.1 174 0 ((S_.2.2.1 140 0 n_.toNat) / 2).toNat) ≤ (S_.2.2.1 174 0 ((S_.2.2.1 141 0 n_.toNat) / 2).toNat) := of_decide_eq_true cx11_
                refine sm_T_go 1 (c1 := (93, [some (.inr (.inr (some (13, 0)))), some (.inl o_), some (.inl n_), some (.inl (S_.2.2.1 174 0 ((S_.2.2.1 140 0 n_.toNat) / 2).toNat)), some (.inl (S_.2.2.1 174 0 ((S_.2.2.1 141 0 n_.toNat) / 2).toNat))], [.inl (S_.2.2.1 174 0 ((S_.2.2.1 141 0 n_.toNat) / 2).toNat), .inl 1, .inl n_, .inr (.inr (some (174, 0)))], S_)) rfl ?_
                refine sm_T_bin (w := (S_.2.2.1 174 0 ((S_.2.2.1 141 0 n_.toNat) / 2).toNat) + 1) rfl (bi_add (by omega) (by omega) (by omega)) ?_
                refine sm_T_iast (n := 2048) rfl rfl (by omega) (by omega) ?_
                have hIx12_ : gi (sm_aI S_ 174 0 n_.toNat ((S_.2.2.1 174 0 ((S_.2.2.1 141 0 n_.toNat) / 2).toNat) + 1)) := gi_aI hI_ (show 0 ≤ (S_.2.2.1 174 0 ((S_.2.2.1 141 0 n_.toNat) / 2).toNat) + 1 ∧ (S_.2.2.1 174 0 ((S_.2.2.1 141 0 n_.toNat) / 2).toNat) + 1 ≤ 1000 from ⟨by omega, by omega⟩)
                have hFx13_ : ai_fr (sx_W vw_358) S0_ (sm_aI S_ 174 0 n_.toNat ((S_.2.2.1 174 0 ((S_.2.2.1 141 0 n_.toNat) / 2).toNat) + 1)) := ai_fr_tr hF_ (ai_fr_aI rfl)
                refine sm_T_inc (a := 2) (z := 1) (v := n_) (w := n_ + 1) rfl rfl (by omega) (by omega) (by omega) ?_
                refine sm_T_go 1 (c1 := (2, [some (.inr (.inr (some (13, 0)))), some (.inl o_), some (.inl (n_ + 1)), some (.inl (S_.2.2.1 174 0 ((S_.2.2.1 140 0 n_.toNat) / 2).toNat)), some (.inl (S_.2.2.1 174 0 ((S_.2.2.1 141 0 n_.toNat) / 2).toNat))], [], sm_aI S_ 174 0 n_.toNat ((S_.2.2.1 174 0 ((S_.2.2.1 141 0 n_.toNat) / 2).toNat) + 1))) rfl ?_
                refine sm_T_wk [some (.inr (.inr (some (13, 0)))), some (.inl o_), some (.inl (n_ + 1)), none, none] (by exact ⟨rfl, rfl, rfl, trivial⟩) ?_
                refine ih_.1 (n_ + 1) (sm_aI S_ 174 0 n_.toNat ((S_.2.2.1 174 0 ((S_.2.2.1 141 0 n_.toNat) / 2).toNat) + 1)) hIx12_ hFx13_ ⟨?_, ?_, trivial⟩ ?_
                · omega
                · intro k9_ hk9_
                  rw [rd_eq]
                  by_cases z9_ : k9_ = n_.toNat
                  · rw [if_pos z9_]; first | (have lt9_ : n_ < (F_ : Int) := (by omega); rw [if_pos (by omega)]; omega) | (have ge9_ : (F_ : Int) ≤ n_ := (by omega); rw [if_neg (by omega)]; split at lo_ <;> split at hi_ <;> omega)
                  · rw [if_neg z9_]; exact h1_ k9_ (by omega)
                · omega
              · have cx11_ : ¬ ((S_.2.2.1 174 0 ((S_.2.2.1 140 0 n_.toNat) / 2).toNat) ≤ (S_.2.2.1 174 0 ((S_.2.2.1 141 0 n_.toNat) / 2).toNat)) := of_decide_eq_false cx11_
                refine sm_T_go 2 (c1 := (93, [some (.inr (.inr (some (13, 0)))), some (.inl o_), some (.inl n_), some (.inl (S_.2.2.1 174 0 ((S_.2.2.1 140 0 n_.toNat) / 2).toNat)), some (.inl (S_.2.2.1 174 0 ((S_.2.2.1 141 0 n_.toNat) / 2).toNat))], [.inl (S_.2.2.1 174 0 ((S_.2.2.1 140 0 n_.toNat) / 2).toNat), .inl 1, .inl n_, .inr (.inr (some (174, 0)))], S_)) rfl ?_
                refine sm_T_bin (w := (S_.2.2.1 174 0 ((S_.2.2.1 140 0 n_.toNat) / 2).toNat) + 1) rfl (bi_add (by omega) (by omega) (by omega)) ?_
                refine sm_T_iast (n := 2048) rfl rfl (by omega) (by omega) ?_
                have hIx14_ : gi (sm_aI S_ 174 0 n_.toNat ((S_.2.2.1 174 0 ((S_.2.2.1 140 0 n_.toNat) / 2).toNat) + 1)) := gi_aI hI_ (show 0 ≤ (S_.2.2.1 174 0 ((S_.2.2.1 140 0 n_.toNat) / 2).toNat) + 1 ∧ (S_.2.2.1 174 0 ((S_.2.2.1 140 0 n_.toNat) / 2).toNat) + 1 ≤ 1000 from ⟨by omega, by omega⟩)
                have hFx15_ : ai_fr (sx_W vw_358) S0_ (sm_aI S_ 174 0 n_.toNat ((S_.2.2.1 174 0 ((S_.2.2.1 140 0 n_.toNat) / 2).toNat) + 1)) := ai_fr_tr hF_ (ai_fr_aI rfl)
                refine sm_T_inc (a := 2) (z := 1) (v := n_) (w := n_ + 1) rfl rfl (by omega) (by omega) (by omega) ?_
                refine sm_T_go 1 (c1 := (2, [some (.inr (.inr (some (13, 0)))), some (.inl o_), some (.inl (n_ + 1)), some (.inl (S_.2.2.1 174 0 ((S_.2.2.1 140 0 n_.toNat) / 2).toNat)), some (.inl (S_.2.2.1 174 0 ((S_.2.2.1 141 0 n_.toNat) / 2).toNat))], [], sm_aI S_ 174 0 n_.toNat ((S_.2.2.1 174 0 ((S_.2.2.1 140 0 n_.toNat) / 2).toNat) + 1))) rfl ?_
                refine sm_T_wk [some (.inr (.inr (some (13, 0)))), some (.inl o_), some (.inl (n_ + 1)), none, none] (by exact ⟨rfl, rfl, rfl, trivial⟩) ?_
                refine ih_.1 (n_ + 1) (sm_aI S_ 174 0 n_.toNat ((S_.2.2.1 174 0 ((S_.2.2.1 140 0 n_.toNat) / 2).toNat) + 1)) hIx14_ hFx15_ ⟨?_, ?_, trivial⟩ ?_
                · omega
                · intro k9_ hk9_
                  rw [rd_eq]
                  by_cases z9_ : k9_ = n_.toNat
                  · rw [if_pos z9_]; first | (have lt9_ : n_ < (F_ : Int) := (by omega); rw [if_pos (by omega)]; omega) | (have ge9_ : (F_ : Int) ≤ n_ := (by omega); rw [if_neg (by omega)]; split at lo_ <;> split at hi_ <;> omega)
                  · rw [if_neg z9_]; exact h1_ k9_ (by omega)
                · omega
            · have cx10_ : ¬ ((S_.1 13 0 38) ≤ n_) := of_decide_eq_false cx10_
              exfalso; omega
          · have cx7_ : ¬ ((S_.1 13 0 38) ≤ n_) := of_decide_eq_false cx7_
            exfalso; omega
        · have cx4_ : ¬ ((S_.1 13 0 38) ≤ n_) := of_decide_eq_false cx4_
          refine sm_T_go 6 (c1 := (41, [some (.inr (.inr (some (13, 0)))), some (.inl o_), some (.inl n_), some (.inl 0), none], [.inl (S_.1 13 0 38), .inl n_], S_)) rfl ?_
          refine sm_T_br (a := 3) (z := 7) rfl (fun cx16_ => ?_) (fun cx16_ => ?_)
          · have cx16_ : (S_.1 13 0 38) ≤ n_ := of_decide_eq_true cx16_
            exfalso; omega
          · have cx16_ : ¬ ((S_.1 13 0 38) ≤ n_) := of_decide_eq_false cx16_
            refine sm_T_go 9 (c1 := (73, [some (.inr (.inr (some (13, 0)))), some (.inl o_), some (.inl n_), some (.inl 0), some (.inl 0)], [.inl (S_.1 13 0 38), .inl n_, .inl n_, .inr (.inr (some (174, 0)))], S_)) rfl ?_
            refine sm_T_br (a := 3) (z := 7) rfl (fun cx17_ => ?_) (fun cx17_ => ?_)
            · have cx17_ : (S_.1 13 0 38) ≤ n_ := of_decide_eq_true cx17_
              exfalso; omega
            · have cx17_ : ¬ ((S_.1 13 0 38) ≤ n_) := of_decide_eq_false cx17_
              refine sm_T_go 2 (c1 := (94, [some (.inr (.inr (some (13, 0)))), some (.inl o_), some (.inl n_), some (.inl 0), some (.inl 0)], [.inl 0, .inl n_, .inr (.inr (some (174, 0)))], S_)) rfl ?_
              refine sm_T_iast (n := 2048) rfl rfl (by omega) (by omega) ?_
              have hIx18_ : gi (sm_aI S_ 174 0 n_.toNat 0) := gi_aI hI_ (show 0 ≤ 0 ∧ 0 ≤ 1000 from ⟨by omega, by omega⟩)
              have hFx19_ : ai_fr (sx_W vw_358) S0_ (sm_aI S_ 174 0 n_.toNat 0) := ai_fr_tr hF_ (ai_fr_aI rfl)
              refine sm_T_inc (a := 2) (z := 1) (v := n_) (w := n_ + 1) rfl rfl (by omega) (by omega) (by omega) ?_
              refine sm_T_go 1 (c1 := (2, [some (.inr (.inr (some (13, 0)))), some (.inl o_), some (.inl (n_ + 1)), some (.inl 0), some (.inl 0)], [], sm_aI S_ 174 0 n_.toNat 0)) rfl ?_
              refine sm_T_wk [some (.inr (.inr (some (13, 0)))), some (.inl o_), some (.inl (n_ + 1)), none, none] (by exact ⟨rfl, rfl, rfl, trivial⟩) ?_
              refine ih_.1 (n_ + 1) (sm_aI S_ 174 0 n_.toNat 0) hIx18_ hFx19_ ⟨?_, ?_, trivial⟩ ?_
              · omega
              · intro k9_ hk9_
                rw [rd_eq]
                by_cases z9_ : k9_ = n_.toNat
                · rw [if_pos z9_]; first | (have lt9_ : n_ < (F_ : Int) := (by omega); rw [if_pos (by omega)]; omega) | (have ge9_ : (F_ : Int) ≤ n_ := (by omega); rw [if_neg (by omega)]; split at lo_ <;> split at hi_ <;> omega)
                · rw [if_neg z9_]; exact h1_ k9_ (by omega)
              · omega
    · rintro md_ k_ S_ hI_ hF_ ⟨h0_, h1_, -⟩ hm_
      have g1_ := hg_.1
      have g2_ := hg_.2.1
      have e37_ : S_.1 13 0 37 = S0_.1 13 0 37 := hF_.1 13 0 37 rfl
      have e38_ : S_.1 13 0 38 = S0_.1 13 0 38 := hF_.1 13 0 38 rfl
      have e53_ : S_.1 13 0 53 = S0_.1 13 0 53 := hF_.1 13 0 53 rfl
      have f40_ : S_.2.2.1 140 0 = S0_.2.2.1 140 0 := fr_arr hF_ rfl
      have f41_ : S_.2.2.1 141 0 = S0_.2.2.1 141 0 := fr_arr hF_ rfl
      have r1_ := hr_.1
      have r2_ := hr_.2.1
      have f75_ : S_.2.2.1 175 0 = S0_.2.2.1 175 0 := fr_arr hF_ rfl
      have f51_ : S_.2.2.1 151 0 = S0_.2.2.1 151 0 := fr_arr hF_ rfl
      refine sm_T_go 2 (c1 := (107, [some (.inr (.inr (some (13, 0)))), some (.inl o_), some (.inl md_), some (.inl k_), none], [.inl o_, .inl k_], S_)) rfl ?_
      refine sm_T_br (a := 3) (z := 44) rfl (fun cx1_ => ?_) (fun cx1_ => ?_)
      · have cx1_ : o_ ≤ k_ := of_decide_eq_true cx1_
        refine sm_T_go 2 (c1 := (153, [some (.inr (.inr (some (13, 0)))), some (.inl o_), some (.inl md_), some (.inl 0), none], [], S_)) rfl ?_
        refine ih_.2.2 md_ 0 S_ hI_ hF_ ⟨?_, ?_, trivial⟩ ?_
        · omega
        · exact h1_
        · omega
      · have cx1_ : ¬ (o_ ≤ k_) := of_decide_eq_false cx1_
        have ro_ := hr_.2.2.1 k_.toNat (by omega)
        rw [← f75_] at ro_
        have w9_ := h1_ (S_.2.2.1 175 0 k_.toNat / 2).toNat (by omega)
        refine sm_T_go 5 (c1 := (119, [some (.inr (.inr (some (13, 0)))), some (.inl o_), some (.inl md_), some (.inl k_), none], [.inl k_, .inr (.inr (some (175, 0))), .inr (.inr (some (174, 0)))], S_)) rfl ?_
        refine sm_T_iald (n := 16) rfl rfl (by omega) (by omega) ?_
        have bx2_ : 0 ≤ S_.2.2.1 175 0 k_.toNat ∧ S_.2.2.1 175 0 k_.toNat ≤ 2047 := hI_.2 175 0 _
        refine sm_T_go 1 (c1 := (121, [some (.inr (.inr (some (13, 0)))), some (.inl o_), some (.inl md_), some (.inl k_), none], [.inl 1, .inl (S_.2.2.1 175 0 k_.toNat), .inr (.inr (some (174, 0)))], S_)) rfl ?_
        refine sm_T_bin (w := ((S_.2.2.1 175 0 k_.toNat) / 2)) rfl (bi_shr (k := 1) (by decide) (by omega) (by omega)) ?_
        refine sm_T_iald (n := 2048) rfl rfl (by omega) (by omega) ?_
        have bx3_ : 0 ≤ S_.2.2.1 174 0 ((S_.2.2.1 175 0 k_.toNat) / 2).toNat ∧ S_.2.2.1 174 0 ((S_.2.2.1 175 0 k_.toNat) / 2).toNat ≤ 1000 := hI_.2 174 0 _
        refine sm_T_go 1 (c1 := (124, [some (.inr (.inr (some (13, 0)))), some (.inl o_), some (.inl md_), some (.inl k_), none], [.inl md_, .inl (S_.2.2.1 174 0 ((S_.2.2.1 175 0 k_.toNat) / 2).toNat)], S_)) rfl ?_
        refine sm_T_br (a := 5) (z := 19) rfl (fun cx4_ => ?_) (fun cx4_ => ?_)
        · have cx4_ : (S_.2.2.1 174 0 ((S_.2.2.1 175 0 k_.toNat) / 2).toNat) ≤ md_ := of_decide_eq_true cx4_
          refine sm_T_go 2 (c1 := (145, [some (.inr (.inr (some (13, 0)))), some (.inl o_), some (.inl md_), some (.inl k_), none], [], S_)) rfl ?_
          refine sm_T_inc (a := 3) (z := 1) (v := k_) (w := k_ + 1) rfl rfl (by omega) (by omega) (by omega) ?_
          refine sm_T_go 1 (c1 := (105, [some (.inr (.inr (some (13, 0)))), some (.inl o_), some (.inl md_), some (.inl (k_ + 1)), none], [], S_)) rfl ?_
          refine ih_.2.1 md_ (k_ + 1) S_ hI_ hF_ ⟨?_, ?_, trivial⟩ ?_
          · omega
          · exact h1_
          · omega
        · have cx4_ : ¬ ((S_.2.2.1 174 0 ((S_.2.2.1 175 0 k_.toNat) / 2).toNat) ≤ md_) := of_decide_eq_false cx4_
          refine sm_T_go 5 (c1 := (136, [some (.inr (.inr (some (13, 0)))), some (.inl o_), some (.inl md_), some (.inl k_), none], [.inl k_, .inr (.inr (some (175, 0))), .inr (.inr (some (174, 0)))], S_)) rfl ?_
          refine sm_T_iald (n := 16) rfl rfl (by omega) (by omega) ?_
          refine sm_T_go 1 (c1 := (138, [some (.inr (.inr (some (13, 0)))), some (.inl o_), some (.inl md_), some (.inl k_), none], [.inl 1, .inl (S_.2.2.1 175 0 k_.toNat), .inr (.inr (some (174, 0)))], S_)) rfl ?_
          refine sm_T_bin (w := ((S_.2.2.1 175 0 k_.toNat) / 2)) rfl (bi_shr (k := 1) (by decide) (by omega) (by omega)) ?_
          refine sm_T_iald (n := 2048) rfl rfl (by omega) (by omega) ?_
          refine sm_T_go 2 (c1 := (145, [some (.inr (.inr (some (13, 0)))), some (.inl o_), some (.inl (S_.2.2.1 174 0 ((S_.2.2.1 175 0 k_.toNat) / 2).toNat)), some (.inl k_), none], [], S_)) rfl ?_
          refine sm_T_inc (a := 3) (z := 1) (v := k_) (w := k_ + 1) rfl rfl (by omega) (by omega) (by omega) ?_
          refine sm_T_go 1 (c1 := (105, [some (.inr (.inr (some (13, 0)))), some (.inl o_), some (.inl (S_.2.2.1 174 0 ((S_.2.2.1 175 0 k_.toNat) / 2).toNat)), some (.inl (k_ + 1)), none], [], S_)) rfl ?_
          refine ih_.2.1 (S_.2.2.1 174 0 ((S_.2.2.1 175 0 k_.toNat) / 2).toNat) (k_ + 1) S_ hI_ hF_ ⟨?_, ?_, trivial⟩ ?_
          · omega
          · exact h1_
          · omega
    · rintro md_ k_ S_ hI_ hF_ ⟨h0_, h1_, -⟩ hm_
      have g1_ := hg_.1
      have g2_ := hg_.2.1
      have e37_ : S_.1 13 0 37 = S0_.1 13 0 37 := hF_.1 13 0 37 rfl
      have e38_ : S_.1 13 0 38 = S0_.1 13 0 38 := hF_.1 13 0 38 rfl
      have e53_ : S_.1 13 0 53 = S0_.1 13 0 53 := hF_.1 13 0 53 rfl
      have f40_ : S_.2.2.1 140 0 = S0_.2.2.1 140 0 := fr_arr hF_ rfl
      have f41_ : S_.2.2.1 141 0 = S0_.2.2.1 141 0 := fr_arr hF_ rfl
      have r1_ := hr_.1
      have r2_ := hr_.2.1
      have f75_ : S_.2.2.1 175 0 = S0_.2.2.1 175 0 := fr_arr hF_ rfl
      have f51_ : S_.2.2.1 151 0 = S0_.2.2.1 151 0 := fr_arr hF_ rfl
      have bx1_ : 0 ≤ S_.1 13 0 53 ∧ S_.1 13 0 53 ≤ 6 := hI_.1 13 0 53 rfl
      refine sm_T_go 3 (c1 := (158, [some (.inr (.inr (some (13, 0)))), some (.inl o_), some (.inl md_), some (.inl k_), none], [.inl (S_.1 13 0 53), .inl k_], S_)) rfl ?_
      refine sm_T_br (a := 3) (z := 44) rfl (fun cx2_ => ?_) (fun cx2_ => ?_)
      · have cx2_ : (S_.1 13 0 53) ≤ k_ := of_decide_eq_true cx2_
        refine sm_T_go 1 (c1 := (203, [some (.inr (.inr (some (13, 0)))), some (.inl o_), some (.inl md_), some (.inl k_), none], [.inl md_], S_)) rfl ?_
        refine sm_T_ri rfl ⟨_, _, rfl, _, rfl, hI_, hF_, ?_⟩
        omega
      · have cx2_ : ¬ ((S_.1 13 0 53) ≤ k_) := of_decide_eq_false cx2_
        have ro_ := hr_.2.2.2 k_.toNat (by omega)
        rw [← f51_] at ro_
        have w9_ := h1_ (S_.2.2.1 151 0 k_.toNat / 2).toNat (by omega)
        refine sm_T_go 5 (c1 := (170, [some (.inr (.inr (some (13, 0)))), some (.inl o_), some (.inl md_), some (.inl k_), none], [.inl k_, .inr (.inr (some (151, 0))), .inr (.inr (some (174, 0)))], S_)) rfl ?_
        refine sm_T_iald (n := 1024) rfl rfl (by omega) (by omega) ?_
        have bx3_ : 0 ≤ S_.2.2.1 151 0 k_.toNat ∧ S_.2.2.1 151 0 k_.toNat ≤ 2047 := hI_.2 151 0 _
        refine sm_T_go 1 (c1 := (172, [some (.inr (.inr (some (13, 0)))), some (.inl o_), some (.inl md_), some (.inl k_), none], [.inl 1, .inl (S_.2.2.1 151 0 k_.toNat), .inr (.inr (some (174, 0)))], S_)) rfl ?_
        refine sm_T_bin (w := ((S_.2.2.1 151 0 k_.toNat) / 2)) rfl (bi_shr (k := 1) (by decide) (by omega) (by omega)) ?_
        refine sm_T_iald (n := 2048) rfl rfl (by omega) (by omega) ?_
        have bx4_ : 0 ≤ S_.2.2.1 174 0 ((S_.2.2.1 151 0 k_.toNat) / 2).toNat ∧ S_.2.2.1 174 0 ((S_.2.2.1 151 0 k_.toNat) / 2).toNat ≤ 1000 := hI_.2 174 0 _
        refine sm_T_go 1 (c1 := (175, [some (.inr (.inr (some (13, 0)))), some (.inl o_), some (.inl md_), some (.inl k_), none], [.inl md_, .inl (S_.2.2.1 174 0 ((S_.2.2.1 151 0 k_.toNat) / 2).toNat)], S_)) rfl ?_
        refine sm_T_br (a := 5) (z := 19) rfl (fun cx5_ => ?_) (fun cx5_ => ?_)
        · have cx5_ : (S_.2.2.1 174 0 ((S_.2.2.1 151 0 k_.toNat) / 2).toNat) ≤ md_ := of_decide_eq_true cx5_
          refine sm_T_go 2 (c1 := (196, [some (.inr (.inr (some (13, 0)))), some (.inl o_), some (.inl md_), some (.inl k_), none], [], S_)) rfl ?_
          refine sm_T_inc (a := 3) (z := 1) (v := k_) (w := k_ + 1) rfl rfl (by omega) (by omega) (by omega) ?_
          refine sm_T_go 1 (c1 := (153, [some (.inr (.inr (some (13, 0)))), some (.inl o_), some (.inl md_), some (.inl (k_ + 1)), none], [], S_)) rfl ?_
          refine ih_.2.2 md_ (k_ + 1) S_ hI_ hF_ ⟨?_, ?_, trivial⟩ ?_
          · omega
          · exact h1_
          · omega
        · have cx5_ : ¬ ((S_.2.2.1 174 0 ((S_.2.2.1 151 0 k_.toNat) / 2).toNat) ≤ md_) := of_decide_eq_false cx5_
          refine sm_T_go 5 (c1 := (187, [some (.inr (.inr (some (13, 0)))), some (.inl o_), some (.inl md_), some (.inl k_), none], [.inl k_, .inr (.inr (some (151, 0))), .inr (.inr (some (174, 0)))], S_)) rfl ?_
          refine sm_T_iald (n := 1024) rfl rfl (by omega) (by omega) ?_
          refine sm_T_go 1 (c1 := (189, [some (.inr (.inr (some (13, 0)))), some (.inl o_), some (.inl md_), some (.inl k_), none], [.inl 1, .inl (S_.2.2.1 151 0 k_.toNat), .inr (.inr (some (174, 0)))], S_)) rfl ?_
          refine sm_T_bin (w := ((S_.2.2.1 151 0 k_.toNat) / 2)) rfl (bi_shr (k := 1) (by decide) (by omega) (by omega)) ?_
          refine sm_T_iald (n := 2048) rfl rfl (by omega) (by omega) ?_
          refine sm_T_go 2 (c1 := (196, [some (.inr (.inr (some (13, 0)))), some (.inl o_), some (.inl (S_.2.2.1 174 0 ((S_.2.2.1 151 0 k_.toNat) / 2).toNat)), some (.inl k_), none], [], S_)) rfl ?_
          refine sm_T_inc (a := 3) (z := 1) (v := k_) (w := k_ + 1) rfl rfl (by omega) (by omega) (by omega) ?_
          refine sm_T_go 1 (c1 := (153, [some (.inr (.inr (some (13, 0)))), some (.inl o_), some (.inl (S_.2.2.1 174 0 ((S_.2.2.1 151 0 k_.toNat) / 2).toNat)), some (.inl (k_ + 1)), none], [], S_)) rfl ?_
          refine ih_.2.2 (S_.2.2.1 174 0 ((S_.2.2.1 151 0 k_.toNat) / 2).toNat) (k_ + 1) S_ hI_ hF_ ⟨?_, ?_, trivial⟩ ?_
          · omega
          · exact h1_
          · omega
set_option maxHeartbeats 2000000 in
set_option maxRecDepth 20000 in
theorem vc_358 {sc_ : Nat × (Nat → Int)} (o_ : Int) (F_ : Nat) (S0_ : sm_S) (hI_ : gi S0_) (hg_ : rgr F_ S0_) (hr_ : rrt o_ S0_) : sm_T (mt_P sc_) 0 358 (0, [some (.inr (.inr (some (13, 0)))), some (.inl o_), none, none, none], [], S0_) (fun ro9_ => ∃ u_ S1_, ro9_ = (.inl u_, S1_, 0) ∧ vq_358 o_ F_ S0_ u_ S1_) := by
  have hF_ : ai_fr (sx_W vw_358) S0_ S0_ := ai_fr_rf
  refine sm_T_go 2 (c1 := (2, [some (.inr (.inr (some (13, 0)))), some (.inl o_), some (.inl 0), none, none], [], S0_)) rfl ?_
  refine (vl_358 o_ F_ S0_ hg_ hr_ _).1 0 S0_ hI_ hF_ ⟨?_, ?_, trivial⟩ (Nat.lt_succ_self _)
  · (have g1_ := hg_.1; have g2_ := hg_.2.1; omega)
  · (intro k9_ hk9_; omega)
end
/-! 99.zi3c -/
section
/-! M_.sweptLiteral -/
def vw_355 : sx_Wl := ([], [], [])
def vq_355 (l_ : Int) (S0_ : sm_S) (u_ : Option sm_V) (S1_ : sm_S) : Prop := S0_ = S1_ ∧ ∃ v_ : Int, u_ = some (.inl v_) ∧ (v_ = i_xor (S0_.2.2.1 172 0 (l_ / 2).toNat) (l_ % 2))
set_option maxHeartbeats 400000 in
theorem vc_355 {sc_ : Nat × (Nat → Int)} (l_ : Int) (S0_ : sm_S) (hI_ : gi S0_) (hl_ : 0 ≤ l_ ∧ l_ ≤ 2047) : sm_T (mt_P sc_) 0 355 (0, [some (.inr (.inr (some (13, 0)))), some (.inl l_)], [], S0_) (fun ro9_ => ∃ u_ S1_, ro9_ = (.inl u_, S1_, 0) ∧ vq_355 l_ S0_ u_ S1_) := by
  have hF_ : ai_fr (sx_W vw_355) S0_ S0_ := ai_fr_rf
  refine sm_T_go 4 (c1 := (6, [some (.inr (.inr (some (13, 0)))), some (.inl l_)], [.inl 1, .inl l_, .inr (.inr (some (172, 0)))], S0_)) rfl ?_
  refine sm_T_bin (w := (l_ / 2)) rfl (bi_shr (k := 1) (by decide) (by omega) (by omega)) ?_
  refine sm_T_iald (n := 2048) rfl rfl (by omega) (by omega) ?_
  have bx1_ : 0 ≤ S0_.2.2.1 172 0 (l_ / 2).toNat ∧ S0_.2.2.1 172 0 (l_ / 2).toNat ≤ 2025 := hI_.2 172 0 _
  refine sm_T_go 2 (c1 := (10, [some (.inr (.inr (some (13, 0)))), some (.inl l_)], [.inl 1, .inl l_, .inl (S0_.2.2.1 172 0 (l_ / 2).toNat)], S0_)) rfl ?_
  refine sm_T_bin (w := (l_ % 2)) rfl (bi_msk (k := 1) (by decide)) ?_
  refine sm_T_bin (w := (i_xor (S0_.2.2.1 172 0 (l_ / 2).toNat) (l_ % 2))) rfl rfl ?_
  refine sm_T_ri rfl ⟨_, _, rfl, rfl, _, rfl, ?_⟩
  omega
end
/-! 99.zi3d -/
section
/-! M_.countNeeded -/
def vw_356 : sx_Wl := ([], [173], [])
def vq_356 (o_ : Int) (F_ : Nat) (S0_ : sm_S) (u_ : Option sm_V) (S1_ : sm_S) : Prop := ∃ v_ : Int, u_ = some (.inl v_) ∧ gi S1_ ∧ ai_fr (sx_W vw_356) S0_ S1_ ∧ (0 ≤ v_ ∧ v_ ≤ 1000)
set_option maxHeartbeats 1500000 in
theorem vl_356 {sc_ : Nat × (Nat → Int)} (o_ : Int) (F_ : Nat) (S0_ : sm_S) (hg_ : rgr F_ S0_) (hr_ : rrt o_ S0_) (hs_ : rsw F_ S0_) : ∀ nn_ : Nat, (∀ (k_ : Int) (S_ : sm_S), gi S_ → ai_fr (sx_W vw_356) S0_ S_ → ((0 ≤ k_ ∧ k_ ≤ S0_.1 13 0 37) ∧ True) → ((9000 - k_).toNat) < nn_ → sm_T (mt_P sc_) 1 356 (2, [some (.inr (.inr (some (13, 0)))), some (.inl o_), some (.inl k_), none], [], S_) (fun ro9_ => ∃ u_ S1_, ro9_ = (.inl u_, S1_, 0) ∧ vq_356 o_ F_ S0_ u_ S1_)) ∧ (∀ (k_ : Int) (S_ : sm_S), gi S_ → ai_fr (sx_W vw_356) S0_ S_ → ((0 ≤ k_ ∧ k_ ≤ 16) ∧ True) → ((5000 - k_).toNat) < nn_ → sm_T (mt_P sc_) 1 356 (25, [some (.inr (.inr (some (13, 0)))), some (.inl o_), some (.inl k_), none], [], S_) (fun ro9_ => ∃ u_ S1_, ro9_ = (.inl u_, S1_, 0) ∧ vq_356 o_ F_ S0_ u_ S1_)) ∧ (∀ (k_ : Int) (S_ : sm_S), gi S_ → ai_fr (sx_W vw_356) S0_ S_ → ((0 ≤ k_ ∧ k_ ≤ 6) ∧ True) → ((4000 - k_).toNat) < nn_ → sm_T (mt_P sc_) 1 356 (56, [some (.inr (.inr (some (13, 0)))), some (.inl o_), some (.inl k_), none], [], S_) (fun ro9_ => ∃ u_ S1_, ro9_ = (.inl u_, S1_, 0) ∧ vq_356 o_ F_ S0_ u_ S1_)) ∧ (∀ (c_ : Int) (n_ : Int) (S_ : sm_S), gi S_ → ai_fr (sx_W vw_356) S0_ S_ → (((F_ : Int) - 1 ≤ n_ ∧ n_ < S0_.1 13 0 37 ∧ 0 ≤ c_ ∧ c_ ≤ S0_.1 13 0 37 - 1 - n_) ∧ True) → ((n_ + 1).toNat) < nn_ → sm_T (mt_P sc_) 1 356 (97, [some (.inr (.inr (some (13, 0)))), some (.inl o_), some (.inl c_), some (.inl n_)], [], S_) (fun ro9_ => ∃ u_ S1_, ro9_ = (.inl u_, S1_, 0) ∧ vq_356 o_ F_ S0_ u_ S1_)) := by
  intro nn_
  induction nn_ with
  | zero => exact ⟨fun _ _ _ _ _ h_ => absurd h_ (Nat.not_lt_zero _), fun _ _ _ _ _ h_ => absurd h_ (Nat.not_lt_zero _), fun _ _ _ _ _ h_ => absurd h_ (Nat.not_lt_zero _), fun _ _ _ _ _ _ h_ => absurd h_ (Nat.not_lt_zero _)⟩
  | succ nn_ ih_ =>
    refine ⟨?_, ?_, ?_, ?_⟩
    · rintro k_ S_ hI_ hF_ ⟨h0_, -⟩ hm_
      have g1_ := hg_.1
      have g2_ := hg_.2.1
      have e37_ : S_.1 13 0 37 = S0_.1 13 0 37 := hF_.1 13 0 37 rfl
      have e38_ : S_.1 13 0 38 = S0_.1 13 0 38 := hF_.1 13 0 38 rfl
      have e53_ : S_.1 13 0 53 = S0_.1 13 0 53 := hF_.1 13 0 53 rfl
      have f40_ : S_.2.2.1 140 0 = S0_.2.2.1 140 0 := fr_arr hF_ rfl
      have f41_ : S_.2.2.1 141 0 = S0_.2.2.1 141 0 := fr_arr hF_ rfl
      have r1_ := hr_.1
      have r2_ := hr_.2.1
      have f75_ : S_.2.2.1 175 0 = S0_.2.2.1 175 0 := fr_arr hF_ rfl
      have f51_ : S_.2.2.1 151 0 = S0_.2.2.1 151 0 := fr_arr hF_ rfl
      have f72_ : S_.2.2.1 172 0 = S0_.2.2.1 172 0 := fr_arr hF_ rfl
      have n13_ : S0_.1 13 0 37 ≤ 1013 := by omega
      have bx1_ : 0 ≤ S_.1 13 0 37 ∧ S_.1 13 0 37 ≤ 1014 := hI_.1 13 0 37 rfl
      refine sm_T_go 3 (c1 := (7, [some (.inr (.inr (some (13, 0)))), some (.inl o_), some (.inl k_), none], [.inl (S_.1 13 0 37), .inl k_], S_)) rfl ?_
      refine sm_T_br (a := 3) (z := 16) rfl (fun cx2_ => ?_) (fun cx2_ => ?_)
      · have cx2_ : (S_.1 13 0 37) ≤ k_ := of_decide_eq_true cx2_
        refine sm_T_go 2 (c1 := (25, [some (.inr (.inr (some (13, 0)))), some (.inl o_), some (.inl 0), none], [], S_)) rfl ?_
        refine ih_.2.1 0 S_ hI_ hF_ ⟨?_, trivial⟩ ?_
        · omega
        · omega
      · have cx2_ : ¬ ((S_.1 13 0 37) ≤ k_) := of_decide_eq_false cx2_
        refine sm_T_go 4 (c1 := (16, [some (.inr (.inr (some (13, 0)))), some (.inl o_), some (.inl k_), none], [.inl 0, .inl k_, .inr (.inr (some (173, 0)))], S_)) rfl ?_
        refine sm_T_zas1 (n := 2048) rfl rfl (by omega) (by omega) (by omega) ?_
        have hIx3_ : gi (sm_aI S_ 173 0 k_.toNat 0) := gi_aI hI_ (show 0 ≤ 0 ∧ 0 ≤ 1 from ⟨by omega, by omega⟩)
        have hFx4_ : ai_fr (sx_W vw_356) S0_ (sm_aI S_ 173 0 k_.toNat 0) := ai_fr_tr hF_ (ai_fr_aI rfl)
        refine sm_T_inc (a := 2) (z := 1) (v := k_) (w := k_ + 1) rfl rfl (by omega) (by omega) (by omega) ?_
        refine sm_T_go 1 (c1 := (2, [some (.inr (.inr (some (13, 0)))), some (.inl o_), some (.inl (k_ + 1)), none], [], sm_aI S_ 173 0 k_.toNat 0)) rfl ?_
        refine ih_.1 (k_ + 1) (sm_aI S_ 173 0 k_.toNat 0) hIx3_ hFx4_ ⟨?_, trivial⟩ ?_
        · omega
        · omega
    · rintro k_ S_ hI_ hF_ ⟨h0_, -⟩ hm_
      have g1_ := hg_.1
      have g2_ := hg_.2.1
      have e37_ : S_.1 13 0 37 = S0_.1 13 0 37 := hF_.1 13 0 37 rfl
      have e38_ : S_.1 13 0 38 = S0_.1 13 0 38 := hF_.1 13 0 38 rfl
      have e53_ : S_.1 13 0 53 = S0_.1 13 0 53 := hF_.1 13 0 53 rfl
      have f40_ : S_.2.2.1 140 0 = S0_.2.2.1 140 0 := fr_arr hF_ rfl
      have f41_ : S_.2.2.1 141 0 = S0_.2.2.1 141 0 := fr_arr hF_ rfl
      have r1_ := hr_.1
      have r2_ := hr_.2.1
      have f75_ : S_.2.2.1 175 0 = S0_.2.2.1 175 0 := fr_arr hF_ rfl
      have f51_ : S_.2.2.1 151 0 = S0_.2.2.1 151 0 := fr_arr hF_ rfl
      have f72_ : S_.2.2.1 172 0 = S0_.2.2.1 172 0 := fr_arr hF_ rfl
      have n13_ : S0_.1 13 0 37 ≤ 1013 := by omega
      refine sm_T_go 2 (c1 := (27, [some (.inr (.inr (some (13, 0)))), some (.inl o_), some (.inl k_), none], [.inl o_, .inl k_], S_)) rfl ?_
      refine sm_T_br (a := 3) (z := 27) rfl (fun cx1_ => ?_) (fun cx1_ => ?_)
      · have cx1_ : o_ ≤ k_ := of_decide_eq_true cx1_
        refine sm_T_go 2 (c1 := (56, [some (.inr (.inr (some (13, 0)))), some (.inl o_), some (.inl 0), none], [], S_)) rfl ?_
        refine ih_.2.2.1 0 S_ hI_ hF_ ⟨?_, trivial⟩ ?_
        · omega
        · omega
      · have cx1_ : ¬ (o_ ≤ k_) := of_decide_eq_false cx1_
        have ro_ := hr_.2.2.1 k_.toNat (by omega)
        rw [← f75_] at ro_
        refine sm_T_go 6 (c1 := (40, [some (.inr (.inr (some (13, 0)))), some (.inl o_), some (.inl k_), none], [.inl k_, .inr (.inr (some (175, 0))), .inr (.inr (some (13, 0))), .inr (.inr (some (173, 0)))], S_)) rfl ?_
        refine sm_T_iald (n := 16) rfl rfl (by omega) (by omega) ?_
        have bx2_ : 0 ≤ S_.2.2.1 175 0 k_.toNat ∧ S_.2.2.1 175 0 k_.toNat ≤ 2047 := hI_.2 175 0 _
        refine sm_T_cal (d1 := 0) (Q1 := vq_355 (S_.2.2.1 175 0 k_.toNat) S_) rfl rfl (by decide) (vc_355 (S_.2.2.1 175 0 k_.toNat) S_ hI_ (by omega)) (fun u_ Sx3_ px6_ => ?_)
        obtain ⟨rfl, vx8_, rfl, px6_⟩ := px6_
        have e41_ := px6_
        rw [f75_] at ro_
        rw [f72_, f75_] at e41_
        have sw41_ := rsl_n hs_ (l_ := S0_.2.2.1 175 0 k_.toNat) (by omega) (by omega) n13_
        rw [← e41_] at sw41_
        refine sm_T_go 1 (c1 := (45, [some (.inr (.inr (some (13, 0)))), some (.inl o_), some (.inl k_), none], [.inl 1, .inl vx8_, .inr (.inr (some (173, 0)))], S_)) rfl ?_
        refine sm_T_bin (w := (vx8_ / 2)) rfl (bi_shr (k := 1) (by decide) (by omega) (by omega)) ?_
        refine sm_T_go 1 (c1 := (47, [some (.inr (.inr (some (13, 0)))), some (.inl o_), some (.inl k_), none], [.inl 1, .inl (vx8_ / 2), .inr (.inr (some (173, 0)))], S_)) rfl ?_
        refine sm_T_zas1 (n := 2048) rfl rfl (by omega) (by omega) (by omega) ?_
        have hIx9_ : gi (sm_aI S_ 173 0 (vx8_ / 2).toNat 1) := gi_aI hI_ (show 0 ≤ 1 ∧ 1 ≤ 1 from ⟨by omega, by omega⟩)
        have hFx10_ : ai_fr (sx_W vw_356) S0_ (sm_aI S_ 173 0 (vx8_ / 2).toNat 1) := ai_fr_tr hF_ (ai_fr_aI rfl)
        refine sm_T_inc (a := 2) (z := 1) (v := k_) (w := k_ + 1) rfl rfl (by omega) (by omega) (by omega) ?_
        refine sm_T_go 1 (c1 := (25, [some (.inr (.inr (some (13, 0)))), some (.inl o_), some (.inl (k_ + 1)), none], [], sm_aI S_ 173 0 (vx8_ / 2).toNat 1)) rfl ?_
        refine ih_.2.1 (k_ + 1) (sm_aI S_ 173 0 (vx8_ / 2).toNat 1) hIx9_ hFx10_ ⟨?_, trivial⟩ ?_
        · omega
        · omega
    · rintro k_ S_ hI_ hF_ ⟨h0_, -⟩ hm_
      have g1_ := hg_.1
      have g2_ := hg_.2.1
      have e37_ : S_.1 13 0 37 = S0_.1 13 0 37 := hF_.1 13 0 37 rfl
      have e38_ : S_.1 13 0 38 = S0_.1 13 0 38 := hF_.1 13 0 38 rfl
      have e53_ : S_.1 13 0 53 = S0_.1 13 0 53 := hF_.1 13 0 53 rfl
      have f40_ : S_.2.2.1 140 0 = S0_.2.2.1 140 0 := fr_arr hF_ rfl
      have f41_ : S_.2.2.1 141 0 = S0_.2.2.1 141 0 := fr_arr hF_ rfl
      have r1_ := hr_.1
      have r2_ := hr_.2.1
      have f75_ : S_.2.2.1 175 0 = S0_.2.2.1 175 0 := fr_arr hF_ rfl
      have f51_ : S_.2.2.1 151 0 = S0_.2.2.1 151 0 := fr_arr hF_ rfl
      have f72_ : S_.2.2.1 172 0 = S0_.2.2.1 172 0 := fr_arr hF_ rfl
      have n13_ : S0_.1 13 0 37 ≤ 1013 := by omega
      have bx1_ : 0 ≤ S_.1 13 0 53 ∧ S_.1 13 0 53 ≤ 6 := hI_.1 13 0 53 rfl
      refine sm_T_go 3 (c1 := (61, [some (.inr (.inr (some (13, 0)))), some (.inl o_), some (.inl k_), none], [.inl (S_.1 13 0 53), .inl k_], S_)) rfl ?_
      refine sm_T_br (a := 3) (z := 27) rfl (fun cx2_ => ?_) (fun cx2_ => ?_)
      · have cx2_ : (S_.1 13 0 53) ≤ k_ := of_decide_eq_true cx2_
        have bx3_ : 0 ≤ S_.1 13 0 37 ∧ S_.1 13 0 37 ≤ 1014 := hI_.1 13 0 37 rfl
        refine sm_T_go 5 (c1 := (95, [some (.inr (.inr (some (13, 0)))), some (.inl o_), some (.inl 0), none], [.inl 1, .inl (S_.1 13 0 37)], S_)) rfl ?_
        refine sm_T_bin (w := (S_.1 13 0 37) - 1) rfl (bi_sub (by omega) (by omega) (by omega)) ?_
        refine sm_T_go 1 (c1 := (97, [some (.inr (.inr (some (13, 0)))), some (.inl o_), some (.inl 0), some (.inl ((S_.1 13 0 37) - 1))], [], S_)) rfl ?_
        refine ih_.2.2.2 0 ((S_.1 13 0 37) - 1) S_ hI_ hF_ ⟨?_, trivial⟩ ?_
        · omega
        · omega
      · have cx2_ : ¬ ((S_.1 13 0 53) ≤ k_) := of_decide_eq_false cx2_
        have ro_ := hr_.2.2.2 k_.toNat (by omega)
        rw [← f51_] at ro_
        refine sm_T_go 6 (c1 := (74, [some (.inr (.inr (some (13, 0)))), some (.inl o_), some (.inl k_), none], [.inl k_, .inr (.inr (some (151, 0))), .inr (.inr (some (13, 0))), .inr (.inr (some (173, 0)))], S_)) rfl ?_
        refine sm_T_iald (n := 1024) rfl rfl (by omega) (by omega) ?_
        have bx4_ : 0 ≤ S_.2.2.1 151 0 k_.toNat ∧ S_.2.2.1 151 0 k_.toNat ≤ 2047 := hI_.2 151 0 _
        refine sm_T_cal (d1 := 0) (Q1 := vq_355 (S_.2.2.1 151 0 k_.toNat) S_) rfl rfl (by decide) (vc_355 (S_.2.2.1 151 0 k_.toNat) S_ hI_ (by omega)) (fun u_ Sx5_ px8_ => ?_)
        obtain ⟨rfl, vx10_, rfl, px8_⟩ := px8_
        have e75_ := px8_
        rw [f51_] at ro_
        rw [f72_, f51_] at e75_
        have sw75_ := rsl_n hs_ (l_ := S0_.2.2.1 151 0 k_.toNat) (by omega) (by omega) n13_
        rw [← e75_] at sw75_
        refine sm_T_go 1 (c1 := (79, [some (.inr (.inr (some (13, 0)))), some (.inl o_), some (.inl k_), none], [.inl 1, .inl vx10_, .inr (.inr (some (173, 0)))], S_)) rfl ?_
        refine sm_T_bin (w := (vx10_ / 2)) rfl (bi_shr (k := 1) (by decide) (by omega) (by omega)) ?_
        refine sm_T_go 1 (c1 := (81, [some (.inr (.inr (some (13, 0)))), some (.inl o_), some (.inl k_), none], [.inl 1, .inl (vx10_ / 2), .inr (.inr (some (173, 0)))], S_)) rfl ?_
        refine sm_T_zas1 (n := 2048) rfl rfl (by omega) (by omega) (by omega) ?_
        have hIx11_ : gi (sm_aI S_ 173 0 (vx10_ / 2).toNat 1) := gi_aI hI_ (show 0 ≤ 1 ∧ 1 ≤ 1 from ⟨by omega, by omega⟩)
        have hFx12_ : ai_fr (sx_W vw_356) S0_ (sm_aI S_ 173 0 (vx10_ / 2).toNat 1) := ai_fr_tr hF_ (ai_fr_aI rfl)
        refine sm_T_inc (a := 2) (z := 1) (v := k_) (w := k_ + 1) rfl rfl (by omega) (by omega) (by omega) ?_
        refine sm_T_go 1 (c1 := (56, [some (.inr (.inr (some (13, 0)))), some (.inl o_), some (.inl (k_ + 1)), none], [], sm_aI S_ 173 0 (vx10_ / 2).toNat 1)) rfl ?_
        refine ih_.2.2.1 (k_ + 1) (sm_aI S_ 173 0 (vx10_ / 2).toNat 1) hIx11_ hFx12_ ⟨?_, trivial⟩ ?_
        · omega
        · omega
    · rintro c_ n_ S_ hI_ hF_ ⟨h0_, -⟩ hm_
      have g1_ := hg_.1
      have g2_ := hg_.2.1
      have e37_ : S_.1 13 0 37 = S0_.1 13 0 37 := hF_.1 13 0 37 rfl
      have e38_ : S_.1 13 0 38 = S0_.1 13 0 38 := hF_.1 13 0 38 rfl
      have e53_ : S_.1 13 0 53 = S0_.1 13 0 53 := hF_.1 13 0 53 rfl
      have f40_ : S_.2.2.1 140 0 = S0_.2.2.1 140 0 := fr_arr hF_ rfl
      have f41_ : S_.2.2.1 141 0 = S0_.2.2.1 141 0 := fr_arr hF_ rfl
      have r1_ := hr_.1
      have r2_ := hr_.2.1
      have f75_ : S_.2.2.1 175 0 = S0_.2.2.1 175 0 := fr_arr hF_ rfl
      have f51_ : S_.2.2.1 151 0 = S0_.2.2.1 151 0 := fr_arr hF_ rfl
      have f72_ : S_.2.2.1 172 0 = S0_.2.2.1 172 0 := fr_arr hF_ rfl
      have n13_ : S0_.1 13 0 37 ≤ 1013 := by omega
      have bx1_ : 0 ≤ S_.1 13 0 38 ∧ S_.1 13 0 38 ≤ 19 := hI_.1 13 0 38 rfl
      refine sm_T_go 3 (c1 := (102, [some (.inr (.inr (some (13, 0)))), some (.inl o_), some (.inl c_), some (.inl n_)], [.inl (S_.1 13 0 38), .inl n_], S_)) rfl ?_
      refine sm_T_br (a := 2) (z := 57) rfl (fun cx2_ => ?_) (fun cx2_ => ?_)
      · have cx2_ : n_ < (S_.1 13 0 38) := of_decide_eq_true cx2_
        refine sm_T_go 1 (c1 := (160, [some (.inr (.inr (some (13, 0)))), some (.inl o_), some (.inl c_), some (.inl n_)], [.inl c_], S_)) rfl ?_
        refine sm_T_ri rfl ⟨_, _, rfl, _, rfl, hI_, hF_, ?_⟩
        omega
      · have cx2_ : ¬ (n_ < (S_.1 13 0 38)) := of_decide_eq_false cx2_
        have gn_ := hg_.2.2 n_.toNat (by omega) (by omega)
        rw [← f40_, ← f41_] at gn_
        refine sm_T_go 3 (c1 := (110, [some (.inr (.inr (some (13, 0)))), some (.inl o_), some (.inl c_), some (.inl n_)], [.inl n_, .inr (.inr (some (173, 0)))], S_)) rfl ?_
        refine sm_T_zald (n := 2048) rfl rfl (by omega) (by omega) ?_
        have bx3_ : 0 ≤ S_.2.2.1 173 0 n_.toNat ∧ S_.2.2.1 173 0 n_.toNat ≤ 1 := hI_.2 173 0 _
        refine sm_T_b0 (a := 0) (z := 42) rfl (fun cx4_ => ?_) (fun cx4_ => ?_)
        · have cx4_ : (S_.2.2.1 173 0 n_.toNat) = 0 := of_decide_eq_true cx4_
          refine sm_T_inc (a := 3) (z := (-1)) (v := n_) (w := n_ - 1) rfl rfl (by omega) (by omega) (by omega) ?_
          refine sm_T_go 1 (c1 := (97, [some (.inr (.inr (some (13, 0)))), some (.inl o_), some (.inl c_), some (.inl (n_ - 1))], [], S_)) rfl ?_
          refine ih_.2.2.2 c_ (n_ - 1) S_ hI_ hF_ ⟨?_, trivial⟩ ?_
          · omega
          · omega
        · have cx4_ : ¬ ((S_.2.2.1 173 0 n_.toNat) = 0) := of_decide_eq_false cx4_
          refine sm_T_inc (a := 2) (z := 1) (v := c_) (w := c_ + 1) rfl rfl (by omega) (by omega) (by omega) ?_
          refine sm_T_go 6 (c1 := (127, [some (.inr (.inr (some (13, 0)))), some (.inl o_), some (.inl (c_ + 1)), some (.inl n_)], [.inl n_, .inr (.inr (some (140, 0))), .inr (.inr (some (13, 0))), .inr (.inr (some (173, 0)))], S_)) rfl ?_
          refine sm_T_iald (n := 2048) rfl rfl (by omega) (by omega) ?_
          have bx5_ : 0 ≤ S_.2.2.1 140 0 n_.toNat ∧ S_.2.2.1 140 0 n_.toNat ≤ 2047 := hI_.2 140 0 _
          refine sm_T_cal (d1 := 0) (Q1 := vq_355 (S_.2.2.1 140 0 n_.toNat) S_) rfl rfl (by decide) (vc_355 (S_.2.2.1 140 0 n_.toNat) S_ hI_ (by omega)) (fun u_ Sx6_ px9_ => ?_)
          obtain ⟨rfl, vx11_, rfl, px9_⟩ := px9_
          have e128_ := px9_
          rw [f40_, f41_] at gn_
          rw [f72_, f40_] at e128_
          have sw128_ := rsl_n hs_ (l_ := S0_.2.2.1 140 0 n_.toNat) (by omega) (by omega) n13_
          rw [← e128_] at sw128_
          refine sm_T_go 1 (c1 := (132, [some (.inr (.inr (some (13, 0)))), some (.inl o_), some (.inl (c_ + 1)), some (.inl n_)], [.inl 1, .inl vx11_, .inr (.inr (some (173, 0)))], S_)) rfl ?_
          refine sm_T_bin (w := (vx11_ / 2)) rfl (bi_shr (k := 1) (by decide) (by omega) (by omega)) ?_
          refine sm_T_go 1 (c1 := (134, [some (.inr (.inr (some (13, 0)))), some (.inl o_), some (.inl (c_ + 1)), some (.inl n_)], [.inl 1, .inl (vx11_ / 2), .inr (.inr (some (173, 0)))], S_)) rfl ?_
          refine sm_T_zas1 (n := 2048) rfl rfl (by omega) (by omega) (by omega) ?_
          have hIx12_ : gi (sm_aI S_ 173 0 (vx11_ / 2).toNat 1) := gi_aI hI_ (show 0 ≤ 1 ∧ 1 ≤ 1 from ⟨by omega, by omega⟩)
          have hFx13_ : ai_fr (sx_W vw_356) S0_ (sm_aI S_ 173 0 (vx11_ / 2).toNat 1) := ai_fr_tr hF_ (ai_fr_aI rfl)
          refine sm_T_go 6 (c1 := (145, [some (.inr (.inr (some (13, 0)))), some (.inl o_), some (.inl (c_ + 1)), some (.inl n_)], [.inl n_, .inr (.inr (some (141, 0))), .inr (.inr (some (13, 0))), .inr (.inr (some (173, 0)))], sm_aI S_ 173 0 (vx11_ / 2).toNat 1)) rfl ?_
          refine sm_T_iald (n := 2048) rfl rfl (by omega) (by omega) ?_
          have bx14_ : 0 ≤ S_.2.2.1 141 0 n_.toNat ∧ S_.2.2.1 141 0 n_.toNat ≤ 2047 := hI_.2 141 0 _
          refine sm_T_go 0 (c1 := (146, [some (.inr (.inr (some (13, 0)))), some (.inl o_), some (.inl (c_ + 1)), some (.inl n_)], [.inl (S_.2.2.1 141 0 n_.toNat), .inr (.inr (some (13, 0))), .inr (.inr (some (173, 0)))], sm_aI S_ 173 0 (vx11_ / 2).toNat 1)) rfl ?_
          refine sm_T_cal (d1 := 0) (Q1 := vq_355 (S_.2.2.1 141 0 n_.toNat) (sm_aI S_ 173 0 (vx11_ / 2).toNat 1)) rfl rfl (by decide) (vc_355 (S_.2.2.1 141 0 n_.toNat) (sm_aI S_ 173 0 (vx11_ / 2).toNat 1) hIx12_ (by (rw [f41_]; omega))) (fun u_ Sx15_ px18_ => ?_)
          obtain ⟨rfl, vx20_, rfl, px18_⟩ := px18_
          have e146_ := px18_
          simp only [rd_ne, ne_eq, Nat.reduceEqDiff, not_false_eq_true] at e146_
          rw [f72_, f41_] at e146_
          have sw146_ := rsl_n hs_ (l_ := S0_.2.2.1 141 0 n_.toNat) (by omega) (by omega) n13_
          rw [← e146_] at sw146_
          refine sm_T_go 1 (c1 := (150, [some (.inr (.inr (some (13, 0)))), some (.inl o_), some (.inl (c_ + 1)), some (.inl n_)], [.inl 1, .inl vx20_, .inr (.inr (some (173, 0)))], sm_aI S_ 173 0 (vx11_ / 2).toNat 1)) rfl ?_
          refine sm_T_bin (w := (vx20_ / 2)) rfl (bi_shr (k := 1) (by decide) (by omega) (by omega)) ?_
          refine sm_T_go 1 (c1 := (152, [some (.inr (.inr (some (13, 0)))), some (.inl o_), some (.inl (c_ + 1)), some (.inl n_)], [.inl 1, .inl (vx20_ / 2), .inr (.inr (some (173, 0)))], sm_aI S_ 173 0 (vx11_ / 2).toNat 1)) rfl ?_
          refine sm_T_zas1 (n := 2048) rfl rfl (by omega) (by omega) (by omega) ?_
          have hIx21_ : gi (sm_aI (sm_aI S_ 173 0 (vx11_ / 2).toNat 1) 173 0 (vx20_ / 2).toNat 1) := gi_aI hIx12_ (show 0 ≤ 1 ∧ 1 ≤ 1 from ⟨by omega, by omega⟩)
          have hFx22_ : ai_fr (sx_W vw_356) S0_ (sm_aI (sm_aI S_ 173 0 (vx11_ / 2).toNat 1) 173 0 (vx20_ / 2).toNat 1) := ai_fr_tr hFx13_ (ai_fr_aI rfl)
          refine sm_T_inc (a := 3) (z := (-1)) (v := n_) (w := n_ - 1) rfl rfl (by omega) (by omega) (by omega) ?_
          refine sm_T_go 1 (c1 := (97, [some (.inr (.inr (some (13, 0)))), some (.inl o_), some (.inl (c_ + 1)), some (.inl (n_ - 1))], [], sm_aI (sm_aI S_ 173 0 (vx11_ / 2).toNat 1) 173 0 (vx20_ / 2).toNat 1)) rfl ?_
          refine ih_.2.2.2 (c_ + 1) (n_ - 1) (sm_aI (sm_aI S_ 173 0 (vx11_ / 2).toNat 1) 173 0 (vx20_ / 2).toNat 1) hIx21_ hFx22_ ⟨?_, trivial⟩ ?_
          · omega
          · omega
set_option maxHeartbeats 1500000 in
theorem vc_356 {sc_ : Nat × (Nat → Int)} (o_ : Int) (F_ : Nat) (S0_ : sm_S) (hI_ : gi S0_) (hg_ : rgr F_ S0_) (hr_ : rrt o_ S0_) (hs_ : rsw F_ S0_) : sm_T (mt_P sc_) 1 356 (0, [some (.inr (.inr (some (13, 0)))), some (.inl o_), none, none], [], S0_) (fun ro9_ => ∃ u_ S1_, ro9_ = (.inl u_, S1_, 0) ∧ vq_356 o_ F_ S0_ u_ S1_) := by
  have hF_ : ai_fr (sx_W vw_356) S0_ S0_ := ai_fr_rf
  refine sm_T_go 2 (c1 := (2, [some (.inr (.inr (some (13, 0)))), some (.inl o_), some (.inl 0), none], [], S0_)) rfl ?_
  refine (vl_356 o_ F_ S0_ hg_ hr_ hs_ _).1 0 S0_ hI_ hF_ ⟨?_, trivial⟩ (Nat.lt_succ_self _)
  · (have g1_ := hg_.1; have g2_ := hg_.2.1; omega)
end
/-! 99.zi3e -/
section
/-! M_.bitOf -/
def vw_359 : sx_Wl := ([], [], [])
def vq_359 (l_ : Int) (p_ : Int) (S0_ : sm_S) (u_ : Option sm_V) (S1_ : sm_S) : Prop := S0_ = S1_ ∧ ∃ v_ : Int, u_ = some (.inl v_) ∧ (v_ = 0 ∨ v_ = 1)
set_option maxHeartbeats 400000 in
theorem vc_359 {sc_ : Nat × (Nat → Int)} (l_ : Int) (p_ : Int) (S0_ : sm_S) (hI_ : gi S0_) (hl_ : 0 ≤ l_ ∧ l_ ≤ 2047) (hp_ : 0 ≤ p_ ∧ p_ ≤ 4095) : sm_T (mt_P sc_) 1 359 (0, [some (.inr (.inr (some (13, 0)))), some (.inl l_), some (.inl p_)], [], S0_) (fun ro9_ => ∃ u_ S1_, ro9_ = (.inl u_, S1_, 0) ∧ vq_359 l_ p_ S0_ u_ S1_) := by
  have hF_ : ai_fr (sx_W vw_359) S0_ S0_ := ai_fr_rf
  refine sm_T_go 4 (c1 := (5, [some (.inr (.inr (some (13, 0)))), some (.inl l_), some (.inl p_)], [.inl 6, .inl p_, .inl l_, .inr (.inr (some (13, 0)))], S0_)) rfl ?_
  refine sm_T_bin (w := (p_ / 64)) rfl (bi_shr (k := 6) (by decide) (by omega) (by omega)) ?_
  refine sm_T_cal (d1 := 0) (Q1 := vq_351 l_ (p_ / 64) S0_) rfl rfl (by decide) (vc_351 l_ (p_ / 64) S0_ hI_ (by omega) (by omega)) (fun u_ Sx1_ px4_ => ?_)
  obtain ⟨rfl, vx6_, rfl, px4_⟩ := px4_
  refine sm_T_go 2 (c1 := (12, [some (.inr (.inr (some (13, 0)))), some (.inl l_), some (.inl p_)], [.inl 63, .inl p_, .inr (.inl vx6_)], S0_)) rfl ?_
  refine sm_T_bin (w := (p_ % 64)) rfl (bi_msk (k := 6) (by decide)) ?_
  refine sm_T_go 4 (c1 := (17, [some (.inr (.inr (some (13, 0)))), some (.inl l_), some (.inl p_)], [.inl (l_l2i ((l_3 ((l_s2 vx6_ (p_ % 64))) 1)))], S0_)) rfl ?_
  refine sm_T_ri rfl ⟨_, _, rfl, rfl, _, rfl, ?_⟩
  exact l_bit
end
/-! 99.zi3f -/
section
/-! M_.reach -/
def vw_361 : sx_Wl := ([], [176], [])
def vq_361 (d_ : Int) (S0_ : sm_S) (u_ : Option sm_V) (S1_ : sm_S) : Prop := ∃ v_ : Int, u_ = some (.inl v_) ∧ gi S1_ ∧ ai_fr (sx_W vw_361) S0_ S1_ ∧ (1 ≤ v_ ∧ v_ ≤ 64)
set_option maxHeartbeats 400000 in
theorem vl_361 {sc_ : Nat × (Nat → Int)} (d_ : Int) (S0_ : sm_S) (hd_ : 0 ≤ d_ ∧ d_ < 6) (hb_ : (S0_.2.2.1 154 0 (d_.toNat)) + (S0_.2.2.1 155 0 (d_.toNat)) ≤ 12) : ∀ nn_ : Nat, (∀ (s_ : Int) (S_ : sm_S), gi S_ → ai_fr (sx_W vw_361) S0_ S_ → ((0 ≤ s_ ∧ s_ ≤ 64) ∧ (∀ k_ : Nat, (k_ : Int) < s_ → (S_.2.2.1 176 0 (k_)) = if (k_ : Int) = (S_.2.2.1 157 0 (d_.toNat)) then 1 else 0) ∧ True) → (400000 + (64 - s_).toNat) < nn_ → sm_T (mt_P sc_) 0 361 (2, [some (.inr (.inr (some (13, 0)))), some (.inl d_), some (.inl s_), none, none, none], [], S_) (fun ro9_ => ∃ u_ S1_, ro9_ = (.inl u_, S1_, 0) ∧ vq_361 d_ S0_ u_ S1_)) ∧ (∀ (many : Int) (had_ : Int) (S_ : sm_S), gi S_ → ai_fr (sx_W vw_361) S0_ S_ → ((0 ≤ had_ ∧ had_ ≤ many ∧ 1 ≤ many) ∧ (many = cn1 (fun k_ => (S_.2.2.1 176 0 (k_))) 64) ∧ True) → (((65 - had_) * 5000).toNat) < nn_ → sm_T (mt_P sc_) 0 361 (39, [some (.inr (.inr (some (13, 0)))), some (.inl d_), some (.inl many), some (.inl had_), none, none], [], S_) (fun ro9_ => ∃ u_ S1_, ro9_ = (.inl u_, S1_, 0) ∧ vq_361 d_ S0_ u_ S1_)) ∧ (∀ (many : Int) (had_ : Int) (p_ : Int) (S_ : sm_S), gi S_ → ai_fr (sx_W vw_361) S0_ S_ → ((1 ≤ had_ ∧ had_ ≤ many ∧ 0 ≤ p_ ∧ p_ ≤ 4096) ∧ (many = cn1 (fun k_ => (S_.2.2.1 176 0 (k_))) 64) ∧ True) → (((65 - had_) * 5000 + (4097 - p_)).toNat) < nn_ → sm_T (mt_P sc_) 0 361 (49, [some (.inr (.inr (some (13, 0)))), some (.inl d_), some (.inl many), some (.inl had_), some (.inl p_), none], [], S_) (fun ro9_ => ∃ u_ S1_, ro9_ = (.inl u_, S1_, 0) ∧ vq_361 d_ S0_ u_ S1_)) := by
  intro nn_
  induction nn_ with
  | zero => exact ⟨fun _ _ _ _ _ h_ => absurd h_ (Nat.not_lt_zero _), fun _ _ _ _ _ _ h_ => absurd h_ (Nat.not_lt_zero _), fun _ _ _ _ _ _ _ h_ => absurd h_ (Nat.not_lt_zero _)⟩
  | succ nn_ ih_ =>
    refine ⟨?_, ?_, ?_⟩
    · rintro s_ S_ hI_ hF_ ⟨h1_, h2_, -⟩ hm_
      refine sm_T_go 2 (c1 := (5, [some (.inr (.inr (some (13, 0)))), some (.inl d_), some (.inl s_), none, none, none], [.inl 64, .inl s_], S_)) rfl ?_
      refine sm_T_br (a := 3) (z := 30) rfl (fun cx1_ => ?_) (fun cx1_ => ?_)
      · have cx1_ : 64 ≤ s_ := of_decide_eq_true cx1_
        refine sm_T_go 4 (c1 := (39, [some (.inr (.inr (some (13, 0)))), some (.inl d_), some (.inl 1), some (.inl 0), none, none], [], S_)) rfl ?_
        refine ih_.2.1 1 0 S_ hI_ hF_ ⟨?_, ?_, trivial⟩ ?_
        · omega
        · have e_ := cn1_one (f := fun k_ : Nat => if (k_ : Int) = S_.2.2.1 157 0 d_.toNat then 1 else 0) (j := (S_.2.2.1 157 0 d_.toNat).toNat) (by intro k_; have := hI_.2 157 0 d_.toNat; have a1_ : 0 ≤ S_.2.2.1 157 0 d_.toNat := this.1; constructor <;> intro h_ <;> first | (split at h_ <;> omega) | (rw [if_pos (by omega)])) 64
          have b9_ : 0 ≤ S_.2.2.1 157 0 d_.toNat ∧ S_.2.2.1 157 0 d_.toNat ≤ 63 := hI_.2 157 0 _
          rw [if_pos (by omega)] at e_
          rw [cn1_cg (fun k_ hk_ => h2_ k_ (by omega)), e_]
          rfl
        · omega
      · have cx1_ : ¬ (64 ≤ s_) := of_decide_eq_false cx1_
        refine sm_T_go 7 (c1 := (19, [some (.inr (.inr (some (13, 0)))), some (.inl d_), some (.inl s_), none, none, none], [.inl d_, .inr (.inr (some (157, 0))), .inl s_, .inl s_, .inr (.inr (some (176, 0)))], S_)) rfl ?_
        refine sm_T_iald (n := 6) rfl rfl (by omega) (by omega) ?_
        have bx2_ : 0 ≤ S_.2.2.1 157 0 d_.toNat ∧ S_.2.2.1 157 0 d_.toNat ≤ 63 := hI_.2 157 0 _
        refine sm_T_br (a := 1) (z := 7) rfl (fun cx3_ => ?_) (fun cx3_ => ?_)
        · have cx3_ : s_ ≠ (S_.2.2.1 157 0 d_.toNat) := of_decide_eq_true cx3_
          refine sm_T_go 1 (c1 := (28, [some (.inr (.inr (some (13, 0)))), some (.inl d_), some (.inl s_), none, none, none], [.inl 0, .inl s_, .inr (.inr (some (176, 0)))], S_)) rfl ?_
          refine sm_T_zas1 (n := 64) rfl rfl (by omega) (by omega) (by omega) ?_
          have hIx4_ : gi (sm_aI S_ 176 0 s_.toNat 0) := gi_aI hI_ (show 0 ≤ 0 ∧ 0 ≤ 1 from ⟨by omega, by omega⟩)
          have hFx5_ : ai_fr (sx_W vw_361) S0_ (sm_aI S_ 176 0 s_.toNat 0) := ai_fr_tr hF_ (ai_fr_aI rfl)
          refine sm_T_inc (a := 2) (z := 1) (v := s_) (w := s_ + 1) rfl rfl (by omega) (by omega) (by omega) ?_
          refine sm_T_go 1 (c1 := (2, [some (.inr (.inr (some (13, 0)))), some (.inl d_), some (.inl (s_ + 1)), none, none, none], [], sm_aI S_ 176 0 s_.toNat 0)) rfl ?_
          refine ih_.1 (s_ + 1) (sm_aI S_ 176 0 s_.toNat 0) hIx4_ hFx5_ ⟨?_, ?_, trivial⟩ ?_
          · omega
          · intro k_ hk_
            (try simp only [rd_eq, rd_ne, rf_eq, rf_nk, rf_nt, rd_fa, rd_af, rd_fl, rd_al, rd_lf, rd_la, rd_leq, rd_lne, rd_fr, rd_ar, ne_eq, Nat.reduceEqDiff, not_false_eq_true])
            grind
          · omega
        · have cx3_ : ¬ (s_ ≠ (S_.2.2.1 157 0 d_.toNat)) := of_decide_eq_false cx3_
          refine sm_T_go 2 (c1 := (28, [some (.inr (.inr (some (13, 0)))), some (.inl d_), some (.inl s_), none, none, none], [.inl 1, .inl s_, .inr (.inr (some (176, 0)))], S_)) rfl ?_
          refine sm_T_zas1 (n := 64) rfl rfl (by omega) (by omega) (by omega) ?_
          have hIx6_ : gi (sm_aI S_ 176 0 s_.toNat 1) := gi_aI hI_ (show 0 ≤ 1 ∧ 1 ≤ 1 from ⟨by omega, by omega⟩)
          have hFx7_ : ai_fr (sx_W vw_361) S0_ (sm_aI S_ 176 0 s_.toNat 1) := ai_fr_tr hF_ (ai_fr_aI rfl)
          refine sm_T_inc (a := 2) (z := 1) (v := s_) (w := s_ + 1) rfl rfl (by omega) (by omega) (by omega) ?_
          refine sm_T_go 1 (c1 := (2, [some (.inr (.inr (some (13, 0)))), some (.inl d_), some (.inl (s_ + 1)), none, none, none], [], sm_aI S_ 176 0 s_.toNat 1)) rfl ?_
          refine ih_.1 (s_ + 1) (sm_aI S_ 176 0 s_.toNat 1) hIx6_ hFx7_ ⟨?_, ?_, trivial⟩ ?_
          · omega
          · intro k_ hk_
            (try simp only [rd_eq, rd_ne, rf_eq, rf_nk, rf_nt, rd_fa, rd_af, rd_fl, rd_al, rd_lf, rd_la, rd_leq, rd_lne, rd_fr, rd_ar, ne_eq, Nat.reduceEqDiff, not_false_eq_true])
            grind
          · omega
    · rintro many had_ S_ hI_ hF_ ⟨h1_, h2_, -⟩ hm_
      have hc_ := cn1_le (fun k_ => (S_.2.2.1 176 0 (k_))) 64
      refine sm_T_go 2 (c1 := (41, [some (.inr (.inr (some (13, 0)))), some (.inl d_), some (.inl many), some (.inl had_), none, none], [.inl had_, .inl many], S_)) rfl ?_
      refine sm_T_br (a := 0) (z := 90) rfl (fun cx1_ => ?_) (fun cx1_ => ?_)
      · have cx1_ : many = had_ := of_decide_eq_true cx1_
        refine sm_T_go 1 (c1 := (132, [some (.inr (.inr (some (13, 0)))), some (.inl d_), some (.inl many), some (.inl had_), none, none], [.inl many], S_)) rfl ?_
        refine sm_T_ri rfl ⟨_, _, rfl, _, rfl, hI_, hF_, ?_⟩
        omega
      · have cx1_ : ¬ (many = had_) := of_decide_eq_false cx1_
        refine sm_T_go 4 (c1 := (49, [some (.inr (.inr (some (13, 0)))), some (.inl d_), some (.inl many), some (.inl many), some (.inl 0), none], [], S_)) rfl ?_
        refine ih_.2.2 many many 0 S_ hI_ hF_ ⟨?_, ?_, trivial⟩ ?_
        · omega
        · omega
        · omega
    · rintro many had_ p_ S_ hI_ hF_ ⟨h1_, h2_, -⟩ hm_
      have hc_ := cn1_le (fun k_ => (S_.2.2.1 176 0 (k_))) 64
      have e1_ := (hF_.2.2 154 rfl 0 d_.toNat).1
      have e2_ := (hF_.2.2 155 rfl 0 d_.toNat).1
      refine sm_T_go 5 (c1 := (57, [some (.inr (.inr (some (13, 0)))), some (.inl d_), some (.inl many), some (.inl had_), some (.inl p_), none], [.inl d_, .inr (.inr (some (154, 0))), .inl 1, .inl p_], S_)) rfl ?_
      refine sm_T_iald (n := 6) rfl rfl (by omega) (by omega) ?_
      have bx1_ : 0 ≤ S_.2.2.1 154 0 d_.toNat ∧ S_.2.2.1 154 0 d_.toNat ≤ 12 := hI_.2 154 0 _
      refine sm_T_go 3 (c1 := (63, [some (.inr (.inr (some (13, 0)))), some (.inl d_), some (.inl many), some (.inl had_), some (.inl p_), none], [.inl d_, .inr (.inr (some (155, 0))), .inl (S_.2.2.1 154 0 d_.toNat), .inl 1, .inl p_], S_)) rfl ?_
      refine sm_T_iald (n := 6) rfl rfl (by omega) (by omega) ?_
      have bx2_ : 0 ≤ S_.2.2.1 155 0 d_.toNat ∧ S_.2.2.1 155 0 d_.toNat ≤ 6 := hI_.2 155 0 _
      refine sm_T_bin (w := (S_.2.2.1 154 0 d_.toNat) + (S_.2.2.1 155 0 d_.toNat)) rfl (bi_add (by omega) (by omega) (by omega)) ?_
      refine sm_T_bin (w := (i_shl 1 ((S_.2.2.1 154 0 d_.toNat) + (S_.2.2.1 155 0 d_.toNat)))) rfl rfl ?_
      have bx3_ := i_shl1 (e := ((S_.2.2.1 154 0 d_.toNat) + (S_.2.2.1 155 0 d_.toNat))) (by omega) (by omega)
      have hp_ := pw_le (n := (((S_.2.2.1 154 0 d_.toNat) + (S_.2.2.1 155 0 d_.toNat))).toNat) (m := 12) (by omega)
      have hp0_ := pw_pos (((S_.2.2.1 154 0 d_.toNat) + (S_.2.2.1 155 0 d_.toNat))).toNat
      refine sm_T_br (a := 3) (z := 62) rfl (fun cx6_ => ?_) (fun cx6_ => ?_)
      · have cx6_ : (i_shl 1 ((S_.2.2.1 154 0 d_.toNat) + (S_.2.2.1 155 0 d_.toNat))) ≤ p_ := of_decide_eq_true cx6_
        refine sm_T_go 1 (c1 := (39, [some (.inr (.inr (some (13, 0)))), some (.inl d_), some (.inl many), some (.inl had_), some (.inl p_), none], [], S_)) rfl ?_
        refine sm_T_wk [some (.inr (.inr (some (13, 0)))), some (.inl d_), some (.inl many), some (.inl had_), none, none] (by exact ⟨rfl, rfl, rfl, rfl, trivial⟩) ?_
        refine ih_.2.1 many had_ S_ hI_ hF_ ⟨?_, ?_, trivial⟩ ?_
        · omega
        · omega
        · omega
      · have cx6_ : ¬ ((i_shl 1 ((S_.2.2.1 154 0 d_.toNat) + (S_.2.2.1 155 0 d_.toNat))) ≤ p_) := of_decide_eq_false cx6_
        refine sm_T_go 4 (c1 := (77, [some (.inr (.inr (some (13, 0)))), some (.inl d_), some (.inl many), some (.inl had_), some (.inl p_), none], [.inl d_, .inl 4096, .inr (.inr (some (170, 0)))], S_)) rfl ?_
        refine sm_T_bin (w := 4096 * d_) rfl (bi_mul (by omega) (by omega) (by omega)) ?_
        refine sm_T_go 1 (c1 := (80, [some (.inr (.inr (some (13, 0)))), some (.inl d_), some (.inl many), some (.inl had_), some (.inl p_), none], [.inl p_, .inl (4096 * d_), .inr (.inr (some (170, 0)))], S_)) rfl ?_
        refine sm_T_bin (w := 4096 * d_ + p_) rfl (bi_add (by omega) (by omega) (by omega)) ?_
        refine sm_T_iald (n := 24576) rfl rfl (by omega) (by omega) ?_
        have bx7_ : 0 ≤ S_.2.2.1 170 0 (4096 * d_ + p_).toNat ∧ S_.2.2.1 170 0 (4096 * d_ + p_).toNat ≤ 63 := hI_.2 170 0 _
        refine sm_T_go 7 (c1 := (95, [some (.inr (.inr (some (13, 0)))), some (.inl d_), some (.inl many), some (.inl had_), some (.inl p_), some (.inl (S_.2.2.1 170 0 (4096 * d_ + p_).toNat))], [.inl d_, .inr (.inr (some (154, 0))), .inl p_, .inr (.inr (some (176, 0)))], S_)) rfl ?_
        refine sm_T_iald (n := 6) rfl rfl (by omega) (by omega) ?_
        refine sm_T_bin (w := (i_shr p_ (S_.2.2.1 154 0 d_.toNat))) rfl rfl ?_
        have bx8_ := i_shrv (x := p_) (e := (S_.2.2.1 154 0 d_.toNat)) (by omega) (by omega) (by omega)
        have hq_ := shr_lt (x := p_) (a := (S_.2.2.1 154 0 d_.toNat)) (b := S_.2.2.1 155 0 d_.toNat) (by omega) (by omega) (by omega) (by omega)
        have hq2_ := pw_le (n := (S_.2.2.1 155 0 d_.toNat).toNat) (m := 6) (by omega)
        refine sm_T_zald (n := 64) rfl rfl (by omega) (by omega) ?_
        have bx11_ : 0 ≤ S_.2.2.1 176 0 (i_shr p_ (S_.2.2.1 154 0 d_.toNat)).toNat ∧ S_.2.2.1 176 0 (i_shr p_ (S_.2.2.1 154 0 d_.toNat)).toNat ≤ 1 := hI_.2 176 0 _
        refine sm_T_b0 (a := 0) (z := 24) rfl (fun cx12_ => ?_) (fun cx12_ => ?_)
        · have cx12_ : (S_.2.2.1 176 0 (i_shr p_ (S_.2.2.1 154 0 d_.toNat)).toNat) = 0 := of_decide_eq_true cx12_
          refine sm_T_inc (a := 4) (z := 1) (v := p_) (w := p_ + 1) rfl rfl (by omega) (by omega) (by omega) ?_
          refine sm_T_go 1 (c1 := (49, [some (.inr (.inr (some (13, 0)))), some (.inl d_), some (.inl many), some (.inl had_), some (.inl (p_ + 1)), some (.inl (S_.2.2.1 170 0 (4096 * d_ + p_).toNat))], [], S_)) rfl ?_
          refine sm_T_wk [some (.inr (.inr (some (13, 0)))), some (.inl d_), some (.inl many), some (.inl had_), some (.inl (p_ + 1)), none] (by exact ⟨rfl, rfl, rfl, rfl, rfl, trivial⟩) ?_
          refine ih_.2.2 many had_ (p_ + 1) S_ hI_ hF_ ⟨?_, ?_, trivial⟩ ?_
          · omega
          · exact h2_
          · omega
        · have cx12_ : ¬ ((S_.2.2.1 176 0 (i_shr p_ (S_.2.2.1 154 0 d_.toNat)).toNat) = 0) := of_decide_eq_false cx12_
          refine sm_T_go 3 (c1 := (107, [some (.inr (.inr (some (13, 0)))), some (.inl d_), some (.inl many), some (.inl had_), some (.inl p_), some (.inl (S_.2.2.1 170 0 (4096 * d_ + p_).toNat))], [.inl (S_.2.2.1 170 0 (4096 * d_ + p_).toNat), .inr (.inr (some (176, 0)))], S_)) rfl ?_
          refine sm_T_zald (n := 64) rfl rfl (by omega) (by omega) ?_
          have bx13_ : 0 ≤ S_.2.2.1 176 0 (S_.2.2.1 170 0 (4096 * d_ + p_).toNat).toNat ∧ S_.2.2.1 176 0 (S_.2.2.1 170 0 (4096 * d_ + p_).toNat).toNat ≤ 1 := hI_.2 176 0 _
          refine sm_T_b0 (a := 1) (z := 14) rfl (fun cx14_ => ?_) (fun cx14_ => ?_)
          · have cx14_ : (S_.2.2.1 176 0 (S_.2.2.1 170 0 (4096 * d_ + p_).toNat).toNat) ≠ 0 := of_decide_eq_true cx14_
            refine sm_T_inc (a := 4) (z := 1) (v := p_) (w := p_ + 1) rfl rfl (by omega) (by omega) (by omega) ?_
            refine sm_T_go 1 (c1 := (49, [some (.inr (.inr (some (13, 0)))), some (.inl d_), some (.inl many), some (.inl had_), some (.inl (p_ + 1)), some (.inl (S_.2.2.1 170 0 (4096 * d_ + p_).toNat))], [], S_)) rfl ?_
            refine sm_T_wk [some (.inr (.inr (some (13, 0)))), some (.inl d_), some (.inl many), some (.inl had_), some (.inl (p_ + 1)), none] (by exact ⟨rfl, rfl, rfl, rfl, rfl, trivial⟩) ?_
            refine ih_.2.2 many had_ (p_ + 1) S_ hI_ hF_ ⟨?_, ?_, trivial⟩ ?_
            · omega
            · exact h2_
            · omega
          · have cx14_ : ¬ ((S_.2.2.1 176 0 (S_.2.2.1 170 0 (4096 * d_ + p_).toNat).toNat) ≠ 0) := of_decide_eq_false cx14_
            refine sm_T_go 4 (c1 := (118, [some (.inr (.inr (some (13, 0)))), some (.inl d_), some (.inl many), some (.inl had_), some (.inl p_), some (.inl (S_.2.2.1 170 0 (4096 * d_ + p_).toNat))], [.inl 1, .inl (S_.2.2.1 170 0 (4096 * d_ + p_).toNat), .inr (.inr (some (176, 0)))], S_)) rfl ?_
            refine sm_T_zas1 (n := 64) rfl rfl (by omega) (by omega) (by omega) ?_
            have hIx15_ : gi (sm_aI S_ 176 0 (S_.2.2.1 170 0 (4096 * d_ + p_).toNat).toNat 1) := gi_aI hI_ (show 0 ≤ 1 ∧ 1 ≤ 1 from ⟨by omega, by omega⟩)
            have hFx16_ : ai_fr (sx_W vw_361) S0_ (sm_aI S_ 176 0 (S_.2.2.1 170 0 (4096 * d_ + p_).toNat).toNat 1) := ai_fr_tr hF_ (ai_fr_aI rfl)
            refine sm_T_inc (a := 2) (z := 1) (v := many) (w := many + 1) rfl rfl (by omega) (by omega) (by omega) ?_
            refine sm_T_inc (a := 4) (z := 1) (v := p_) (w := p_ + 1) rfl rfl (by omega) (by omega) (by omega) ?_
            refine sm_T_go 1 (c1 := (49, [some (.inr (.inr (some (13, 0)))), some (.inl d_), some (.inl (many + 1)), some (.inl had_), some (.inl (p_ + 1)), some (.inl (S_.2.2.1 170 0 (4096 * d_ + p_).toNat))], [], sm_aI S_ 176 0 (S_.2.2.1 170 0 (4096 * d_ + p_).toNat).toNat 1)) rfl ?_
            refine sm_T_wk [some (.inr (.inr (some (13, 0)))), some (.inl d_), some (.inl (many + 1)), some (.inl had_), some (.inl (p_ + 1)), none] (by exact ⟨rfl, rfl, rfl, rfl, rfl, trivial⟩) ?_
            refine ih_.2.2 (many + 1) had_ (p_ + 1) (sm_aI S_ 176 0 (S_.2.2.1 170 0 (4096 * d_ + p_).toNat).toNat 1) hIx15_ hFx16_ ⟨?_, ?_, trivial⟩ ?_
            · omega
            · have := cn1_up (f := fun k_ => S_.2.2.1 176 0 k_) (g := fun k_ => (sm_aI S_ 176 0 (S_.2.2.1 170 0 (4096 * d_ + p_).toNat).toNat 1).2.2.1 176 0 k_) (j := (S_.2.2.1 170 0 (4096 * d_ + p_).toNat).toNat) (by show S_.2.2.1 176 0 _ ≠ 1; omega) (by show _ = _; rw [rd_aa, if_pos ⟨rfl, rfl, rfl⟩]) (by intro k_ hk_; show _ = _; rw [rd_aa, if_neg (by omega)]) (n := 64) (by omega)
              omega
            · omega
set_option maxHeartbeats 400000 in
theorem vc_361 {sc_ : Nat × (Nat → Int)} (d_ : Int) (S0_ : sm_S) (hI_ : gi S0_) (hd_ : 0 ≤ d_ ∧ d_ < 6) (hb_ : (S0_.2.2.1 154 0 (d_.toNat)) + (S0_.2.2.1 155 0 (d_.toNat)) ≤ 12) : sm_T (mt_P sc_) 0 361 (0, [some (.inr (.inr (some (13, 0)))), some (.inl d_), none, none, none, none], [], S0_) (fun ro9_ => ∃ u_ S1_, ro9_ = (.inl u_, S1_, 0) ∧ vq_361 d_ S0_ u_ S1_) := by
  have hF_ : ai_fr (sx_W vw_361) S0_ S0_ := ai_fr_rf
  refine sm_T_go 2 (c1 := (2, [some (.inr (.inr (some (13, 0)))), some (.inl d_), some (.inl 0), none, none, none], [], S0_)) rfl ?_
  refine (vl_361 d_ S0_ hd_ hb_ _).1 0 S0_ hI_ hF_ ⟨?_, ?_, trivial⟩ (Nat.lt_succ_self _)
  · omega
  · intro k_ hk_; omega
end
/-! 99.zi4a -/
section
/-! the reference keeps a design; written by wip/p55/gen/vg -/

/-! the_ reference keeps a_ design -/
def rds (t_ : Nat) : Nat := if t_ ≤ 163 then 1 else if t_ ≤ 166 then 2048 else if t_ = 167 then 16 else if t_ = 168 then 6 else 4096
/-- the_ other designs stay as_ they were -/
def rdf (d_ : Nat) (S_ S'_ : sm_S) : Prop := ∀ t_, t_ < 171 → 153 ≤ t_ → ∀ j_, (j_ < rds t_ * d_ ∨ rds t_ * d_ + rds t_ ≤ j_) → S'_.2.2.1 t_ 0 j_ = S_.2.2.1 t_ 0 j_
theorem rdf_rf {d_ : Nat} {S_ : sm_S} : rdf d_ S_ S_ := fun _ _ _ _ _ => rfl
theorem rdf_tr {d_ : Nat} {S_ S'_ S2_ : sm_S} (h_ : rdf d_ S_ S'_) (g_ : rdf d_ S'_ S2_) : rdf d_ S_ S2_ := fun t_ h1_ h2_ j_ hj_ => (g_ t_ h1_ h2_ j_ hj_).trans (h_ t_ h1_ h2_ j_ hj_)
theorem rdf_fr {w_ : sx_Wl} {d_ : Nat} {S_ S'_ : sm_S} (g_ : ai_fr (sx_W w_) S_ S'_) (h_ : ∀ t_, t_ < 171 → 153 ≤ t_ → (sx_W w_).2.1 t_ = false) : rdf d_ S_ S'_ := fun t_ h1_ h2_ j_ _ => congrFun (fr_arr g_ (h_ t_ h1_ h2_)) j_
theorem rdf_aI {d_ t_ k_ : Nat} {S_ S'_ : sm_S} {v_ : Int} (h_ : rdf d_ S_ S'_) (g_ : (t_ < 153 ∨ 170 < t_) ∨ (rds t_ * d_ ≤ k_ ∧ k_ < rds t_ * d_ + rds t_)) : rdf d_ S_ (sm_aI S'_ t_ 0 k_ v_) := fun t1_ h1_ h2_ j_ hj_ => by
  rw [rd_aa, if_neg (by
    rintro ⟨q1_, -, q3_⟩
    rcases g_ with g_ | g_
    · omega
    · rw [q1_] at hj_; omega)]
  exact h_ t1_ h1_ h2_ j_ hj_
/-- how_ far_ a_ design is_ kept -/
def kdB (dd_ F_ : Nat) (I_ o_ bg_ : Int) (R_ n_ k1_ k2_ p_ : Nat) (S_ : sm_S) : Prop := (S_.2.2.1 153 0 dd_ = 1 ∧ S_.2.2.1 154 0 dd_ = I_ ∧ S_.2.2.1 155 0 dd_ = (R_ : Int) ∧ S_.2.2.1 156 0 dd_ = o_ ∧ S_.2.2.1 157 0 dd_ = bg_ ∧ S_.2.2.1 158 0 dd_ = bg_ ∧ S_.2.2.1 159 0 dd_ = S_.1 13 0 37 ∧ S_.2.2.1 160 0 dd_ = (F_ : Int)) ∧ (rgr F_ S_ ∧ rsw F_ S_ ∧ rrt o_ S_ ∧ S_.1 13 0 53 = (R_ : Int)) ∧ (∀ j_, j_ < n_ → S_.2.2.1 164 0 (2048 * dd_ + j_) = S_.2.2.1 140 0 j_ ∧ S_.2.2.1 165 0 (2048 * dd_ + j_) = S_.2.2.1 141 0 j_ ∧ S_.2.2.1 166 0 (2048 * dd_ + j_) = S_.2.2.1 172 0 j_) ∧ (∀ j_, j_ < k1_ → S_.2.2.1 167 0 (16 * dd_ + j_) = S_.2.2.1 175 0 j_) ∧ (∀ j_, j_ < k2_ → S_.2.2.1 168 0 (6 * dd_ + j_) = S_.2.2.1 151 0 j_) ∧ ∀ j_, j_ < p_ → 0 ≤ S_.2.2.1 170 0 (4096 * dd_ + j_) ∧ S_.2.2.1 170 0 (4096 * dd_ + j_) < 2 ^ R_
theorem kd8 {S_ : sm_S} {d_ : Nat} {v0_ v1_ v2_ v3_ v4_ v5_ v6_ v7_ : Int} : ((sm_aI (sm_aI (sm_aI (sm_aI (sm_aI (sm_aI (sm_aI (sm_aI S_ 153 0 d_ v0_) 154 0 d_ v1_) 155 0 d_ v2_) 156 0 d_ v3_) 157 0 d_ v4_) 158 0 d_ v5_) 159 0 d_ v6_) 160 0 d_ v7_).2.2.1 153 0 d_ = v0_ ∧ (sm_aI (sm_aI (sm_aI (sm_aI (sm_aI (sm_aI (sm_aI (sm_aI S_ 153 0 d_ v0_) 154 0 d_ v1_) 155 0 d_ v2_) 156 0 d_ v3_) 157 0 d_ v4_) 158 0 d_ v5_) 159 0 d_ v6_) 160 0 d_ v7_).2.2.1 154 0 d_ = v1_ ∧ (sm_aI (sm_aI (sm_aI (sm_aI (sm_aI (sm_aI (sm_aI (sm_aI S_ 153 0 d_ v0_) 154 0 d_ v1_) 155 0 d_ v2_) 156 0 d_ v3_) 157 0 d_ v4_) 158 0 d_ v5_) 159 0 d_ v6_) 160 0 d_ v7_).2.2.1 155 0 d_ = v2_ ∧ (sm_aI (sm_aI (sm_aI (sm_aI (sm_aI (sm_aI (sm_aI (sm_aI S_ 153 0 d_ v0_) 154 0 d_ v1_) 155 0 d_ v2_) 156 0 d_ v3_) 157 0 d_ v4_) 158 0 d_ v5_) 159 0 d_ v6_) 160 0 d_ v7_).2.2.1 156 0 d_ = v3_ ∧ (sm_aI (sm_aI (sm_aI (sm_aI (sm_aI (sm_aI (sm_aI (sm_aI S_ 153 0 d_ v0_) 154 0 d_ v1_) 155 0 d_ v2_) 156 0 d_ v3_) 157 0 d_ v4_) 158 0 d_ v5_) 159 0 d_ v6_) 160 0 d_ v7_).2.2.1 157 0 d_ = v4_ ∧ (sm_aI (sm_aI (sm_aI (sm_aI (sm_aI (sm_aI (sm_aI (sm_aI S_ 153 0 d_ v0_) 154 0 d_ v1_) 155 0 d_ v2_) 156 0 d_ v3_) 157 0 d_ v4_) 158 0 d_ v5_) 159 0 d_ v6_) 160 0 d_ v7_).2.2.1 158 0 d_ = v5_ ∧ (sm_aI (sm_aI (sm_aI (sm_aI (sm_aI (sm_aI (sm_aI (sm_aI S_ 153 0 d_ v0_) 154 0 d_ v1_) 155 0 d_ v2_) 156 0 d_ v3_) 157 0 d_ v4_) 158 0 d_ v5_) 159 0 d_ v6_) 160 0 d_ v7_).2.2.1 159 0 d_ = v6_ ∧ (sm_aI (sm_aI (sm_aI (sm_aI (sm_aI (sm_aI (sm_aI (sm_aI S_ 153 0 d_ v0_) 154 0 d_ v1_) 155 0 d_ v2_) 156 0 d_ v3_) 157 0 d_ v4_) 158 0 d_ v5_) 159 0 d_ v6_) 160 0 d_ v7_).2.2.1 160 0 d_ = v7_) ∧ ai_fr (sx_W ([], [153, 154, 155, 156, 157, 158, 159, 160], [])) S_ (sm_aI (sm_aI (sm_aI (sm_aI (sm_aI (sm_aI (sm_aI (sm_aI S_ 153 0 d_ v0_) 154 0 d_ v1_) 155 0 d_ v2_) 156 0 d_ v3_) 157 0 d_ v4_) 158 0 d_ v5_) 159 0 d_ v6_) 160 0 d_ v7_) := by
  refine ⟨⟨?_, ?_, ?_, ?_, ?_, ?_, ?_, ?_⟩, ai_fr_tr (ai_fr_tr (ai_fr_tr (ai_fr_tr (ai_fr_tr (ai_fr_tr (ai_fr_tr (ai_fr_aI rfl) (ai_fr_aI rfl)) (ai_fr_aI rfl)) (ai_fr_aI rfl)) (ai_fr_aI rfl)) (ai_fr_aI rfl)) (ai_fr_aI rfl)) (ai_fr_aI rfl)⟩
  all_goals (simp only [rd_eq, rd_ne, ne_eq, Nat.reduceEqDiff, not_false_eq_true, if_true])
section KD_
variable {dd_ F_ R_ n_ k1_ k2_ p_ : Nat} {I_ o_ bg_ : Int} {S_ S'_ : sm_S}
theorem kdB_k (h_ : kdB dd_ F_ I_ o_ bg_ R_ n_ k1_ k2_ p_ S_) (g_ : ai_fr (sx_W ([], [164, 165, 166], [])) S_ S'_) (e1_ : ∀ j_, S'_.2.2.1 164 0 j_ = if j_ = 2048 * dd_ + n_ then S_.2.2.1 140 0 n_ else S_.2.2.1 164 0 j_) (e2_ : ∀ j_, S'_.2.2.1 165 0 j_ = if j_ = 2048 * dd_ + n_ then S_.2.2.1 141 0 n_ else S_.2.2.1 165 0 j_) (e3_ : ∀ j_, S'_.2.2.1 166 0 j_ = if j_ = 2048 * dd_ + n_ then S_.2.2.1 172 0 n_ else S_.2.2.1 166 0 j_) : kdB dd_ F_ I_ o_ bg_ R_ (n_ + 1) k1_ k2_ p_ S'_ := by
  obtain ⟨h1_, h2_, h3_, h4_, h5_, h6_⟩ := h_
  refine ⟨?_, ⟨rgr_fr h2_.1 g_ rfl rfl rfl rfl, rsw_fr h2_.2.1 g_ rfl rfl rfl rfl, rrt_fr h2_.2.2.1 g_ rfl rfl rfl rfl, (g_.1 13 0 53 rfl).trans h2_.2.2.2⟩, fun j_ hj_ => ?_, fun j_ hj_ => ?_, fun j_ hj_ => ?_, fun j_ hj_ => ?_⟩
  · rw [fr_arr (t := 153) g_ rfl, fr_arr (t := 154) g_ rfl, fr_arr (t := 155) g_ rfl, fr_arr (t := 156) g_ rfl, fr_arr (t := 157) g_ rfl, fr_arr (t := 158) g_ rfl, fr_arr (t := 159) g_ rfl, fr_arr (t := 160) g_ rfl, g_.1 13 0 37 rfl]
    exact h1_
  · rw [e1_, e2_, e3_, fr_arr (t := 140) g_ rfl, fr_arr (t := 141) g_ rfl, fr_arr (t := 172) g_ rfl]
    by_cases z_ : j_ = n_
    · rw [if_pos (by omega), if_pos (by omega), if_pos (by omega), z_]
      exact ⟨rfl, rfl, rfl⟩
    · rw [if_neg (by omega), if_neg (by omega), if_neg (by omega)]
      exact h3_ j_ (by omega)
  · rw [fr_arr (t := 167) g_ rfl, fr_arr (t := 175) g_ rfl]; exact h4_ j_ hj_
  · rw [fr_arr (t := 168) g_ rfl, fr_arr (t := 151) g_ rfl]; exact h5_ j_ hj_
  · rw [fr_arr (t := 170) g_ rfl]; exact h6_ j_ hj_
theorem kdB_o (h_ : kdB dd_ F_ I_ o_ bg_ R_ n_ k1_ k2_ p_ S_) (g_ : ai_fr (sx_W ([], [167], [])) S_ S'_) (e1_ : ∀ j_, S'_.2.2.1 167 0 j_ = if j_ = 16 * dd_ + k1_ then S_.2.2.1 175 0 k1_ else S_.2.2.1 167 0 j_) : kdB dd_ F_ I_ o_ bg_ R_ n_ (k1_ + 1) k2_ p_ S'_ := by
  obtain ⟨h1_, h2_, h3_, h4_, h5_, h6_⟩ := h_
  refine ⟨?_, ⟨rgr_fr h2_.1 g_ rfl rfl rfl rfl, rsw_fr h2_.2.1 g_ rfl rfl rfl rfl, rrt_fr h2_.2.2.1 g_ rfl rfl rfl rfl, (g_.1 13 0 53 rfl).trans h2_.2.2.2⟩, fun j_ hj_ => ?_, fun j_ hj_ => ?_, fun j_ hj_ => ?_, fun j_ hj_ => ?_⟩
  · rw [fr_arr (t := 153) g_ rfl, fr_arr (t := 154) g_ rfl, fr_arr (t := 155) g_ rfl, fr_arr (t := 156) g_ rfl, fr_arr (t := 157) g_ rfl, fr_arr (t := 158) g_ rfl, fr_arr (t := 159) g_ rfl, fr_arr (t := 160) g_ rfl, g_.1 13 0 37 rfl]
    exact h1_
  · rw [fr_arr (t := 164) g_ rfl, fr_arr (t := 165) g_ rfl, fr_arr (t := 166) g_ rfl, fr_arr (t := 140) g_ rfl, fr_arr (t := 141) g_ rfl, fr_arr (t := 172) g_ rfl]; exact h3_ j_ hj_
  · rw [e1_, fr_arr (t := 175) g_ rfl]
    by_cases z_ : j_ = k1_
    · rw [if_pos (by omega), z_]
    · rw [if_neg (by omega)]; exact h4_ j_ (by omega)
  · rw [fr_arr (t := 168) g_ rfl, fr_arr (t := 151) g_ rfl]; exact h5_ j_ hj_
  · rw [fr_arr (t := 170) g_ rfl]; exact h6_ j_ hj_
theorem kdB_x (h_ : kdB dd_ F_ I_ o_ bg_ R_ n_ k1_ k2_ p_ S_) (g_ : ai_fr (sx_W ([], [168], [])) S_ S'_) (e1_ : ∀ j_, S'_.2.2.1 168 0 j_ = if j_ = 6 * dd_ + k2_ then S_.2.2.1 151 0 k2_ else S_.2.2.1 168 0 j_) : kdB dd_ F_ I_ o_ bg_ R_ n_ k1_ (k2_ + 1) p_ S'_ := by
  obtain ⟨h1_, h2_, h3_, h4_, h5_, h6_⟩ := h_
  refine ⟨?_, ⟨rgr_fr h2_.1 g_ rfl rfl rfl rfl, rsw_fr h2_.2.1 g_ rfl rfl rfl rfl, rrt_fr h2_.2.2.1 g_ rfl rfl rfl rfl, (g_.1 13 0 53 rfl).trans h2_.2.2.2⟩, fun j_ hj_ => ?_, fun j_ hj_ => ?_, fun j_ hj_ => ?_, fun j_ hj_ => ?_⟩
  · rw [fr_arr (t := 153) g_ rfl, fr_arr (t := 154) g_ rfl, fr_arr (t := 155) g_ rfl, fr_arr (t := 156) g_ rfl, fr_arr (t := 157) g_ rfl, fr_arr (t := 158) g_ rfl, fr_arr (t := 159) g_ rfl, fr_arr (t := 160) g_ rfl, g_.1 13 0 37 rfl]
    exact h1_
  · rw [fr_arr (t := 164) g_ rfl, fr_arr (t := 165) g_ rfl, fr_arr (t := 166) g_ rfl, fr_arr (t := 140) g_ rfl, fr_arr (t := 141) g_ rfl, fr_arr (t := 172) g_ rfl]; exact h3_ j_ hj_
  · rw [fr_arr (t := 167) g_ rfl, fr_arr (t := 175) g_ rfl]; exact h4_ j_ hj_
  · rw [e1_, fr_arr (t := 151) g_ rfl]
    by_cases z_ : j_ = k2_
    · rw [if_pos (by omega), z_]
    · rw [if_neg (by omega)]; exact h5_ j_ (by omega)
  · rw [fr_arr (t := 170) g_ rfl]; exact h6_ j_ hj_
theorem kdB_t {v_ : Int} (h_ : kdB dd_ F_ I_ o_ bg_ R_ n_ k1_ k2_ p_ S_) (g_ : ai_fr (sx_W ([], [169, 170], [])) S_ S'_) (hv_ : 0 ≤ v_ ∧ v_ < 2 ^ R_) (e1_ : ∀ j_, S'_.2.2.1 170 0 j_ = if j_ = 4096 * dd_ + p_ then v_ else S_.2.2.1 170 0 j_) : kdB dd_ F_ I_ o_ bg_ R_ n_ k1_ k2_ (p_ + 1) S'_ := by
  obtain ⟨h1_, h2_, h3_, h4_, h5_, h6_⟩ := h_
  refine ⟨?_, ⟨rgr_fr h2_.1 g_ rfl rfl rfl rfl, rsw_fr h2_.2.1 g_ rfl rfl rfl rfl, rrt_fr h2_.2.2.1 g_ rfl rfl rfl rfl, (g_.1 13 0 53 rfl).trans h2_.2.2.2⟩, fun j_ hj_ => ?_, fun j_ hj_ => ?_, fun j_ hj_ => ?_, fun j_ hj_ => ?_⟩
  · rw [fr_arr (t := 153) g_ rfl, fr_arr (t := 154) g_ rfl, fr_arr (t := 155) g_ rfl, fr_arr (t := 156) g_ rfl, fr_arr (t := 157) g_ rfl, fr_arr (t := 158) g_ rfl, fr_arr (t := 159) g_ rfl, fr_arr (t := 160) g_ rfl, g_.1 13 0 37 rfl]
    exact h1_
  · rw [fr_arr (t := 164) g_ rfl, fr_arr (t := 165) g_ rfl, fr_arr (t := 166) g_ rfl, fr_arr (t := 140) g_ rfl, fr_arr (t := 141) g_ rfl, fr_arr (t := 172) g_ rfl]; exact h3_ j_ hj_
  · rw [fr_arr (t := 167) g_ rfl, fr_arr (t := 175) g_ rfl]; exact h4_ j_ hj_
  · rw [fr_arr (t := 168) g_ rfl, fr_arr (t := 151) g_ rfl]; exact h5_ j_ hj_
  · rw [e1_]
    by_cases z_ : j_ = p_
    · rw [if_pos (by omega)]; exact hv_
    · rw [if_neg (by omega)]; exact h6_ j_ (by omega)
end KD_
/-- a_ design that the_ reference keeps -/
def dRk (d_ : Nat) (S_ : sm_S) : Prop := ∃ (F_ I_ R_ N_ : Nat), (S_.2.2.1 154 0 d_ = (I_ : Int) ∧ S_.2.2.1 155 0 d_ = (R_ : Int) ∧ S_.2.2.1 159 0 d_ = (N_ : Int) ∧ S_.2.2.1 160 0 d_ = (F_ : Int) ∧ F_ = 1 + I_ + R_ ∧ F_ ≤ 13 ∧ R_ ≤ 6 ∧ F_ ≤ N_ ∧ N_ ≤ F_ + 1000 ∧ 1 ≤ S_.2.2.1 156 0 d_ ∧ S_.2.2.1 156 0 d_ ≤ 16) ∧ glo F_ N_ (fun k_ => S_.2.2.1 164 0 (2048 * d_ + k_)) (fun k_ => S_.2.2.1 165 0 (2048 * d_ + k_)) ∧ (S_.2.2.1 166 0 (2048 * d_) = 0 ∧ ∀ m_, m_ < N_ → sfo F_ (fun k_ => S_.2.2.1 164 0 (2048 * d_ + k_)) (fun k_ => S_.2.2.1 165 0 (2048 * d_ + k_)) (fun k_ => S_.2.2.1 166 0 (2048 * d_ + k_)) m_) ∧ (∀ k_ : Nat, (k_ : Int) < S_.2.2.1 156 0 d_ → 0 ≤ S_.2.2.1 167 0 (16 * d_ + k_) ∧ S_.2.2.1 167 0 (16 * d_ + k_) < 2 * (N_ : Int)) ∧ (∀ k_, k_ < R_ → 0 ≤ S_.2.2.1 168 0 (6 * d_ + k_) ∧ S_.2.2.1 168 0 (6 * d_ + k_) < 2 * (N_ : Int)) ∧ (0 ≤ S_.2.2.1 157 0 d_ ∧ S_.2.2.1 157 0 d_ < 2 ^ R_) ∧ (0 ≤ S_.2.2.1 158 0 d_ ∧ S_.2.2.1 158 0 d_ < 2 ^ R_) ∧ ∀ p_, p_ < 2 ^ (I_ + R_) → 0 ≤ S_.2.2.1 170 0 (4096 * d_ + p_) ∧ S_.2.2.1 170 0 (4096 * d_ + p_) < 2 ^ R_
theorem sfo_ap {F_ n_ m_ : Nat} {lo_ hi_ sf_ lo'_ hi'_ sf'_ : Nat → Int} (hg_ : F_ ≤ m_ → 2 ≤ lo_ m_ ∧ lo_ m_ < hi_ m_ ∧ hi_ m_ < 2 * (m_ : Int)) (hm_ : m_ < n_) (h_ : sfo F_ lo_ hi_ sf_ m_) (e1_ : ∀ k_, k_ < n_ → lo'_ k_ = lo_ k_) (e2_ : ∀ k_, k_ < n_ → hi'_ k_ = hi_ k_) (e3_ : ∀ k_, k_ < n_ → sf'_ k_ = sf_ k_) : sfo F_ lo'_ hi'_ sf'_ m_ := by
  unfold sfo at *
  rw [e3_ m_ hm_, e3_ _ (by omega)]
  refine ⟨h_.1, h_.2.1, fun a_ b_ => ?_⟩
  have g_ := hg_ a_
  have q_ := h_.2.2 a_ b_
  unfold m3 at *
  rw [e1_ m_ hm_, e2_ m_ hm_, e3_ _ (by omega), e3_ _ (by omega)]
  exact q_
theorem kdB_end {dd_ F_ I_ R_ N_ : Nat} {o_ bg_ : Int} {S_ : sm_S} (h_ : kdB dd_ F_ (I_ : Int) o_ bg_ R_ N_ o_.toNat R_ (2 ^ (I_ + R_)) S_) (hN_ : S_.1 13 0 37 = (N_ : Int)) (hF_ : F_ = 1 + I_ + R_) (hF13_ : F_ ≤ 13) (hR_ : R_ ≤ 6) (ho_ : 1 ≤ o_ ∧ o_ ≤ 16) (hb_ : 0 ≤ bg_ ∧ bg_ < 2 ^ R_) : dRk dd_ S_ := by
  obtain ⟨h1_, ⟨g1_, g2_, g3_, g4_⟩, h3_, h4_, h5_, h6_⟩ := h_
  have gg_ := g1_.2.1
  refine ⟨F_, I_, R_, N_, ⟨h1_.2.1, h1_.2.2.1, h1_.2.2.2.2.2.2.1.trans hN_, h1_.2.2.2.2.2.2.2, hF_, hF13_, hR_, by omega, by omega, by rw [h1_.2.2.2.1]; exact ho_.1, by rw [h1_.2.2.2.1]; exact ho_.2⟩, fun k_ a_ b_ => ?_, ⟨?_, fun m_ hm_ => ?_⟩, fun k_ hk_ => ?_, fun k_ hk_ => ?_, by rw [h1_.2.2.2.2.1]; exact hb_, by rw [h1_.2.2.2.2.2.1]; exact hb_, h6_⟩
  · show 2 ≤ S_.2.2.1 164 0 (2048 * dd_ + k_) ∧ S_.2.2.1 164 0 (2048 * dd_ + k_) < S_.2.2.1 165 0 (2048 * dd_ + k_) ∧ S_.2.2.1 165 0 (2048 * dd_ + k_) < 2 * (k_ : Int)
    rw [(h3_ k_ b_).1, (h3_ k_ b_).2.1]
    exact g1_.2.2 k_ a_ (by omega)
  · have e_ := (h3_ 0 (by omega)).2.2
    rw [Nat.add_zero] at e_
    rw [e_]
    exact g2_.1
  · exact sfo_ap (n_ := N_) (fun a_ => g1_.2.2 m_ a_ (by omega)) hm_ (g2_.2 m_ (by omega)) (fun k_ hk_ => (h3_ k_ hk_).1) (fun k_ hk_ => (h3_ k_ hk_).2.1) (fun k_ hk_ => (h3_ k_ hk_).2.2)
  · rw [h1_.2.2.2.1] at hk_
    rw [h4_ k_ (by omega)]
    have := g3_.2.2.1 k_ hk_
    omega
  · rw [h5_ k_ hk_]
    have := g3_.2.2.2 k_ (by omega)
    omega
theorem dRk_fr {w_ : sx_Wl} {d_ : Nat} {S_ S'_ : sm_S} (h_ : dRk d_ S_) (g_ : ai_fr (sx_W w_) S_ S'_) (hw_ : ∀ t_, t_ < 171 → (153 < t_ ∧ t_ ≠ 161 ∧ t_ ≠ 162 ∧ t_ ≠ 163) → (sx_W w_).2.1 t_ = false) : dRk d_ S'_ := by
  unfold dRk
  rw [fr_arr (t := 154) g_ (hw_ _ (by decide) (by decide)), fr_arr (t := 155) g_ (hw_ _ (by decide) (by decide)), fr_arr (t := 156) g_ (hw_ _ (by decide) (by decide)), fr_arr (t := 157) g_ (hw_ _ (by decide) (by decide)), fr_arr (t := 158) g_ (hw_ _ (by decide) (by decide)), fr_arr (t := 159) g_ (hw_ _ (by decide) (by decide)), fr_arr (t := 160) g_ (hw_ _ (by decide) (by decide)), fr_arr (t := 164) g_ (hw_ _ (by decide) (by decide)), fr_arr (t := 165) g_ (hw_ _ (by decide) (by decide)), fr_arr (t := 166) g_ (hw_ _ (by decide) (by decide)), fr_arr (t := 167) g_ (hw_ _ (by decide) (by decide)), fr_arr (t := 168) g_ (hw_ _ (by decide) (by decide)), fr_arr (t := 170) g_ (hw_ _ (by decide) (by decide))]
  exact h_
/-! M_.keepDesign -/
end
/-! 99.zi5a -/
section
/-! the reference: design; written by wip/p55/gen/vg -/

/-! the_ reference: a_ text becomes a_ design -/
/-- the_ sums that both programs tell come to_ the_ same -/
theorem rT_lm {b_ : Nat → Int} {n_ T_ : Nat} {r_ : pD} {S_ : sm_S} (hn_ : n_ ≤ 1280) (hr_ : p_de b_ n_ = .inr r_) (h_ : rT b_ n_ T_ r_.1 r_.2.1 r_.2.2.1 S_) : p_lm (S_.2.2.1 135 0 (r_.2.2.1 - 1)) (S_.2.2.1 132 0 (r_.2.2.1 - 1)) (S_.2.2.1 134 0 (r_.2.2.1 - 1)) (S_.2.2.1 133 0 (r_.2.2.1 - 1)) = d_lm r_ ∧ S_.2.2.1 132 0 (d_tp r_) = (d_I r_ : Int) ∧ (d_lm r_ = 0 → S_.2.2.1 134 0 (d_tp r_) = (d_R r_ : Int)) := by
  obtain ⟨h1_, h2_⟩ := de_ch hn_ hr_
  obtain ⟨i1_, i2_, i3_, i4_, i5_⟩ := d_in hn_ hr_
  have hA_ : ∀ m_, m_ < r_.2.2.1 → a_ok b_ n_ r_.1 m_ := fun m_ hm_ => (h1_ m_ hm_).2
  have g_ := g_sum hA_
  have rs_ := h_.2.2.2.2.1
  have s_ := sat_eq (r1_ := S_.2.2.1 134 0) (i1_ := S_.2.2.1 135 0) (r2_ := gR r_.1 r_.2.2.1) (i2_ := gI r_.1 r_.2.2.1) hA_ (fun m_ hm_ => (rs_ m_ hm_).2.2.1) (fun m_ hm_ => (g_.2 m_ hm_).1) (fun m_ hm_ => (rs_ m_ hm_).2.2.2) (fun m_ hm_ => (g_.2 m_ hm_).2) (d_tp r_ + 1) (d_tp r_) (by omega) i3_
  have t_ := rs_ (d_tp r_) i3_
  have e_ : p_lm (S_.2.2.1 135 0 (d_tp r_)) (S_.2.2.1 132 0 (d_tp r_)) (S_.2.2.1 134 0 (d_tp r_)) (S_.2.2.1 133 0 (d_tp r_)) = d_lm r_ := by
    rw [s_.1.1, s_.2.1, t_.1, t_.2.1, lm_sat s_.2.2 s_.1.2 (by rw [← i1_]; omega)]
    rfl
  refine ⟨e_, by rw [t_.1, i1_], fun l0_ => ?_⟩
  have l_ := lm_0 l0_
  rw [s_.1.1, i2_]
  unfold mn
  rw [if_neg (by omega)]
theorem gmd_of {b_ : Nat → Int} {n_ T_ m_ : Nat} {r_ : pD} {S_ : sm_S} (hn_ : n_ ≤ 1280) (hr_ : p_de b_ n_ = .inr r_) (h_ : rT b_ n_ T_ r_.1 r_.2.1 r_.2.2.1 S_) (hm_ : m_ < r_.2.2.1) : gmd b_ n_ T_ r_.1 r_.2.1 (dC r_) m_ S_ := by
  obtain ⟨h1_, h2_⟩ := de_ch hn_ hr_
  obtain ⟨f_, A_, c0_, u_, ce_, l_, w1_, w2_, w3_, w4_, -⟩ := dC_r hn_ (h1_ m_ hm_).1
  obtain ⟨u'_, i_, y1_, y2_, y3_⟩ := h_.2.2.2.2.2.2 m_ hm_
  have e_ : u'_ = u_ := by
    unfold bod at w4_
    rw [y1_] at w4_
    cases w4_
    rfl
  exact ⟨f_, A_, c0_, u_, ce_, i_, w1_, w2_, w3_, by rw [← e_]; exact y2_, y3_⟩
def pD0 : pD := ((fun _ => 0, fun _ => 0, fun _ => 0, fun _ => 0, fun _ => 0), fun _ => 0, 0, fun _ => 0, [])
def gz0 : gQ × gE := (([], 0, 0), fun _ => [])
/-- what the_ reference knows when it_ has_ read a_ text -/
def rdy (b_ : Nat → Int) (n_ T_ : Nat) (r_ : pD) (z_ : gQ × gE) (S_ : sm_S) : Prop := p_de b_ n_ = .inr r_ ∧ d_lm r_ = 0 ∧ d_gr r_ z_ ∧ z_.1.2.1 = d_R r_ ∧ (∀ s_, s_ < r_.1.1 (d_tp r_) → r_.1.2.2.1 (40 * d_tp r_ + s_) ≠ 5 → ((z_.2 s_).length : Int) = r_.1.2.2.2.1 (40 * d_tp r_ + s_)) ∧ rT b_ n_ T_ r_.1 r_.2.1 r_.2.2.1 S_
/-! M_.design -/
def vw_363 : sx_Wl := ([(13, 0), (13, 2), (13, 3), (13, 9), (13, 10), (13, 11), (13, 12), (13, 25), (13, 26), (13, 27), (13, 28), (13, 29), (13, 32), (13, 33), (13, 34), (13, 37), (13, 38), (13, 52), (13, 53), (13, 79)], [119, 120, 121, 122, 123, 124, 125, 126, 127, 128, 129, 130, 131, 132, 133, 134, 135, 136, 137, 138, 139, 140, 141, 142, 143, 144, 145, 146, 147, 148, 149, 150, 151, 152, 153, 154, 155, 156, 157, 158, 159, 160, 161, 162, 163, 164, 165, 166, 167, 168, 169, 170, 171, 172, 173, 174, 175, 176], [])
def vq_363 (b_ : Nat → Int) (n_ : Nat) (S0_ : sm_S) (u_ : Option sm_V) (S1_ : sm_S) : Prop := ∃ v_ : Int, u_ = some (.inl v_) ∧ gi S1_ ∧ ai_fr (sx_W vw_363) S0_ S1_ ∧ (((S1_.1 13 0 0) = 1 ∧ (∀ j_ : Nat, j_ < 6 → S0_.2.2.1 153 0 j_ = 1) ∧ (S1_.1 13 0 2) = (S0_.1 13 0 2) ∧ rdf 6 S0_ S1_) ∨ ((S1_.1 13 0 0) = 0 ∧ ∃ sl_ : Nat, sl_ < 6 ∧ S0_.2.2.1 153 0 sl_ = 0 ∧ (∀ j_ : Nat, j_ < sl_ → S0_.2.2.1 153 0 j_ = 1) ∧ (S1_.1 13 0 2) = 0 ∧ rdf sl_ S0_ S1_ ∧ ((dacc b_ n_ ∧ S1_.2.2.1 153 0 sl_ = 1 ∧ dRk sl_ S1_) ∨ (¬ dacc b_ n_ ∧ S1_.2.2.1 153 0 sl_ = 0))))
end
/-! 99.zj1a -/
section
/-! calls that throw; written by wip/p55/gen/vg -/

/-! calls that throw one_ of_ several; arithmetic that may_ wrap -/
theorem sm_T_cale {P_ : sm_P} {d_ d1_ mid_ pc_ n0_ a_ b_ v_ : Nat} {z_ : Int} {L_ : sm_L} {st_ : List sm_V} {S_ : sm_S} {Q_ : sm_R → Prop} {Q1_ : Option sm_V → sm_S → Prop} {Q2_ : Nat → sm_S → Prop} (hx_ : P_.1 mid_ pc_ = some (40, n0_, a_, b_, v_, z_))
    (hc_ : (L_.length = (P_.2.1 mid_).2 && (st_.take b_).length = b_ && ((st_.drop b_).map sm_cat).sum ≤ 8 && (v_ = 1 || sm_rcv (P_.2.1 a_).1 (st_.take b_).reverse) && (sm_vsl (st_.take b_).reverse).length ≤ (P_.2.1 a_).2) = true)
    (hd_ : d1_ ≤ d_) (hsub : sm_T P_ d1_ a_ (0, sm_ent (P_.2.1 a_).2 (st_.take b_).reverse, [], S_) (fun r_ => (∃ u_ S1_, r_ = (.inl u_, S1_, 0) ∧ Q1_ u_ S1_) ∨ ∃ ex_ S1_, r_ = (.inr ex_, S1_, 1) ∧ Q2_ ex_ S1_))
    (hh_ : P_.2.2.1 mid_ = []) (kx_ : ∀ ex_ S1_, Q2_ ex_ S1_ → Q_ (.inr ex_, S1_, 1))
    (kn_ : ∀ u_ S1_, Q1_ u_ S1_ → sm_T P_ (d_ + 1) mid_ (pc_ + 3, L_, u_.toList ++ st_.drop b_, S1_) Q_) : sm_T P_ (d_ + 1) mid_ (pc_, L_, st_, S_) Q_ := by
  refine sm_T_call hx_ hc_ (hsub.deep hd_) (fun u_ S1_ k1_ q_ => ?_) (fun ex_ S1_ k1_ q_ => ?_)
  · rcases q_ with ⟨u'_, S1'_, e_, q_⟩ | ⟨ex'_, S1'_, e_, q_⟩
    · cases e_
      exact (kn_ _ _ q_).mono (fun r_ h_ => by rw [sm_add_0]; exact h_)
    · cases e_
  · rcases q_ with ⟨u'_, S1'_, e_, q_⟩ | ⟨ex'_, S1'_, e_, q_⟩
    · cases e_
    · cases e_
      rw [hh_]
      exact ⟨rfl, kx_ _ _ q_⟩
def i_add (x_ y_ : Int) : Int := (Int32.ofInt x_ + Int32.ofInt y_).toInt
def i_sub (x_ y_ : Int) : Int := (Int32.ofInt x_ - Int32.ofInt y_).toInt
theorem i_add_r (x_ y_ : Int) : -2147483648 ≤ i_add x_ y_ ∧ i_add x_ y_ ≤ 2147483647 := ⟨Int32.le_toInt _, by have := Int32.toInt_lt (Int32.ofInt x_ + Int32.ofInt y_); unfold i_add; omega⟩
theorem i_sub_r (x_ y_ : Int) : -2147483648 ≤ i_sub x_ y_ ∧ i_sub x_ y_ ≤ 2147483647 := ⟨Int32.le_toInt _, by have := Int32.toInt_lt (Int32.ofInt x_ - Int32.ofInt y_); unfold i_sub; omega⟩
/-- all_ designs that are_ there are_ right -/
def dAll (S_ : sm_S) : Prop := ∀ i_, i_ < 6 → S_.1 3 i_ 0 = 1 → dOk i_ S_
/-! ChipFlow.needThere -/
def vw_265e : sx_Wl := ([], [], [])
def vq_265e (k_ : Int) (S0_ : sm_S) (u_ : Option sm_V) (S1_ : sm_S) : Prop := u_ = none ∧ gi S1_ ∧ ai_fr (sx_W vw_265e) S0_ S1_ ∧ (k_ ≠ 0 ∧ S0_ = S1_)
def vx_265e (k_ : Int) (S0_ : sm_S) (S1_ : sm_S) : Prop := gi S1_ ∧ ai_fr (sx_W vw_265e) S0_ S1_ ∧ (k_ = 0 ∧ S1_ = S0_)
set_option maxHeartbeats 400000 in
theorem vc_265e {sc_ : Nat × (Nat → Int)} (k_ : Int) (S0_ : sm_S) (hI_ : gi S0_)  : sm_T (mt_P sc_) 0 265 (0, [some (.inl k_)], [], S0_) (fun ro9_ => (∃ u_ S1_, ro9_ = (.inl u_, S1_, 0) ∧ vq_265e k_ S0_ u_ S1_) ∨ ∃ ex_ S1_, ro9_ = (.inr ex_, S1_, 1) ∧ ex_ ∈ ([0] : List Nat) ∧ vx_265e k_ S0_ S1_) := by
  have hF_ : ai_fr (sx_W vw_265e) S0_ S0_ := ai_fr_rf
  refine sm_T_go 1 (c1 := (1, [some (.inl k_)], [.inl k_], S0_)) rfl ?_
  refine sm_T_b0 (a := 1) (z := 11) rfl (fun cx1_ => ?_) (fun cx1_ => ?_)
  · have cx1_ : k_ ≠ 0 := of_decide_eq_true cx1_
    refine sm_T_rv rfl (Or.inl ⟨_, _, rfl, rfl, hI_, hF_, ?_⟩)
    exact ⟨by omega, rfl⟩
  · have cx1_ : ¬ (k_ ≠ 0) := of_decide_eq_false cx1_
    refine sm_T_th rfl rfl (Or.inr ⟨_, _, rfl, by decide, hI_, hF_, ?_⟩)
    exact ⟨by omega, rfl⟩
end
/-! 99.zj1b -/
section
/-! ChipFlow.needRange -/
def vw_266e : sx_Wl := ([], [], [])
def vq_266e (k_ : Int) (S0_ : sm_S) (u_ : Option sm_V) (S1_ : sm_S) : Prop := u_ = none ∧ gi S1_ ∧ ai_fr (sx_W vw_266e) S0_ S1_ ∧ (k_ ≠ 0 ∧ S0_ = S1_)
def vx_266e (k_ : Int) (S0_ : sm_S) (S1_ : sm_S) : Prop := gi S1_ ∧ ai_fr (sx_W vw_266e) S0_ S1_ ∧ (k_ = 0 ∧ S1_ = S0_)
set_option maxHeartbeats 400000 in
theorem vc_266e {sc_ : Nat × (Nat → Int)} (k_ : Int) (S0_ : sm_S) (hI_ : gi S0_)  : sm_T (mt_P sc_) 0 266 (0, [some (.inl k_)], [], S0_) (fun ro9_ => (∃ u_ S1_, ro9_ = (.inl u_, S1_, 0) ∧ vq_266e k_ S0_ u_ S1_) ∨ ∃ ex_ S1_, ro9_ = (.inr ex_, S1_, 1) ∧ ex_ ∈ ([1] : List Nat) ∧ vx_266e k_ S0_ S1_) := by
  have hF_ : ai_fr (sx_W vw_266e) S0_ S0_ := ai_fr_rf
  refine sm_T_go 1 (c1 := (1, [some (.inl k_)], [.inl k_], S0_)) rfl ?_
  refine sm_T_b0 (a := 1) (z := 11) rfl (fun cx1_ => ?_) (fun cx1_ => ?_)
  · have cx1_ : k_ ≠ 0 := of_decide_eq_true cx1_
    refine sm_T_rv rfl (Or.inl ⟨_, _, rfl, rfl, hI_, hF_, ?_⟩)
    exact ⟨by omega, rfl⟩
  · have cx1_ : ¬ (k_ ≠ 0) := of_decide_eq_false cx1_
    refine sm_T_th rfl rfl (Or.inr ⟨_, _, rfl, by decide, hI_, hF_, ?_⟩)
    exact ⟨by omega, rfl⟩
end
/-! 99.zj1c -/
section
/-! ChipFlow.needNow -/
def vw_267e : sx_Wl := ([], [], [])
def vq_267e (k_ : Int) (S0_ : sm_S) (u_ : Option sm_V) (S1_ : sm_S) : Prop := u_ = none ∧ gi S1_ ∧ ai_fr (sx_W vw_267e) S0_ S1_ ∧ (k_ ≠ 0 ∧ S0_ = S1_)
def vx_267e (k_ : Int) (S0_ : sm_S) (S1_ : sm_S) : Prop := gi S1_ ∧ ai_fr (sx_W vw_267e) S0_ S1_ ∧ (k_ = 0 ∧ S1_ = S0_)
set_option maxHeartbeats 400000 in
theorem vc_267e {sc_ : Nat × (Nat → Int)} (k_ : Int) (S0_ : sm_S) (hI_ : gi S0_)  : sm_T (mt_P sc_) 0 267 (0, [some (.inl k_)], [], S0_) (fun ro9_ => (∃ u_ S1_, ro9_ = (.inl u_, S1_, 0) ∧ vq_267e k_ S0_ u_ S1_) ∨ ∃ ex_ S1_, ro9_ = (.inr ex_, S1_, 1) ∧ ex_ ∈ ([2] : List Nat) ∧ vx_267e k_ S0_ S1_) := by
  have hF_ : ai_fr (sx_W vw_267e) S0_ S0_ := ai_fr_rf
  refine sm_T_go 1 (c1 := (1, [some (.inl k_)], [.inl k_], S0_)) rfl ?_
  refine sm_T_b0 (a := 1) (z := 11) rfl (fun cx1_ => ?_) (fun cx1_ => ?_)
  · have cx1_ : k_ ≠ 0 := of_decide_eq_true cx1_
    refine sm_T_rv rfl (Or.inl ⟨_, _, rfl, rfl, hI_, hF_, ?_⟩)
    exact ⟨by omega, rfl⟩
  · have cx1_ : ¬ (k_ ≠ 0) := of_decide_eq_false cx1_
    refine sm_T_th rfl rfl (Or.inr ⟨_, _, rfl, by decide, hI_, hF_, ?_⟩)
    exact ⟨by omega, rfl⟩
end
/-! 99.zj1d -/
section
/-! ChipFlow.needRoom -/
def vw_268e : sx_Wl := ([], [], [])
def vq_268e (k_ : Int) (S0_ : sm_S) (u_ : Option sm_V) (S1_ : sm_S) : Prop := u_ = none ∧ gi S1_ ∧ ai_fr (sx_W vw_268e) S0_ S1_ ∧ (k_ ≠ 0 ∧ S0_ = S1_)
def vx_268e (k_ : Int) (S0_ : sm_S) (S1_ : sm_S) : Prop := gi S1_ ∧ ai_fr (sx_W vw_268e) S0_ S1_ ∧ (k_ = 0 ∧ S1_ = S0_)
set_option maxHeartbeats 400000 in
theorem vc_268e {sc_ : Nat × (Nat → Int)} (k_ : Int) (S0_ : sm_S) (hI_ : gi S0_)  : sm_T (mt_P sc_) 0 268 (0, [some (.inl k_)], [], S0_) (fun ro9_ => (∃ u_ S1_, ro9_ = (.inl u_, S1_, 0) ∧ vq_268e k_ S0_ u_ S1_) ∨ ∃ ex_ S1_, ro9_ = (.inr ex_, S1_, 1) ∧ ex_ ∈ ([3] : List Nat) ∧ vx_268e k_ S0_ S1_) := by
  have hF_ : ai_fr (sx_W vw_268e) S0_ S0_ := ai_fr_rf
  refine sm_T_go 1 (c1 := (1, [some (.inl k_)], [.inl k_], S0_)) rfl ?_
  refine sm_T_b0 (a := 1) (z := 11) rfl (fun cx1_ => ?_) (fun cx1_ => ?_)
  · have cx1_ : k_ ≠ 0 := of_decide_eq_true cx1_
    refine sm_T_rv rfl (Or.inl ⟨_, _, rfl, rfl, hI_, hF_, ?_⟩)
    exact ⟨by omega, rfl⟩
  · have cx1_ : ¬ (k_ ≠ 0) := of_decide_eq_false cx1_
    refine sm_T_th rfl rfl (Or.inr ⟨_, _, rfl, by decide, hI_, hF_, ?_⟩)
    exact ⟨by omega, rfl⟩
end
/-! 99.zj1e -/
section
/-! ChipFlow.designAt -/
def vw_270 : sx_Wl := ([], [], [])
def vq_270 (k_ : Int) (S0_ : sm_S) (u_ : Option sm_V) (S1_ : sm_S) : Prop := u_ = some (.inr (.inr (some (3, k_.toNat)))) ∧ gi S1_ ∧ ai_fr (sx_W vw_270) S0_ S1_ ∧ (S0_ = S1_ ∧ (0 ≤ k_ ∧ k_ < 6) ∧ S0_.1 3 k_.toNat 0 = 1)
def vx_270 (k_ : Int) (S0_ : sm_S) (S1_ : sm_S) : Prop := gi S1_ ∧ ai_fr (sx_W vw_270) S0_ S1_ ∧ (S1_ = S0_)
set_option maxHeartbeats 400000 in
theorem vc_270 {sc_ : Nat × (Nat → Int)} (k_ : Int) (S0_ : sm_S) (hI_ : gi S0_)  : sm_T (mt_P sc_) 1 270 (0, [some (.inr (.inr (some (12, 0)))), some (.inl k_)], [], S0_) (fun ro9_ => (∃ u_ S1_, ro9_ = (.inl u_, S1_, 0) ∧ vq_270 k_ S0_ u_ S1_) ∨ ∃ ex_ S1_, ro9_ = (.inr ex_, S1_, 1) ∧ ex_ ∈ ([0] : List Nat) ∧ vx_270 k_ S0_ S1_) := by
  have hF_ : ai_fr (sx_W vw_270) S0_ S0_ := ai_fr_rf
  refine sm_T_go 1 (c1 := (1, [some (.inr (.inr (some (12, 0)))), some (.inl k_)], [.inl k_], S0_)) rfl ?_
  refine sm_T_b0 (a := 2) (z := 25) rfl (fun cx1_ => ?_) (fun cx1_ => ?_)
  · have cx1_ : k_ < 0 := of_decide_eq_true cx1_
    refine sm_T_go 1 (c1 := (27, [some (.inr (.inr (some (12, 0)))), some (.inl k_)], [.inl 0], S0_)) rfl ?_
    refine sm_T_cale (d1_ := 0) (Q1_ := vq_265e 0 S0_) (Q2_ := (fun ex_ S1_ => ex_ ∈ ([0] : List Nat) ∧ vx_265e 0 S0_ S1_)) rfl rfl (by decide) (vc_265e 0 S0_ hI_ ) rfl (fun xx7_ Sx2_ px5_ => ?_) (fun u_ Sx2_ px5_ => ?_)
    · obtain ⟨px5m, hIx3_, hFx4_, px5_⟩ := px5_
      refine Or.inr ⟨_, _, rfl, by first | exact px5m | (simp only [List.mem_cons, List.not_mem_nil, or_false] at px5m ⊢; omega), hIx3_, ai_fr_tr hF_ (fr_le hFx4_ rfl), ?_⟩
      exact px5_.2
    · exact absurd rfl px5_.2.2.2.1
  · have cx1_ : ¬ (k_ < 0) := of_decide_eq_false cx1_
    refine sm_T_go 2 (c1 := (7, [some (.inr (.inr (some (12, 0)))), some (.inl k_)], [.inl 6, .inl k_], S0_)) rfl ?_
    refine sm_T_br (a := 3) (z := 19) rfl (fun cx8_ => ?_) (fun cx8_ => ?_)
    · have cx8_ : 6 ≤ k_ := of_decide_eq_true cx8_
      refine sm_T_go 1 (c1 := (27, [some (.inr (.inr (some (12, 0)))), some (.inl k_)], [.inl 0], S0_)) rfl ?_
      refine sm_T_cale (d1_ := 0) (Q1_ := vq_265e 0 S0_) (Q2_ := (fun ex_ S1_ => ex_ ∈ ([0] : List Nat) ∧ vx_265e 0 S0_ S1_)) rfl rfl (by decide) (vc_265e 0 S0_ hI_ ) rfl (fun xx14_ Sx9_ px12_ => ?_) (fun u_ Sx9_ px12_ => ?_)
      · obtain ⟨px12m, hIx10_, hFx11_, px12_⟩ := px12_
        refine Or.inr ⟨_, _, rfl, by first | exact px12m | (simp only [List.mem_cons, List.not_mem_nil, or_false] at px12m ⊢; omega), hIx10_, ai_fr_tr hF_ (fr_le hFx11_ rfl), ?_⟩
        exact px12_.2
      · exact absurd rfl px12_.2.2.2.1
    · have cx8_ : ¬ (6 ≤ k_) := of_decide_eq_false cx8_
      refine sm_T_go 3 (c1 := (15, [some (.inr (.inr (some (12, 0)))), some (.inl k_)], [.inl k_, .inr (.inr (some (110, 0)))], S0_)) rfl ?_
      refine sm_T_aald (t0 := 4) (n := 6) rfl rfl (by omega) (by omega) ?_
      have bx15_ : 0 ≤ S0_.1 3 k_.toNat 0 ∧ S0_.1 3 k_.toNat 0 ≤ 1 := hI_.1 3 k_.toNat 0 rfl
      refine sm_T_go 1 (c1 := (19, [some (.inr (.inr (some (12, 0)))), some (.inl k_)], [.inl (S0_.1 3 k_.toNat 0)], S0_)) rfl ?_
      refine sm_T_b0 (a := 0) (z := 7) rfl (fun cx16_ => ?_) (fun cx16_ => ?_)
      · have cx16_ : (S0_.1 3 k_.toNat 0) = 0 := of_decide_eq_true cx16_
        refine sm_T_go 1 (c1 := (27, [some (.inr (.inr (some (12, 0)))), some (.inl k_)], [.inl 0], S0_)) rfl ?_
        refine sm_T_cale (d1_ := 0) (Q1_ := vq_265e 0 S0_) (Q2_ := (fun ex_ S1_ => ex_ ∈ ([0] : List Nat) ∧ vx_265e 0 S0_ S1_)) rfl rfl (by decide) (vc_265e 0 S0_ hI_ ) rfl (fun xx22_ Sx17_ px20_ => ?_) (fun u_ Sx17_ px20_ => ?_)
        · obtain ⟨px20m, hIx18_, hFx19_, px20_⟩ := px20_
          refine Or.inr ⟨_, _, rfl, by first | exact px20m | (simp only [List.mem_cons, List.not_mem_nil, or_false] at px20m ⊢; omega), hIx18_, ai_fr_tr hF_ (fr_le hFx19_ rfl), ?_⟩
          exact px20_.2
        · exact absurd rfl px20_.2.2.2.1
      · have cx16_ : ¬ ((S0_.1 3 k_.toNat 0) = 0) := of_decide_eq_false cx16_
        refine sm_T_go 2 (c1 := (27, [some (.inr (.inr (some (12, 0)))), some (.inl k_)], [.inl 1], S0_)) rfl ?_
        refine sm_T_cale (d1_ := 0) (Q1_ := vq_265e 1 S0_) (Q2_ := (fun ex_ S1_ => ex_ ∈ ([0] : List Nat) ∧ vx_265e 1 S0_ S1_)) rfl rfl (by decide) (vc_265e 1 S0_ hI_ ) rfl (fun xx28_ Sx23_ px26_ => ?_) (fun u_ Sx23_ px26_ => ?_)
        · exact absurd px26_.2.2.2.1 (by decide)
        obtain ⟨rfl, -, -, px26_, rfl⟩ := px26_
        refine sm_T_go 3 (c1 := (35, [some (.inr (.inr (some (12, 0)))), some (.inl k_)], [.inl k_, .inr (.inr (some (110, 0)))], S0_)) rfl ?_
        refine sm_T_aald (t0 := 4) (n := 6) rfl rfl (by omega) (by omega) ?_
        refine sm_T_ra rfl (Or.inl ⟨_, _, rfl, rfl, hI_, hF_, ?_⟩)
        exact ⟨rfl, by omega, by omega⟩
end
/-! 99.zj1f -/
section
/-! ChipFlow.libraryAt -/
def vw_271 : sx_Wl := ([], [], [])
def vq_271 (k_ : Int) (S0_ : sm_S) (u_ : Option sm_V) (S1_ : sm_S) : Prop := u_ = some (.inr (.inr (some (5, k_.toNat)))) ∧ gi S1_ ∧ ai_fr (sx_W vw_271) S0_ S1_ ∧ (S0_ = S1_ ∧ (0 ≤ k_ ∧ k_ < 3) ∧ S0_.1 5 k_.toNat 0 = 1)
def vx_271 (k_ : Int) (S0_ : sm_S) (S1_ : sm_S) : Prop := gi S1_ ∧ ai_fr (sx_W vw_271) S0_ S1_ ∧ (S1_ = S0_)
set_option maxHeartbeats 400000 in
theorem vc_271 {sc_ : Nat × (Nat → Int)} (k_ : Int) (S0_ : sm_S) (hI_ : gi S0_)  : sm_T (mt_P sc_) 1 271 (0, [some (.inr (.inr (some (12, 0)))), some (.inl k_)], [], S0_) (fun ro9_ => (∃ u_ S1_, ro9_ = (.inl u_, S1_, 0) ∧ vq_271 k_ S0_ u_ S1_) ∨ ∃ ex_ S1_, ro9_ = (.inr ex_, S1_, 1) ∧ ex_ ∈ ([0] : List Nat) ∧ vx_271 k_ S0_ S1_) := by
  have hF_ : ai_fr (sx_W vw_271) S0_ S0_ := ai_fr_rf
  refine sm_T_go 1 (c1 := (1, [some (.inr (.inr (some (12, 0)))), some (.inl k_)], [.inl k_], S0_)) rfl ?_
  refine sm_T_b0 (a := 2) (z := 24) rfl (fun cx1_ => ?_) (fun cx1_ => ?_)
  · have cx1_ : k_ < 0 := of_decide_eq_true cx1_
    refine sm_T_go 1 (c1 := (26, [some (.inr (.inr (some (12, 0)))), some (.inl k_)], [.inl 0], S0_)) rfl ?_
    refine sm_T_cale (d1_ := 0) (Q1_ := vq_265e 0 S0_) (Q2_ := (fun ex_ S1_ => ex_ ∈ ([0] : List Nat) ∧ vx_265e 0 S0_ S1_)) rfl rfl (by decide) (vc_265e 0 S0_ hI_ ) rfl (fun xx7_ Sx2_ px5_ => ?_) (fun u_ Sx2_ px5_ => ?_)
    · obtain ⟨px5m, hIx3_, hFx4_, px5_⟩ := px5_
      refine Or.inr ⟨_, _, rfl, by first | exact px5m | (simp only [List.mem_cons, List.not_mem_nil, or_false] at px5m ⊢; omega), hIx3_, ai_fr_tr hF_ (fr_le hFx4_ rfl), ?_⟩
      exact px5_.2
    · exact absurd rfl px5_.2.2.2.1
  · have cx1_ : ¬ (k_ < 0) := of_decide_eq_false cx1_
    refine sm_T_go 2 (c1 := (6, [some (.inr (.inr (some (12, 0)))), some (.inl k_)], [.inl 3, .inl k_], S0_)) rfl ?_
    refine sm_T_br (a := 3) (z := 19) rfl (fun cx8_ => ?_) (fun cx8_ => ?_)
    · have cx8_ : 3 ≤ k_ := of_decide_eq_true cx8_
      refine sm_T_go 1 (c1 := (26, [some (.inr (.inr (some (12, 0)))), some (.inl k_)], [.inl 0], S0_)) rfl ?_
      refine sm_T_cale (d1_ := 0) (Q1_ := vq_265e 0 S0_) (Q2_ := (fun ex_ S1_ => ex_ ∈ ([0] : List Nat) ∧ vx_265e 0 S0_ S1_)) rfl rfl (by decide) (vc_265e 0 S0_ hI_ ) rfl (fun xx14_ Sx9_ px12_ => ?_) (fun u_ Sx9_ px12_ => ?_)
      · obtain ⟨px12m, hIx10_, hFx11_, px12_⟩ := px12_
        refine Or.inr ⟨_, _, rfl, by first | exact px12m | (simp only [List.mem_cons, List.not_mem_nil, or_false] at px12m ⊢; omega), hIx10_, ai_fr_tr hF_ (fr_le hFx11_ rfl), ?_⟩
        exact px12_.2
      · exact absurd rfl px12_.2.2.2.1
    · have cx8_ : ¬ (3 ≤ k_) := of_decide_eq_false cx8_
      refine sm_T_go 3 (c1 := (14, [some (.inr (.inr (some (12, 0)))), some (.inl k_)], [.inl k_, .inr (.inr (some (111, 0)))], S0_)) rfl ?_
      refine sm_T_aald (t0 := 5) (n := 3) rfl rfl (by omega) (by omega) ?_
      have bx15_ : 0 ≤ S0_.1 5 k_.toNat 0 ∧ S0_.1 5 k_.toNat 0 ≤ 1 := hI_.1 5 k_.toNat 0 rfl
      refine sm_T_go 1 (c1 := (18, [some (.inr (.inr (some (12, 0)))), some (.inl k_)], [.inl (S0_.1 5 k_.toNat 0)], S0_)) rfl ?_
      refine sm_T_b0 (a := 0) (z := 7) rfl (fun cx16_ => ?_) (fun cx16_ => ?_)
      · have cx16_ : (S0_.1 5 k_.toNat 0) = 0 := of_decide_eq_true cx16_
        refine sm_T_go 1 (c1 := (26, [some (.inr (.inr (some (12, 0)))), some (.inl k_)], [.inl 0], S0_)) rfl ?_
        refine sm_T_cale (d1_ := 0) (Q1_ := vq_265e 0 S0_) (Q2_ := (fun ex_ S1_ => ex_ ∈ ([0] : List Nat) ∧ vx_265e 0 S0_ S1_)) rfl rfl (by decide) (vc_265e 0 S0_ hI_ ) rfl (fun xx22_ Sx17_ px20_ => ?_) (fun u_ Sx17_ px20_ => ?_)
        · obtain ⟨px20m, hIx18_, hFx19_, px20_⟩ := px20_
          refine Or.inr ⟨_, _, rfl, by first | exact px20m | (simp only [List.mem_cons, List.not_mem_nil, or_false] at px20m ⊢; omega), hIx18_, ai_fr_tr hF_ (fr_le hFx19_ rfl), ?_⟩
          exact px20_.2
        · exact absurd rfl px20_.2.2.2.1
      · have cx16_ : ¬ ((S0_.1 5 k_.toNat 0) = 0) := of_decide_eq_false cx16_
        refine sm_T_go 2 (c1 := (26, [some (.inr (.inr (some (12, 0)))), some (.inl k_)], [.inl 1], S0_)) rfl ?_
        refine sm_T_cale (d1_ := 0) (Q1_ := vq_265e 1 S0_) (Q2_ := (fun ex_ S1_ => ex_ ∈ ([0] : List Nat) ∧ vx_265e 1 S0_ S1_)) rfl rfl (by decide) (vc_265e 1 S0_ hI_ ) rfl (fun xx28_ Sx23_ px26_ => ?_) (fun u_ Sx23_ px26_ => ?_)
        · exact absurd px26_.2.2.2.1 (by decide)
        obtain ⟨rfl, -, -, px26_, rfl⟩ := px26_
        refine sm_T_go 3 (c1 := (34, [some (.inr (.inr (some (12, 0)))), some (.inl k_)], [.inl k_, .inr (.inr (some (111, 0)))], S0_)) rfl ?_
        refine sm_T_aald (t0 := 5) (n := 3) rfl rfl (by omega) (by omega) ?_
        refine sm_T_ra rfl (Or.inl ⟨_, _, rfl, rfl, hI_, hF_, ?_⟩)
        exact ⟨rfl, by omega, by omega⟩
end
/-! 99.zj1g -/
section
/-! ChipFlow.chipAt -/
def vw_272 : sx_Wl := ([], [], [])
def vq_272 (k_ : Int) (S0_ : sm_S) (u_ : Option sm_V) (S1_ : sm_S) : Prop := u_ = some (.inr (.inr (some (2, k_.toNat)))) ∧ gi S1_ ∧ ai_fr (sx_W vw_272) S0_ S1_ ∧ (S0_ = S1_ ∧ (0 ≤ k_ ∧ k_ < 4) ∧ S0_.1 2 k_.toNat 0 = 1)
def vx_272 (k_ : Int) (S0_ : sm_S) (S1_ : sm_S) : Prop := gi S1_ ∧ ai_fr (sx_W vw_272) S0_ S1_ ∧ (S1_ = S0_)
set_option maxHeartbeats 400000 in
theorem vc_272 {sc_ : Nat × (Nat → Int)} (k_ : Int) (S0_ : sm_S) (hI_ : gi S0_)  : sm_T (mt_P sc_) 1 272 (0, [some (.inr (.inr (some (12, 0)))), some (.inl k_)], [], S0_) (fun ro9_ => (∃ u_ S1_, ro9_ = (.inl u_, S1_, 0) ∧ vq_272 k_ S0_ u_ S1_) ∨ ∃ ex_ S1_, ro9_ = (.inr ex_, S1_, 1) ∧ ex_ ∈ ([0] : List Nat) ∧ vx_272 k_ S0_ S1_) := by
  have hF_ : ai_fr (sx_W vw_272) S0_ S0_ := ai_fr_rf
  refine sm_T_go 1 (c1 := (1, [some (.inr (.inr (some (12, 0)))), some (.inl k_)], [.inl k_], S0_)) rfl ?_
  refine sm_T_b0 (a := 2) (z := 24) rfl (fun cx1_ => ?_) (fun cx1_ => ?_)
  · have cx1_ : k_ < 0 := of_decide_eq_true cx1_
    refine sm_T_go 1 (c1 := (26, [some (.inr (.inr (some (12, 0)))), some (.inl k_)], [.inl 0], S0_)) rfl ?_
    refine sm_T_cale (d1_ := 0) (Q1_ := vq_265e 0 S0_) (Q2_ := (fun ex_ S1_ => ex_ ∈ ([0] : List Nat) ∧ vx_265e 0 S0_ S1_)) rfl rfl (by decide) (vc_265e 0 S0_ hI_ ) rfl (fun xx7_ Sx2_ px5_ => ?_) (fun u_ Sx2_ px5_ => ?_)
    · obtain ⟨px5m, hIx3_, hFx4_, px5_⟩ := px5_
      refine Or.inr ⟨_, _, rfl, by first | exact px5m | (simp only [List.mem_cons, List.not_mem_nil, or_false] at px5m ⊢; omega), hIx3_, ai_fr_tr hF_ (fr_le hFx4_ rfl), ?_⟩
      exact px5_.2
    · exact absurd rfl px5_.2.2.2.1
  · have cx1_ : ¬ (k_ < 0) := of_decide_eq_false cx1_
    refine sm_T_go 2 (c1 := (6, [some (.inr (.inr (some (12, 0)))), some (.inl k_)], [.inl 4, .inl k_], S0_)) rfl ?_
    refine sm_T_br (a := 3) (z := 19) rfl (fun cx8_ => ?_) (fun cx8_ => ?_)
    · have cx8_ : 4 ≤ k_ := of_decide_eq_true cx8_
      refine sm_T_go 1 (c1 := (26, [some (.inr (.inr (some (12, 0)))), some (.inl k_)], [.inl 0], S0_)) rfl ?_
      refine sm_T_cale (d1_ := 0) (Q1_ := vq_265e 0 S0_) (Q2_ := (fun ex_ S1_ => ex_ ∈ ([0] : List Nat) ∧ vx_265e 0 S0_ S1_)) rfl rfl (by decide) (vc_265e 0 S0_ hI_ ) rfl (fun xx14_ Sx9_ px12_ => ?_) (fun u_ Sx9_ px12_ => ?_)
      · obtain ⟨px12m, hIx10_, hFx11_, px12_⟩ := px12_
        refine Or.inr ⟨_, _, rfl, by first | exact px12m | (simp only [List.mem_cons, List.not_mem_nil, or_false] at px12m ⊢; omega), hIx10_, ai_fr_tr hF_ (fr_le hFx11_ rfl), ?_⟩
        exact px12_.2
      · exact absurd rfl px12_.2.2.2.1
    · have cx8_ : ¬ (4 ≤ k_) := of_decide_eq_false cx8_
      refine sm_T_go 3 (c1 := (14, [some (.inr (.inr (some (12, 0)))), some (.inl k_)], [.inl k_, .inr (.inr (some (112, 0)))], S0_)) rfl ?_
      refine sm_T_aald (t0 := 6) (n := 4) rfl rfl (by omega) (by omega) ?_
      have bx15_ : 0 ≤ S0_.1 2 k_.toNat 0 ∧ S0_.1 2 k_.toNat 0 ≤ 1 := hI_.1 2 k_.toNat 0 rfl
      refine sm_T_go 1 (c1 := (18, [some (.inr (.inr (some (12, 0)))), some (.inl k_)], [.inl (S0_.1 2 k_.toNat 0)], S0_)) rfl ?_
      refine sm_T_b0 (a := 0) (z := 7) rfl (fun cx16_ => ?_) (fun cx16_ => ?_)
      · have cx16_ : (S0_.1 2 k_.toNat 0) = 0 := of_decide_eq_true cx16_
        refine sm_T_go 1 (c1 := (26, [some (.inr (.inr (some (12, 0)))), some (.inl k_)], [.inl 0], S0_)) rfl ?_
        refine sm_T_cale (d1_ := 0) (Q1_ := vq_265e 0 S0_) (Q2_ := (fun ex_ S1_ => ex_ ∈ ([0] : List Nat) ∧ vx_265e 0 S0_ S1_)) rfl rfl (by decide) (vc_265e 0 S0_ hI_ ) rfl (fun xx22_ Sx17_ px20_ => ?_) (fun u_ Sx17_ px20_ => ?_)
        · obtain ⟨px20m, hIx18_, hFx19_, px20_⟩ := px20_
          refine Or.inr ⟨_, _, rfl, by first | exact px20m | (simp only [List.mem_cons, List.not_mem_nil, or_false] at px20m ⊢; omega), hIx18_, ai_fr_tr hF_ (fr_le hFx19_ rfl), ?_⟩
          exact px20_.2
        · exact absurd rfl px20_.2.2.2.1
      · have cx16_ : ¬ ((S0_.1 2 k_.toNat 0) = 0) := of_decide_eq_false cx16_
        refine sm_T_go 2 (c1 := (26, [some (.inr (.inr (some (12, 0)))), some (.inl k_)], [.inl 1], S0_)) rfl ?_
        refine sm_T_cale (d1_ := 0) (Q1_ := vq_265e 1 S0_) (Q2_ := (fun ex_ S1_ => ex_ ∈ ([0] : List Nat) ∧ vx_265e 1 S0_ S1_)) rfl rfl (by decide) (vc_265e 1 S0_ hI_ ) rfl (fun xx28_ Sx23_ px26_ => ?_) (fun u_ Sx23_ px26_ => ?_)
        · exact absurd px26_.2.2.2.1 (by decide)
        obtain ⟨rfl, -, -, px26_, rfl⟩ := px26_
        refine sm_T_go 3 (c1 := (34, [some (.inr (.inr (some (12, 0)))), some (.inl k_)], [.inl k_, .inr (.inr (some (112, 0)))], S0_)) rfl ?_
        refine sm_T_aald (t0 := 6) (n := 4) rfl rfl (by omega) (by omega) ?_
        refine sm_T_ra rfl (Or.inl ⟨_, _, rfl, rfl, hI_, hF_, ?_⟩)
        exact ⟨rfl, by omega, by omega⟩
end
/-! 99.zj2a -/
section
/-! the face of the class: small calls; written by wip/p55/gen/vg -/
/-! ChipFlow.fault -/
def vw_215 : sx_Wl := ([], [], [])
def vq_215  (S0_ : sm_S) (u_ : Option sm_V) (S1_ : sm_S) : Prop := ∃ v_ : Int, u_ = some (.inl v_) ∧ gi S1_ ∧ ai_fr (sx_W vw_215) S0_ S1_ ∧ (True)
set_option maxHeartbeats 400000 in
theorem vc_215 {sc_ : Nat × (Nat → Int)}  (S0_ : sm_S) (hI_ : gi S0_)  : sm_T (mt_P sc_) 0 215 (0, [some (.inr (.inr (some (12, 0))))], [], S0_) (fun ro9_ => ∃ u_ S1_, ro9_ = (.inl u_, S1_, 0) ∧ vq_215  S0_ u_ S1_) := by
  have hF_ : ai_fr (sx_W vw_215) S0_ S0_ := ai_fr_rf
  have bx1_ : 0 ≤ S0_.1 12 0 10 ∧ S0_.1 12 0 10 ≤ 23 := hI_.1 12 0 10 rfl
  refine sm_T_go 2 (c1 := (4, [some (.inr (.inr (some (12, 0))))], [.inl (S0_.1 12 0 10)], S0_)) rfl ?_
  refine sm_T_ri rfl ⟨_, _, rfl, _, rfl, hI_, hF_, ?_⟩
  trivial
end
/-! 99.zj2b -/
section
/-! ChipFlow.tape -/
def vw_216 : sx_Wl := ([], [], [])
def vq_216  (S0_ : sm_S) (u_ : Option sm_V) (S1_ : sm_S) : Prop := ∃ v_ : Int, u_ = some (.inl v_) ∧ gi S1_ ∧ ai_fr (sx_W vw_216) S0_ S1_ ∧ (v_ = (S1_.1 10 0 1) ∧ S1_ = S0_)
set_option maxHeartbeats 400000 in
theorem vc_216 {sc_ : Nat × (Nat → Int)}  (S0_ : sm_S) (hI_ : gi S0_)  : sm_T (mt_P sc_) 0 216 (0, [some (.inr (.inr (some (12, 0))))], [], S0_) (fun ro9_ => ∃ u_ S1_, ro9_ = (.inl u_, S1_, 0) ∧ vq_216  S0_ u_ S1_) := by
  have hF_ : ai_fr (sx_W vw_216) S0_ S0_ := ai_fr_rf
  have bx1_ : 0 ≤ S0_.1 10 0 1 ∧ S0_.1 10 0 1 ≤ 1280 := hI_.1 10 0 1 rfl
  refine sm_T_go 3 (c1 := (7, [some (.inr (.inr (some (12, 0))))], [.inl (S0_.1 10 0 1)], S0_)) rfl ?_
  refine sm_T_ri rfl ⟨_, _, rfl, _, rfl, hI_, hF_, ?_⟩
  exact ⟨rfl, rfl⟩
end
/-! 99.zj2d -/
section
/-! ChipFlow.isThere -/
def vw_218 : sx_Wl := ([], [], [])
def vq_218 (kd_ : Int) (k_ : Int) (S0_ : sm_S) (u_ : Option sm_V) (S1_ : sm_S) : Prop := ∃ v_ : Int, u_ = some (.inl v_) ∧ gi S1_ ∧ ai_fr (sx_W vw_218) S0_ S1_ ∧ (S1_ = S0_)
def vx_218 (kd_ : Int) (k_ : Int) (S0_ : sm_S) (S1_ : sm_S) : Prop := gi S1_ ∧ ai_fr (sx_W vw_218) S0_ S1_ ∧ (S1_ = S0_)
set_option maxHeartbeats 400000 in
theorem vc_218 {sc_ : Nat × (Nat → Int)} (kd_ : Int) (k_ : Int) (S0_ : sm_S) (hI_ : gi S0_)  : sm_T (mt_P sc_) 1 218 (0, [some (.inr (.inr (some (12, 0)))), some (.inl kd_), some (.inl k_)], [], S0_) (fun ro9_ => (∃ u_ S1_, ro9_ = (.inl u_, S1_, 0) ∧ vq_218 kd_ k_ S0_ u_ S1_) ∨ ∃ ex_ S1_, ro9_ = (.inr ex_, S1_, 1) ∧ ex_ ∈ ([1] : List Nat) ∧ vx_218 kd_ k_ S0_ S1_) := by
  have hF_ : ai_fr (sx_W vw_218) S0_ S0_ := ai_fr_rf
  refine sm_T_go 1 (c1 := (1, [some (.inr (.inr (some (12, 0)))), some (.inl kd_), some (.inl k_)], [.inl kd_], S0_)) rfl ?_
  refine sm_T_b0 (a := 2) (z := 12) rfl (fun cx1_ => ?_) (fun cx1_ => ?_)
  · have cx1_ : kd_ < 0 := of_decide_eq_true cx1_
    refine sm_T_go 1 (c1 := (14, [some (.inr (.inr (some (12, 0)))), some (.inl kd_), some (.inl k_)], [.inl 0], S0_)) rfl ?_
    refine sm_T_cale (d1_ := 0) (Q1_ := vq_266e 0 S0_) (Q2_ := (fun ex_ S1_ => ex_ ∈ ([1] : List Nat) ∧ vx_266e 0 S0_ S1_)) rfl rfl (by decide) (vc_266e 0 S0_ hI_ ) rfl (fun xx7_ Sx2_ px5_ => ?_) (fun u_ Sx2_ px5_ => ?_)
    · obtain ⟨px5m, hIx3_, hFx4_, px5_⟩ := px5_
      refine Or.inr ⟨_, _, rfl, by first | exact px5m | (simp only [List.mem_cons, List.not_mem_nil, or_false] at px5m ⊢; omega), hIx3_, ai_fr_tr hF_ (fr_le hFx4_ rfl), ?_⟩
      first | exact px5_.2 | exact px5_ | rfl
    · exact absurd rfl px5_.2.2.2.1
  · have cx1_ : ¬ (kd_ < 0) := of_decide_eq_false cx1_
    refine sm_T_go 2 (c1 := (6, [some (.inr (.inr (some (12, 0)))), some (.inl kd_), some (.inl k_)], [.inl 2, .inl kd_], S0_)) rfl ?_
    refine sm_T_br (a := 4) (z := 7) rfl (fun cx8_ => ?_) (fun cx8_ => ?_)
    · have cx8_ : 2 < kd_ := of_decide_eq_true cx8_
      refine sm_T_go 1 (c1 := (14, [some (.inr (.inr (some (12, 0)))), some (.inl kd_), some (.inl k_)], [.inl 0], S0_)) rfl ?_
      refine sm_T_cale (d1_ := 0) (Q1_ := vq_266e 0 S0_) (Q2_ := (fun ex_ S1_ => ex_ ∈ ([1] : List Nat) ∧ vx_266e 0 S0_ S1_)) rfl rfl (by decide) (vc_266e 0 S0_ hI_ ) rfl (fun xx14_ Sx9_ px12_ => ?_) (fun u_ Sx9_ px12_ => ?_)
      · obtain ⟨px12m, hIx10_, hFx11_, px12_⟩ := px12_
        refine Or.inr ⟨_, _, rfl, by first | exact px12m | (simp only [List.mem_cons, List.not_mem_nil, or_false] at px12m ⊢; omega), hIx10_, ai_fr_tr hF_ (fr_le hFx11_ rfl), ?_⟩
        first | exact px12_.2 | exact px12_ | rfl
      · exact absurd rfl px12_.2.2.2.1
    · have cx8_ : ¬ (2 < kd_) := of_decide_eq_false cx8_
      refine sm_T_go 2 (c1 := (14, [some (.inr (.inr (some (12, 0)))), some (.inl kd_), some (.inl k_)], [.inl 1], S0_)) rfl ?_
      refine sm_T_cale (d1_ := 0) (Q1_ := vq_266e 1 S0_) (Q2_ := (fun ex_ S1_ => ex_ ∈ ([1] : List Nat) ∧ vx_266e 1 S0_ S1_)) rfl rfl (by decide) (vc_266e 1 S0_ hI_ ) rfl (fun xx20_ Sx15_ px18_ => ?_) (fun u_ Sx15_ px18_ => ?_)
      · exact absurd px18_.2.2.2.1 (by decide)
      obtain ⟨rfl, -, -, px18_, rfl⟩ := px18_
      refine sm_T_go 1 (c1 := (18, [some (.inr (.inr (some (12, 0)))), some (.inl kd_), some (.inl k_)], [.inl kd_], S0_)) rfl ?_
      refine sm_T_b0 (a := 1) (z := 31) rfl (fun cx21_ => ?_) (fun cx21_ => ?_)
      · have cx21_ : kd_ ≠ 0 := of_decide_eq_true cx21_
        refine sm_T_go 2 (c1 := (51, [some (.inr (.inr (some (12, 0)))), some (.inl kd_), some (.inl k_)], [.inl 1, .inl kd_], S0_)) rfl ?_
        refine sm_T_br (a := 1) (z := 30) rfl (fun cx22_ => ?_) (fun cx22_ => ?_)
        · have cx22_ : kd_ ≠ 1 := of_decide_eq_true cx22_
          refine sm_T_go 1 (c1 := (82, [some (.inr (.inr (some (12, 0)))), some (.inl kd_), some (.inl k_)], [.inl k_], S0_)) rfl ?_
          refine sm_T_b0 (a := 2) (z := 24) rfl (fun cx23_ => ?_) (fun cx23_ => ?_)
          · have cx23_ : k_ < 0 := of_decide_eq_true cx23_
            refine sm_T_go 1 (c1 := (107, [some (.inr (.inr (some (12, 0)))), some (.inl kd_), some (.inl k_)], [.inl 0], S0_)) rfl ?_
            refine sm_T_rz rfl (by omega) (Or.inl ⟨_, _, rfl, _, rfl, hI_, hF_, ?_⟩)
            rfl
          · have cx23_ : ¬ (k_ < 0) := of_decide_eq_false cx23_
            refine sm_T_go 2 (c1 := (87, [some (.inr (.inr (some (12, 0)))), some (.inl kd_), some (.inl k_)], [.inl 4, .inl k_], S0_)) rfl ?_
            refine sm_T_br (a := 3) (z := 19) rfl (fun cx24_ => ?_) (fun cx24_ => ?_)
            · have cx24_ : 4 ≤ k_ := of_decide_eq_true cx24_
              refine sm_T_go 1 (c1 := (107, [some (.inr (.inr (some (12, 0)))), some (.inl kd_), some (.inl k_)], [.inl 0], S0_)) rfl ?_
              refine sm_T_rz rfl (by omega) (Or.inl ⟨_, _, rfl, _, rfl, hI_, hF_, ?_⟩)
              rfl
            · have cx24_ : ¬ (4 ≤ k_) := of_decide_eq_false cx24_
              refine sm_T_go 3 (c1 := (95, [some (.inr (.inr (some (12, 0)))), some (.inl kd_), some (.inl k_)], [.inl k_, .inr (.inr (some (112, 0)))], S0_)) rfl ?_
              refine sm_T_aald (t0 := 6) (n := 4) rfl rfl (by omega) (by omega) ?_
              have bx25_ : 0 ≤ S0_.1 2 k_.toNat 0 ∧ S0_.1 2 k_.toNat 0 ≤ 1 := hI_.1 2 k_.toNat 0 rfl
              refine sm_T_go 1 (c1 := (99, [some (.inr (.inr (some (12, 0)))), some (.inl kd_), some (.inl k_)], [.inl (S0_.1 2 k_.toNat 0)], S0_)) rfl ?_
              refine sm_T_b0 (a := 0) (z := 7) rfl (fun cx26_ => ?_) (fun cx26_ => ?_)
              · have cx26_ : (S0_.1 2 k_.toNat 0) = 0 := of_decide_eq_true cx26_
                refine sm_T_go 1 (c1 := (107, [some (.inr (.inr (some (12, 0)))), some (.inl kd_), some (.inl k_)], [.inl 0], S0_)) rfl ?_
                refine sm_T_rz rfl (by omega) (Or.inl ⟨_, _, rfl, _, rfl, hI_, hF_, ?_⟩)
                rfl
              · have cx26_ : ¬ ((S0_.1 2 k_.toNat 0) = 0) := of_decide_eq_false cx26_
                refine sm_T_go 2 (c1 := (107, [some (.inr (.inr (some (12, 0)))), some (.inl kd_), some (.inl k_)], [.inl 1], S0_)) rfl ?_
                refine sm_T_rz rfl (by omega) (Or.inl ⟨_, _, rfl, _, rfl, hI_, hF_, ?_⟩)
                rfl
        · have cx22_ : ¬ (kd_ ≠ 1) := of_decide_eq_false cx22_
          refine sm_T_go 1 (c1 := (55, [some (.inr (.inr (some (12, 0)))), some (.inl kd_), some (.inl k_)], [.inl k_], S0_)) rfl ?_
          refine sm_T_b0 (a := 2) (z := 24) rfl (fun cx27_ => ?_) (fun cx27_ => ?_)
          · have cx27_ : k_ < 0 := of_decide_eq_true cx27_
            refine sm_T_go 1 (c1 := (80, [some (.inr (.inr (some (12, 0)))), some (.inl kd_), some (.inl k_)], [.inl 0], S0_)) rfl ?_
            refine sm_T_rz rfl (by omega) (Or.inl ⟨_, _, rfl, _, rfl, hI_, hF_, ?_⟩)
            rfl
          · have cx27_ : ¬ (k_ < 0) := of_decide_eq_false cx27_
            refine sm_T_go 2 (c1 := (60, [some (.inr (.inr (some (12, 0)))), some (.inl kd_), some (.inl k_)], [.inl 3, .inl k_], S0_)) rfl ?_
            refine sm_T_br (a := 3) (z := 19) rfl (fun cx28_ => ?_) (fun cx28_ => ?_)
            · have cx28_ : 3 ≤ k_ := of_decide_eq_true cx28_
              refine sm_T_go 1 (c1 := (80, [some (.inr (.inr (some (12, 0)))), some (.inl kd_), some (.inl k_)], [.inl 0], S0_)) rfl ?_
              refine sm_T_rz rfl (by omega) (Or.inl ⟨_, _, rfl, _, rfl, hI_, hF_, ?_⟩)
              rfl
            · have cx28_ : ¬ (3 ≤ k_) := of_decide_eq_false cx28_
              refine sm_T_go 3 (c1 := (68, [some (.inr (.inr (some (12, 0)))), some (.inl kd_), some (.inl k_)], [.inl k_, .inr (.inr (some (111, 0)))], S0_)) rfl ?_
              refine sm_T_aald (t0 := 5) (n := 3) rfl rfl (by omega) (by omega) ?_
              have bx29_ : 0 ≤ S0_.1 5 k_.toNat 0 ∧ S0_.1 5 k_.toNat 0 ≤ 1 := hI_.1 5 k_.toNat 0 rfl
              refine sm_T_go 1 (c1 := (72, [some (.inr (.inr (some (12, 0)))), some (.inl kd_), some (.inl k_)], [.inl (S0_.1 5 k_.toNat 0)], S0_)) rfl ?_
              refine sm_T_b0 (a := 0) (z := 7) rfl (fun cx30_ => ?_) (fun cx30_ => ?_)
              · have cx30_ : (S0_.1 5 k_.toNat 0) = 0 := of_decide_eq_true cx30_
                refine sm_T_go 1 (c1 := (80, [some (.inr (.inr (some (12, 0)))), some (.inl kd_), some (.inl k_)], [.inl 0], S0_)) rfl ?_
                refine sm_T_rz rfl (by omega) (Or.inl ⟨_, _, rfl, _, rfl, hI_, hF_, ?_⟩)
                rfl
              · have cx30_ : ¬ ((S0_.1 5 k_.toNat 0) = 0) := of_decide_eq_false cx30_
                refine sm_T_go 2 (c1 := (80, [some (.inr (.inr (some (12, 0)))), some (.inl kd_), some (.inl k_)], [.inl 1], S0_)) rfl ?_
                refine sm_T_rz rfl (by omega) (Or.inl ⟨_, _, rfl, _, rfl, hI_, hF_, ?_⟩)
                rfl
      · have cx21_ : ¬ (kd_ ≠ 0) := of_decide_eq_false cx21_
        refine sm_T_go 1 (c1 := (22, [some (.inr (.inr (some (12, 0)))), some (.inl kd_), some (.inl k_)], [.inl k_], S0_)) rfl ?_
        refine sm_T_b0 (a := 2) (z := 25) rfl (fun cx31_ => ?_) (fun cx31_ => ?_)
        · have cx31_ : k_ < 0 := of_decide_eq_true cx31_
          refine sm_T_go 1 (c1 := (48, [some (.inr (.inr (some (12, 0)))), some (.inl kd_), some (.inl k_)], [.inl 0], S0_)) rfl ?_
          refine sm_T_rz rfl (by omega) (Or.inl ⟨_, _, rfl, _, rfl, hI_, hF_, ?_⟩)
          rfl
        · have cx31_ : ¬ (k_ < 0) := of_decide_eq_false cx31_
          refine sm_T_go 2 (c1 := (28, [some (.inr (.inr (some (12, 0)))), some (.inl kd_), some (.inl k_)], [.inl 6, .inl k_], S0_)) rfl ?_
          refine sm_T_br (a := 3) (z := 19) rfl (fun cx32_ => ?_) (fun cx32_ => ?_)
          · have cx32_ : 6 ≤ k_ := of_decide_eq_true cx32_
            refine sm_T_go 1 (c1 := (48, [some (.inr (.inr (some (12, 0)))), some (.inl kd_), some (.inl k_)], [.inl 0], S0_)) rfl ?_
            refine sm_T_rz rfl (by omega) (Or.inl ⟨_, _, rfl, _, rfl, hI_, hF_, ?_⟩)
            rfl
          · have cx32_ : ¬ (6 ≤ k_) := of_decide_eq_false cx32_
            refine sm_T_go 3 (c1 := (36, [some (.inr (.inr (some (12, 0)))), some (.inl kd_), some (.inl k_)], [.inl k_, .inr (.inr (some (110, 0)))], S0_)) rfl ?_
            refine sm_T_aald (t0 := 4) (n := 6) rfl rfl (by omega) (by omega) ?_
            have bx33_ : 0 ≤ S0_.1 3 k_.toNat 0 ∧ S0_.1 3 k_.toNat 0 ≤ 1 := hI_.1 3 k_.toNat 0 rfl
            refine sm_T_go 1 (c1 := (40, [some (.inr (.inr (some (12, 0)))), some (.inl kd_), some (.inl k_)], [.inl (S0_.1 3 k_.toNat 0)], S0_)) rfl ?_
            refine sm_T_b0 (a := 0) (z := 7) rfl (fun cx34_ => ?_) (fun cx34_ => ?_)
            · have cx34_ : (S0_.1 3 k_.toNat 0) = 0 := of_decide_eq_true cx34_
              refine sm_T_go 1 (c1 := (48, [some (.inr (.inr (some (12, 0)))), some (.inl kd_), some (.inl k_)], [.inl 0], S0_)) rfl ?_
              refine sm_T_rz rfl (by omega) (Or.inl ⟨_, _, rfl, _, rfl, hI_, hF_, ?_⟩)
              rfl
            · have cx34_ : ¬ ((S0_.1 3 k_.toNat 0) = 0) := of_decide_eq_false cx34_
              refine sm_T_go 2 (c1 := (48, [some (.inr (.inr (some (12, 0)))), some (.inl kd_), some (.inl k_)], [.inl 1], S0_)) rfl ?_
              refine sm_T_rz rfl (by omega) (Or.inl ⟨_, _, rfl, _, rfl, hI_, hF_, ?_⟩)
              rfl
end
/-! 99.zj2e -/
section
/-! ChipFlow.witness -/
def vw_229 : sx_Wl := ([], [], [])
def vq_229 (k_ : Int) (S0_ : sm_S) (u_ : Option sm_V) (S1_ : sm_S) : Prop := ∃ v_ : Int, u_ = some (.inl v_) ∧ gi S1_ ∧ ai_fr (sx_W vw_229) S0_ S1_ ∧ (True)
def vx_229 (k_ : Int) (S0_ : sm_S) (S1_ : sm_S) : Prop := gi S1_ ∧ ai_fr (sx_W vw_229) S0_ S1_ ∧ (S1_ = S0_)
set_option maxHeartbeats 400000 in
theorem vc_229 {sc_ : Nat × (Nat → Int)} (k_ : Int) (S0_ : sm_S) (hI_ : gi S0_)  : sm_T (mt_P sc_) 1 229 (0, [some (.inr (.inr (some (12, 0)))), some (.inl k_)], [], S0_) (fun ro9_ => (∃ u_ S1_, ro9_ = (.inl u_, S1_, 0) ∧ vq_229 k_ S0_ u_ S1_) ∨ ∃ ex_ S1_, ro9_ = (.inr ex_, S1_, 1) ∧ ex_ ∈ ([0] : List Nat) ∧ vx_229 k_ S0_ S1_) := by
  have hF_ : ai_fr (sx_W vw_229) S0_ S0_ := ai_fr_rf
  refine sm_T_go 1 (c1 := (1, [some (.inr (.inr (some (12, 0)))), some (.inl k_)], [.inl k_], S0_)) rfl ?_
  refine sm_T_b0 (a := 2) (z := 15) rfl (fun cx1_ => ?_) (fun cx1_ => ?_)
  · have cx1_ : k_ < 0 := of_decide_eq_true cx1_
    refine sm_T_go 1 (c1 := (17, [some (.inr (.inr (some (12, 0)))), some (.inl k_)], [.inl 0], S0_)) rfl ?_
    refine sm_T_cale (d1_ := 0) (Q1_ := vq_265e 0 S0_) (Q2_ := (fun ex_ S1_ => ex_ ∈ ([0] : List Nat) ∧ vx_265e 0 S0_ S1_)) rfl rfl (by decide) (vc_265e 0 S0_ hI_ ) rfl (fun xx7_ Sx2_ px5_ => ?_) (fun u_ Sx2_ px5_ => ?_)
    · obtain ⟨px5m, hIx3_, hFx4_, px5_⟩ := px5_
      refine Or.inr ⟨_, _, rfl, by first | exact px5m | (simp only [List.mem_cons, List.not_mem_nil, or_false] at px5m ⊢; omega), hIx3_, ai_fr_tr hF_ (fr_le hFx4_ rfl), ?_⟩
      first | exact px5_.2 | exact px5_ | rfl
    · exact absurd rfl px5_.2.2.2.1
  · have cx1_ : ¬ (k_ < 0) := of_decide_eq_false cx1_
    have bx8_ : 0 ≤ S0_.1 12 0 16 ∧ S0_.1 12 0 16 ≤ 4096 := hI_.1 12 0 16 rfl
    refine sm_T_go 3 (c1 := (9, [some (.inr (.inr (some (12, 0)))), some (.inl k_)], [.inl (S0_.1 12 0 16), .inl k_], S0_)) rfl ?_
    refine sm_T_br (a := 3) (z := 7) rfl (fun cx9_ => ?_) (fun cx9_ => ?_)
    · have cx9_ : (S0_.1 12 0 16) ≤ k_ := of_decide_eq_true cx9_
      refine sm_T_go 1 (c1 := (17, [some (.inr (.inr (some (12, 0)))), some (.inl k_)], [.inl 0], S0_)) rfl ?_
      refine sm_T_cale (d1_ := 0) (Q1_ := vq_265e 0 S0_) (Q2_ := (fun ex_ S1_ => ex_ ∈ ([0] : List Nat) ∧ vx_265e 0 S0_ S1_)) rfl rfl (by decide) (vc_265e 0 S0_ hI_ ) rfl (fun xx15_ Sx10_ px13_ => ?_) (fun u_ Sx10_ px13_ => ?_)
      · obtain ⟨px13m, hIx11_, hFx12_, px13_⟩ := px13_
        refine Or.inr ⟨_, _, rfl, by first | exact px13m | (simp only [List.mem_cons, List.not_mem_nil, or_false] at px13m ⊢; omega), hIx11_, ai_fr_tr hF_ (fr_le hFx12_ rfl), ?_⟩
        first | exact px13_.2 | exact px13_ | rfl
      · exact absurd rfl px13_.2.2.2.1
    · have cx9_ : ¬ ((S0_.1 12 0 16) ≤ k_) := of_decide_eq_false cx9_
      refine sm_T_go 2 (c1 := (17, [some (.inr (.inr (some (12, 0)))), some (.inl k_)], [.inl 1], S0_)) rfl ?_
      refine sm_T_cale (d1_ := 0) (Q1_ := vq_265e 1 S0_) (Q2_ := (fun ex_ S1_ => ex_ ∈ ([0] : List Nat) ∧ vx_265e 1 S0_ S1_)) rfl rfl (by decide) (vc_265e 1 S0_ hI_ ) rfl (fun xx21_ Sx16_ px19_ => ?_) (fun u_ Sx16_ px19_ => ?_)
      · exact absurd px19_.2.2.2.1 (by decide)
      obtain ⟨rfl, -, -, px19_, rfl⟩ := px19_
      refine sm_T_go 3 (c1 := (25, [some (.inr (.inr (some (12, 0)))), some (.inl k_)], [.inl k_, .inr (.inr (some (117, 0)))], S0_)) rfl ?_
      refine sm_T_iald (n := 4096) rfl rfl (by omega) (by omega) ?_
      have bx22_ : 0 ≤ S0_.2.2.1 117 0 k_.toNat ∧ S0_.2.2.1 117 0 k_.toNat ≤ 4095 := hI_.2 117 0 _
      refine sm_T_ri rfl (Or.inl ⟨_, _, rfl, _, rfl, hI_, hF_, ?_⟩)
      trivial
end
/-! 99.zj3a -/
section
/-! the face of the class: designs; written by wip/p55/gen/vg -/

/-! designs and the_ calls that ask_ for_ them -/
theorem dOk_b {i_ : Nat} {S_ : sm_S} (h_ : dOk i_ S_) : (0 ≤ S_.1 3 i_ 1 ∧ 0 ≤ S_.1 3 i_ 2 ∧ S_.1 3 i_ 1 + S_.1 3 i_ 2 ≤ 12) ∧ (1 ≤ S_.1 3 i_ 3 ∧ S_.1 3 i_ 3 ≤ 16 ∧ S_.1 3 i_ 2 ≤ 6) ∧ (0 ≤ S_.1 3 i_ 5 ∧ S_.1 3 i_ 5 < 2 ^ (S_.1 3 i_ 2).toNat) ∧ (0 ≤ S_.1 3 i_ 6 ∧ S_.1 3 i_ 6 < 2 ^ (S_.1 3 i_ 2).toNat) ∧ dtb i_ S_ := by
  obtain ⟨F_, h1_, h2_, h3_, h4_, h5_, h6_⟩ := h_
  have a_ := h1_.1
  have b_ := h2_.1
  exact ⟨by omega, by omega, h5_, h6_, h4_⟩
theorem dOk_fr {w_ : sx_Wl} {i_ : Nat} {S_ S'_ : sm_S} (h_ : dOk i_ S_) (g_ : ai_fr (sx_W w_) S_ S'_) (h1_ : ∀ k_, k_ < 7 → (0 < k_) → (sx_W w_).1 3 k_ = false) (h2_ : ∀ t_, t_ < 48 → 42 ≤ t_ → (sx_W w_).2.1 t_ = false) : dOk i_ S'_ := by
  obtain ⟨F_, a1_, a2_, a3_, a4_, a5_, a6_⟩ := h_
  refine ⟨F_, dgr_fr a1_ g_ (h1_ _ (by decide) (by decide)) (h1_ _ (by decide) (by decide)) (h1_ _ (by decide) (by decide)) (h2_ _ (by decide) (by decide)) (h2_ _ (by decide) (by decide)), drt_fr a2_ g_ (h1_ _ (by decide) (by decide)) (h1_ _ (by decide) (by decide)) (h1_ _ (by decide) (by decide)) (h2_ _ (by decide) (by decide)) (h2_ _ (by decide) (by decide)), swp_fr a3_ g_ (h1_ _ (by decide) (by decide)) (h2_ _ (by decide) (by decide)) (h2_ _ (by decide) (by decide)) (h2_ _ (by decide) (by decide)), dtb_fr a4_ g_ (h1_ _ (by decide) (by decide)) (h2_ _ (by decide) (by decide)), ?_⟩
  rw [g_.1 3 i_ 5 (h1_ _ (by decide) (by decide)), g_.1 3 i_ 6 (h1_ _ (by decide) (by decide)), g_.1 3 i_ 2 (h1_ _ (by decide) (by decide))]
  exact ⟨a5_, a6_⟩
theorem dAll_fr {w_ : sx_Wl} {S_ S'_ : sm_S} (h_ : dAll S_) (g_ : ai_fr (sx_W w_) S_ S'_) (h1_ : ∀ k_, k_ < 7 → (sx_W w_).1 3 k_ = false) (h2_ : ∀ t_, t_ < 48 → 42 ≤ t_ → (sx_W w_).2.1 t_ = false) : dAll S'_ := by
  intro j_ hj_ q_
  rw [g_.1 3 j_ 0 (h1_ _ (by decide))] at q_
  exact dOk_fr (h_ j_ hj_ q_) g_ (fun k_ hk_ _ => h1_ k_ hk_) h2_
/-- a_ design's state changes -/
theorem dAll_st {i_ : Nat} {S_ : sm_S} {v_ : Int} (h_ : dAll S_) (hv_ : 0 ≤ v_ ∧ v_ < 2 ^ (S_.1 3 i_ 2).toNat) : dAll (sm_pI S_ 3 i_ 6 v_) := by
  intro j_ hj_ q_
  rw [rf_nk (by decide)] at q_
  obtain ⟨F_, h1_, h2_, h3_, h4_, h5_, h6_⟩ := h_ j_ hj_ q_
  have fx : ai_fr (sx_W ([(3, 6)], [], [])) S_ (sm_pI S_ 3 i_ 6 v_) := ai_fr_pI rfl
  refine ⟨F_, dgr_fr h1_ fx rfl rfl rfl rfl rfl, drt_fr h2_ fx rfl rfl rfl rfl rfl, swp_fr h3_ fx rfl rfl rfl rfl, dtb_fr h4_ fx rfl rfl, ?_, ?_⟩
  · rw [fx.1 3 j_ 5 rfl, fx.1 3 j_ 2 rfl]; exact h5_
  · rw [fx.1 3 j_ 2 rfl, rd_ff]
    by_cases z_ : j_ = i_
    · rw [z_, if_pos ⟨rfl, rfl, rfl⟩]; exact hv_
    · rw [if_neg (fun q_ => z_ q_.2.1)]; exact h6_
theorem dAll_dr {i_ : Nat} {S_ : sm_S} (h_ : dAll S_) : dAll (sm_pI S_ 3 i_ 0 0) := by
  intro j_ hj_ q_
  have fx : ai_fr (sx_W ([(3, 0)], [], [])) S_ (sm_pI S_ 3 i_ 0 0) := ai_fr_pI rfl
  by_cases z_ : j_ = i_
  · rw [z_, rf_eq] at q_
    exact absurd q_ (by decide)
  · rw [rd_ff, if_neg (fun q_ => z_ q_.2.1)] at q_
    exact dOk_fr (h_ j_ hj_ q_) fx (by decide) (by decide)
theorem i_or_c {x_ y_ : Int} : i_or x_ y_ = i_or y_ x_ := by
  unfold i_or
  rw [Int32.or_comm]
/-! ChipFlow.graph -/
def vw_219 : sx_Wl := ([], [], [])
def vq_219 (kk_ : Int) (wh_ : Int) (S0_ : sm_S) (u_ : Option sm_V) (S1_ : sm_S) : Prop := ∃ v_ : Int, u_ = some (.inl v_) ∧ gi S1_ ∧ ai_fr (sx_W vw_219) S0_ S1_ ∧ (True)
def vx_219 (kk_ : Int) (wh_ : Int) (S0_ : sm_S) (S1_ : sm_S) : Prop := gi S1_ ∧ ai_fr (sx_W vw_219) S0_ S1_ ∧ (S1_ = S0_)
set_option maxHeartbeats 400000 in
theorem vc_219 {sc_ : Nat × (Nat → Int)} (kk_ : Int) (wh_ : Int) (S0_ : sm_S) (hI_ : gi S0_) (hJ_ : dAll S0_) : sm_T (mt_P sc_) 2 219 (0, [some (.inr (.inr (some (12, 0)))), some (.inl kk_), some (.inl wh_), none], [], S0_) (fun ro9_ => (∃ u_ S1_, ro9_ = (.inl u_, S1_, 0) ∧ vq_219 kk_ wh_ S0_ u_ S1_) ∨ ∃ ex_ S1_, ro9_ = (.inr ex_, S1_, 1) ∧ ex_ ∈ ([0, 1] : List Nat) ∧ vx_219 kk_ wh_ S0_ S1_) := by
  have hF_ : ai_fr (sx_W vw_219) S0_ S0_ := ai_fr_rf
  refine sm_T_go 2 (c1 := (2, [some (.inr (.inr (some (12, 0)))), some (.inl kk_), some (.inl wh_), none], [.inl kk_, .inr (.inr (some (12, 0)))], S0_)) rfl ?_
  refine sm_T_cale (d1_ := 1) (Q1_ := vq_270 kk_ S0_) (Q2_ := (fun ex_ S1_ => ex_ ∈ ([0] : List Nat) ∧ vx_270 kk_ S0_ S1_)) rfl rfl (by decide) (vc_270 kk_ S0_ hI_ ) rfl (fun xx6_ Sx1_ px4_ => ?_) (fun u_ Sx1_ px4_ => ?_)
  · obtain ⟨px4m, hIx2_, hFx3_, px4_⟩ := px4_
    refine Or.inr ⟨_, _, rfl, by first | exact px4m | (simp only [List.mem_cons, List.not_mem_nil, or_false] at px4m ⊢; omega), hIx2_, ai_fr_tr hF_ (fr_le hFx3_ rfl), ?_⟩
    first | exact px4_.2 | exact px4_ | rfl
  obtain ⟨rfl, -, -, rfl, px4_⟩ := px4_
  have a9_ := px4_
  have J9_ := dOk_b (hJ_ kk_.toNat (by omega) a9_.2)
  have J9a := J9_.1
  have J9b := J9_.2.1
  refine sm_T_go 2 (c1 := (7, [some (.inr (.inr (some (12, 0)))), some (.inl kk_), some (.inl wh_), some (.inr (.inr (some (3, kk_.toNat))))], [.inl wh_], S0_)) rfl ?_
  refine sm_T_b0 (a := 2) (z := 13) rfl (fun cx7_ => ?_) (fun cx7_ => ?_)
  · have cx7_ : wh_ < 0 := of_decide_eq_true cx7_
    refine sm_T_go 1 (c1 := (21, [some (.inr (.inr (some (12, 0)))), some (.inl kk_), some (.inl wh_), some (.inr (.inr (some (3, kk_.toNat))))], [.inl 0], S0_)) rfl ?_
    refine sm_T_cale (d1_ := 0) (Q1_ := vq_266e 0 S0_) (Q2_ := (fun ex_ S1_ => ex_ ∈ ([1] : List Nat) ∧ vx_266e 0 S0_ S1_)) rfl rfl (by decide) (vc_266e 0 S0_ hI_ ) rfl (fun xx13_ Sx8_ px11_ => ?_) (fun u_ Sx8_ px11_ => ?_)
    · obtain ⟨px11m, hIx9_, hFx10_, px11_⟩ := px11_
      refine Or.inr ⟨_, _, rfl, by first | exact px11m | (simp only [List.mem_cons, List.not_mem_nil, or_false] at px11m ⊢; omega), hIx9_, ai_fr_tr hF_ (fr_le hFx10_ rfl), ?_⟩
      first | exact px11_.2 | exact px11_ | rfl
    · exact absurd rfl px11_.2.2.2.1
  · have cx7_ : ¬ (wh_ < 0) := of_decide_eq_false cx7_
    refine sm_T_go 2 (c1 := (13, [some (.inr (.inr (some (12, 0)))), some (.inl kk_), some (.inl wh_), some (.inr (.inr (some (3, kk_.toNat))))], [.inl 7, .inl wh_], S0_)) rfl ?_
    refine sm_T_br (a := 4) (z := 7) rfl (fun cx14_ => ?_) (fun cx14_ => ?_)
    · have cx14_ : 7 < wh_ := of_decide_eq_true cx14_
      refine sm_T_go 1 (c1 := (21, [some (.inr (.inr (some (12, 0)))), some (.inl kk_), some (.inl wh_), some (.inr (.inr (some (3, kk_.toNat))))], [.inl 0], S0_)) rfl ?_
      refine sm_T_cale (d1_ := 0) (Q1_ := vq_266e 0 S0_) (Q2_ := (fun ex_ S1_ => ex_ ∈ ([1] : List Nat) ∧ vx_266e 0 S0_ S1_)) rfl rfl (by decide) (vc_266e 0 S0_ hI_ ) rfl (fun xx20_ Sx15_ px18_ => ?_) (fun u_ Sx15_ px18_ => ?_)
      · obtain ⟨px18m, hIx16_, hFx17_, px18_⟩ := px18_
        refine Or.inr ⟨_, _, rfl, by first | exact px18m | (simp only [List.mem_cons, List.not_mem_nil, or_false] at px18m ⊢; omega), hIx16_, ai_fr_tr hF_ (fr_le hFx17_ rfl), ?_⟩
        first | exact px18_.2 | exact px18_ | rfl
      · exact absurd rfl px18_.2.2.2.1
    · have cx14_ : ¬ (7 < wh_) := of_decide_eq_false cx14_
      refine sm_T_go 2 (c1 := (21, [some (.inr (.inr (some (12, 0)))), some (.inl kk_), some (.inl wh_), some (.inr (.inr (some (3, kk_.toNat))))], [.inl 1], S0_)) rfl ?_
      refine sm_T_cale (d1_ := 0) (Q1_ := vq_266e 1 S0_) (Q2_ := (fun ex_ S1_ => ex_ ∈ ([1] : List Nat) ∧ vx_266e 1 S0_ S1_)) rfl rfl (by decide) (vc_266e 1 S0_ hI_ ) rfl (fun xx26_ Sx21_ px24_ => ?_) (fun u_ Sx21_ px24_ => ?_)
      · exact absurd px24_.2.2.2.1 (by decide)
      obtain ⟨rfl, -, -, px24_, rfl⟩ := px24_
      refine sm_T_go 1 (c1 := (25, [some (.inr (.inr (some (12, 0)))), some (.inl kk_), some (.inl wh_), some (.inr (.inr (some (3, kk_.toNat))))], [.inl wh_], S0_)) rfl ?_
      by_cases cx27_ : wh_ = 0
      · refine sm_T_sw (t := 68) rfl rfl (by rw [cx27_]; rfl) ?_
        have bx28_ : 0 ≤ S0_.1 3 kk_.toNat 1 ∧ S0_.1 3 kk_.toNat 1 ≤ 320 := hI_.1 3 kk_.toNat 1 rfl
        refine sm_T_go 2 (c1 := (72, [some (.inr (.inr (some (12, 0)))), some (.inl kk_), some (.inl wh_), some (.inr (.inr (some (3, kk_.toNat))))], [.inl (S0_.1 3 kk_.toNat 1)], S0_)) rfl ?_
        refine sm_T_ri rfl (Or.inl ⟨_, _, rfl, _, rfl, hI_, hF_, ?_⟩)
        trivial
      by_cases cx29_ : wh_ = 1
      · refine sm_T_sw (t := 73) rfl rfl (by rw [cx29_]; rfl) ?_
        have bx30_ : 0 ≤ S0_.1 3 kk_.toNat 2 ∧ S0_.1 3 kk_.toNat 2 ≤ 100000 := hI_.1 3 kk_.toNat 2 rfl
        refine sm_T_go 2 (c1 := (77, [some (.inr (.inr (some (12, 0)))), some (.inl kk_), some (.inl wh_), some (.inr (.inr (some (3, kk_.toNat))))], [.inl (S0_.1 3 kk_.toNat 2)], S0_)) rfl ?_
        refine sm_T_ri rfl (Or.inl ⟨_, _, rfl, _, rfl, hI_, hF_, ?_⟩)
        trivial
      by_cases cx31_ : wh_ = 2
      · refine sm_T_sw (t := 78) rfl rfl (by rw [cx31_]; rfl) ?_
        have bx32_ : 0 ≤ S0_.1 3 kk_.toNat 3 ∧ S0_.1 3 kk_.toNat 3 ≤ 320 := hI_.1 3 kk_.toNat 3 rfl
        refine sm_T_go 2 (c1 := (82, [some (.inr (.inr (some (12, 0)))), some (.inl kk_), some (.inl wh_), some (.inr (.inr (some (3, kk_.toNat))))], [.inl (S0_.1 3 kk_.toNat 3)], S0_)) rfl ?_
        refine sm_T_ri rfl (Or.inl ⟨_, _, rfl, _, rfl, hI_, hF_, ?_⟩)
        trivial
      by_cases cx33_ : wh_ = 3
      · refine sm_T_sw (t := 83) rfl rfl (by rw [cx33_]; rfl) ?_
        have bx34_ : 0 ≤ S0_.1 3 kk_.toNat 4 ∧ S0_.1 3 kk_.toNat 4 ≤ 1013 := hI_.1 3 kk_.toNat 4 rfl
        refine sm_T_go 3 (c1 := (88, [some (.inr (.inr (some (12, 0)))), some (.inl kk_), some (.inl wh_), some (.inr (.inr (some (3, kk_.toNat))))], [.inr (.inr (some (3, kk_.toNat))), .inl (S0_.1 3 kk_.toNat 4)], S0_)) rfl ?_
        refine sm_T_cal (d1 := 0) (Q1 := vq_63 kk_.toNat S0_) rfl rfl (by decide) (vc_63 kk_.toNat S0_ hI_ (by omega)) (fun u_ Sx35_ px38_ => ?_)
        obtain ⟨rfl, vx40_, rfl, px38_⟩ := px38_
        have f88_ := px38_
        refine sm_T_bin (w := (S0_.1 3 kk_.toNat 4) - vx40_) rfl (bi_sub (by omega) (by omega) (by omega)) ?_
        refine sm_T_ri rfl (Or.inl ⟨_, _, rfl, _, rfl, hI_, hF_, ?_⟩)
        trivial
      by_cases cx41_ : wh_ = 4
      · refine sm_T_sw (t := 93) rfl rfl (by rw [cx41_]; rfl) ?_
        have bx42_ : 0 ≤ S0_.1 3 kk_.toNat 7 ∧ S0_.1 3 kk_.toNat 7 ≤ 1000 := hI_.1 3 kk_.toNat 7 rfl
        refine sm_T_go 2 (c1 := (97, [some (.inr (.inr (some (12, 0)))), some (.inl kk_), some (.inl wh_), some (.inr (.inr (some (3, kk_.toNat))))], [.inl (S0_.1 3 kk_.toNat 7)], S0_)) rfl ?_
        refine sm_T_ri rfl (Or.inl ⟨_, _, rfl, _, rfl, hI_, hF_, ?_⟩)
        trivial
      by_cases cx43_ : wh_ = 5
      · refine sm_T_sw (t := 98) rfl rfl (by rw [cx43_]; rfl) ?_
        have bx44_ : 0 ≤ S0_.1 3 kk_.toNat 8 ∧ S0_.1 3 kk_.toNat 8 ≤ 1000 := hI_.1 3 kk_.toNat 8 rfl
        refine sm_T_go 2 (c1 := (102, [some (.inr (.inr (some (12, 0)))), some (.inl kk_), some (.inl wh_), some (.inr (.inr (some (3, kk_.toNat))))], [.inl (S0_.1 3 kk_.toNat 8)], S0_)) rfl ?_
        refine sm_T_ri rfl (Or.inl ⟨_, _, rfl, _, rfl, hI_, hF_, ?_⟩)
        trivial
      by_cases cx45_ : wh_ = 6
      · refine sm_T_sw (t := 103) rfl rfl (by rw [cx45_]; rfl) ?_
        have bx46_ : 0 ≤ S0_.1 3 kk_.toNat 9 ∧ S0_.1 3 kk_.toNat 9 ≤ 64 := hI_.1 3 kk_.toNat 9 rfl
        refine sm_T_go 2 (c1 := (107, [some (.inr (.inr (some (12, 0)))), some (.inl kk_), some (.inl wh_), some (.inr (.inr (some (3, kk_.toNat))))], [.inl (S0_.1 3 kk_.toNat 9)], S0_)) rfl ?_
        refine sm_T_ri rfl (Or.inl ⟨_, _, rfl, _, rfl, hI_, hF_, ?_⟩)
        trivial
      refine sm_T_sw (t := 108) rfl rfl (by (have hh_ : wh_ < 0 ∨ 7 ≤ wh_ := by omega); rcases hh_ with hh_ | hh_; (exact sm_swd (Or.inl hh_)); (exact sm_swd (Or.inr (by simp only [List.length_cons, List.length_nil]; omega)))) ?_
      have bx47_ : 0 ≤ S0_.1 3 kk_.toNat 5 ∧ S0_.1 3 kk_.toNat 5 ≤ 63 := hI_.1 3 kk_.toNat 5 rfl
      refine sm_T_go 2 (c1 := (112, [some (.inr (.inr (some (12, 0)))), some (.inl kk_), some (.inl wh_), some (.inr (.inr (some (3, kk_.toNat))))], [.inl (S0_.1 3 kk_.toNat 5)], S0_)) rfl ?_
      refine sm_T_ri rfl (Or.inl ⟨_, _, rfl, _, rfl, hI_, hF_, ?_⟩)
      trivial
end
/-! 99.zj3b -/
section
/-! ChipFlow.literal -/
def vw_220 : sx_Wl := ([], [], [])
def vq_220 (kk_ : Int) (nd_ : Int) (sd_ : Int) (S0_ : sm_S) (u_ : Option sm_V) (S1_ : sm_S) : Prop := ∃ v_ : Int, u_ = some (.inl v_) ∧ gi S1_ ∧ ai_fr (sx_W vw_220) S0_ S1_ ∧ (True)
def vx_220 (kk_ : Int) (nd_ : Int) (sd_ : Int) (S0_ : sm_S) (S1_ : sm_S) : Prop := gi S1_ ∧ ai_fr (sx_W vw_220) S0_ S1_ ∧ (S1_ = S0_)
set_option maxHeartbeats 400000 in
theorem vc_220 {sc_ : Nat × (Nat → Int)} (kk_ : Int) (nd_ : Int) (sd_ : Int) (S0_ : sm_S) (hI_ : gi S0_) (hJ_ : dAll S0_) : sm_T (mt_P sc_) 2 220 (0, [some (.inr (.inr (some (12, 0)))), some (.inl kk_), some (.inl nd_), some (.inl sd_), none], [], S0_) (fun ro9_ => (∃ u_ S1_, ro9_ = (.inl u_, S1_, 0) ∧ vq_220 kk_ nd_ sd_ S0_ u_ S1_) ∨ ∃ ex_ S1_, ro9_ = (.inr ex_, S1_, 1) ∧ ex_ ∈ ([0] : List Nat) ∧ vx_220 kk_ nd_ sd_ S0_ S1_) := by
  have hF_ : ai_fr (sx_W vw_220) S0_ S0_ := ai_fr_rf
  refine sm_T_go 2 (c1 := (2, [some (.inr (.inr (some (12, 0)))), some (.inl kk_), some (.inl nd_), some (.inl sd_), none], [.inl kk_, .inr (.inr (some (12, 0)))], S0_)) rfl ?_
  refine sm_T_cale (d1_ := 1) (Q1_ := vq_270 kk_ S0_) (Q2_ := (fun ex_ S1_ => ex_ ∈ ([0] : List Nat) ∧ vx_270 kk_ S0_ S1_)) rfl rfl (by decide) (vc_270 kk_ S0_ hI_ ) rfl (fun xx6_ Sx1_ px4_ => ?_) (fun u_ Sx1_ px4_ => ?_)
  · obtain ⟨px4m, hIx2_, hFx3_, px4_⟩ := px4_
    refine Or.inr ⟨_, _, rfl, by first | exact px4m | (simp only [List.mem_cons, List.not_mem_nil, or_false] at px4m ⊢; omega), hIx2_, ai_fr_tr hF_ (fr_le hFx3_ rfl), ?_⟩
    first | exact px4_.2 | exact px4_ | rfl
  obtain ⟨rfl, -, -, rfl, px4_⟩ := px4_
  have a9_ := px4_
  have J9_ := dOk_b (hJ_ kk_.toNat (by omega) a9_.2)
  have J9a := J9_.1
  have J9b := J9_.2.1
  refine sm_T_go 3 (c1 := (10, [some (.inr (.inr (some (12, 0)))), some (.inl kk_), some (.inl nd_), some (.inl sd_), some (.inr (.inr (some (3, kk_.toNat))))], [.inr (.inr (some (3, kk_.toNat))), .inl nd_], S0_)) rfl ?_
  refine sm_T_cal (d1 := 0) (Q1 := vq_63 kk_.toNat S0_) rfl rfl (by decide) (vc_63 kk_.toNat S0_ hI_ (by omega)) (fun u_ Sx7_ px10_ => ?_)
  obtain ⟨rfl, vx12_, rfl, px10_⟩ := px10_
  have f10_ := px10_
  refine sm_T_br (a := 2) (z := 16) rfl (fun cx13_ => ?_) (fun cx13_ => ?_)
  · have cx13_ : nd_ < vx12_ := of_decide_eq_true cx13_
    refine sm_T_go 1 (c1 := (30, [some (.inr (.inr (some (12, 0)))), some (.inl kk_), some (.inl nd_), some (.inl sd_), some (.inr (.inr (some (3, kk_.toNat))))], [.inl 0], S0_)) rfl ?_
    refine sm_T_cale (d1_ := 0) (Q1_ := vq_265e 0 S0_) (Q2_ := (fun ex_ S1_ => ex_ ∈ ([0] : List Nat) ∧ vx_265e 0 S0_ S1_)) rfl rfl (by decide) (vc_265e 0 S0_ hI_ ) rfl (fun xx19_ Sx14_ px17_ => ?_) (fun u_ Sx14_ px17_ => ?_)
    · obtain ⟨px17m, hIx15_, hFx16_, px17_⟩ := px17_
      refine Or.inr ⟨_, _, rfl, by first | exact px17m | (simp only [List.mem_cons, List.not_mem_nil, or_false] at px17m ⊢; omega), hIx15_, ai_fr_tr hF_ (fr_le hFx16_ rfl), ?_⟩
      first | exact px17_.2 | exact px17_ | rfl
    · exact absurd rfl px17_.2.2.2.1
  · have cx13_ : ¬ (nd_ < vx12_) := of_decide_eq_false cx13_
    have bx20_ : 0 ≤ S0_.1 3 kk_.toNat 4 ∧ S0_.1 3 kk_.toNat 4 ≤ 1013 := hI_.1 3 kk_.toNat 4 rfl
    refine sm_T_go 3 (c1 := (22, [some (.inr (.inr (some (12, 0)))), some (.inl kk_), some (.inl nd_), some (.inl sd_), some (.inr (.inr (some (3, kk_.toNat))))], [.inl (S0_.1 3 kk_.toNat 4), .inl nd_], S0_)) rfl ?_
    refine sm_T_br (a := 3) (z := 7) rfl (fun cx21_ => ?_) (fun cx21_ => ?_)
    · have cx21_ : (S0_.1 3 kk_.toNat 4) ≤ nd_ := of_decide_eq_true cx21_
      refine sm_T_go 1 (c1 := (30, [some (.inr (.inr (some (12, 0)))), some (.inl kk_), some (.inl nd_), some (.inl sd_), some (.inr (.inr (some (3, kk_.toNat))))], [.inl 0], S0_)) rfl ?_
      refine sm_T_cale (d1_ := 0) (Q1_ := vq_265e 0 S0_) (Q2_ := (fun ex_ S1_ => ex_ ∈ ([0] : List Nat) ∧ vx_265e 0 S0_ S1_)) rfl rfl (by decide) (vc_265e 0 S0_ hI_ ) rfl (fun xx27_ Sx22_ px25_ => ?_) (fun u_ Sx22_ px25_ => ?_)
      · obtain ⟨px25m, hIx23_, hFx24_, px25_⟩ := px25_
        refine Or.inr ⟨_, _, rfl, by first | exact px25m | (simp only [List.mem_cons, List.not_mem_nil, or_false] at px25m ⊢; omega), hIx23_, ai_fr_tr hF_ (fr_le hFx24_ rfl), ?_⟩
        first | exact px25_.2 | exact px25_ | rfl
      · exact absurd rfl px25_.2.2.2.1
    · have cx21_ : ¬ ((S0_.1 3 kk_.toNat 4) ≤ nd_) := of_decide_eq_false cx21_
      refine sm_T_go 2 (c1 := (30, [some (.inr (.inr (some (12, 0)))), some (.inl kk_), some (.inl nd_), some (.inl sd_), some (.inr (.inr (some (3, kk_.toNat))))], [.inl 1], S0_)) rfl ?_
      refine sm_T_cale (d1_ := 0) (Q1_ := vq_265e 1 S0_) (Q2_ := (fun ex_ S1_ => ex_ ∈ ([0] : List Nat) ∧ vx_265e 1 S0_ S1_)) rfl rfl (by decide) (vc_265e 1 S0_ hI_ ) rfl (fun xx33_ Sx28_ px31_ => ?_) (fun u_ Sx28_ px31_ => ?_)
      · exact absurd px31_.2.2.2.1 (by decide)
      obtain ⟨rfl, -, -, px31_, rfl⟩ := px31_
      refine sm_T_go 1 (c1 := (34, [some (.inr (.inr (some (12, 0)))), some (.inl kk_), some (.inl nd_), some (.inl sd_), some (.inr (.inr (some (3, kk_.toNat))))], [.inl sd_], S0_)) rfl ?_
      refine sm_T_b0 (a := 0) (z := 8) rfl (fun cx34_ => ?_) (fun cx34_ => ?_)
      · have cx34_ : sd_ = 0 := of_decide_eq_true cx34_
        refine sm_T_go 2 (c1 := (47, [some (.inr (.inr (some (12, 0)))), some (.inl kk_), some (.inl nd_), some (.inl sd_), some (.inr (.inr (some (3, kk_.toNat))))], [.inl 1], S0_)) rfl ?_
        refine sm_T_cale (d1_ := 0) (Q1_ := vq_265e 1 S0_) (Q2_ := (fun ex_ S1_ => ex_ ∈ ([0] : List Nat) ∧ vx_265e 1 S0_ S1_)) rfl rfl (by decide) (vc_265e 1 S0_ hI_ ) rfl (fun xx40_ Sx35_ px38_ => ?_) (fun u_ Sx35_ px38_ => ?_)
        · exact absurd px38_.2.2.2.1 (by decide)
        obtain ⟨rfl, -, -, px38_, rfl⟩ := px38_
        refine sm_T_go 1 (c1 := (51, [some (.inr (.inr (some (12, 0)))), some (.inl kk_), some (.inl nd_), some (.inl sd_), some (.inr (.inr (some (3, kk_.toNat))))], [.inl sd_], S0_)) rfl ?_
        refine sm_T_b0 (a := 1) (z := 13) rfl (fun cx41_ => ?_) (fun cx41_ => ?_)
        · have cx41_ : sd_ ≠ 0 := of_decide_eq_true cx41_
          exfalso; omega
        · have cx41_ : ¬ (sd_ ≠ 0) := of_decide_eq_false cx41_
          refine sm_T_go 3 (c1 := (60, [some (.inr (.inr (some (12, 0)))), some (.inl kk_), some (.inl nd_), some (.inl sd_), some (.inr (.inr (some (3, kk_.toNat))))], [.inl nd_, .inr (.inr (some (42, (0 + kk_.toNat))))], S0_)) rfl ?_
          refine sm_T_iald (n := 1013) rfl rfl (by omega) (by omega) ?_
          have bx42_ : 0 ≤ S0_.2.2.1 42 (0 + kk_.toNat) nd_.toNat ∧ S0_.2.2.1 42 (0 + kk_.toNat) nd_.toNat ≤ 2025 := hI_.2 42 (0 + kk_.toNat) _
          refine sm_T_go 1 (c1 := (71, [some (.inr (.inr (some (12, 0)))), some (.inl kk_), some (.inl nd_), some (.inl sd_), some (.inr (.inr (some (3, kk_.toNat))))], [.inl (S0_.2.2.1 42 (0 + kk_.toNat) nd_.toNat)], S0_)) rfl ?_
          refine sm_T_ri rfl (Or.inl ⟨_, _, rfl, _, rfl, hI_, hF_, ?_⟩)
          trivial
      · have cx34_ : ¬ (sd_ = 0) := of_decide_eq_false cx34_
        refine sm_T_go 2 (c1 := (39, [some (.inr (.inr (some (12, 0)))), some (.inl kk_), some (.inl nd_), some (.inl sd_), some (.inr (.inr (some (3, kk_.toNat))))], [.inl 1, .inl sd_], S0_)) rfl ?_
        refine sm_T_br (a := 1) (z := 7) rfl (fun cx43_ => ?_) (fun cx43_ => ?_)
        · have cx43_ : sd_ ≠ 1 := of_decide_eq_true cx43_
          refine sm_T_go 1 (c1 := (47, [some (.inr (.inr (some (12, 0)))), some (.inl kk_), some (.inl nd_), some (.inl sd_), some (.inr (.inr (some (3, kk_.toNat))))], [.inl 0], S0_)) rfl ?_
          refine sm_T_cale (d1_ := 0) (Q1_ := vq_265e 0 S0_) (Q2_ := (fun ex_ S1_ => ex_ ∈ ([0] : List Nat) ∧ vx_265e 0 S0_ S1_)) rfl rfl (by decide) (vc_265e 0 S0_ hI_ ) rfl (fun xx49_ Sx44_ px47_ => ?_) (fun u_ Sx44_ px47_ => ?_)
          · obtain ⟨px47m, hIx45_, hFx46_, px47_⟩ := px47_
            refine Or.inr ⟨_, _, rfl, by first | exact px47m | (simp only [List.mem_cons, List.not_mem_nil, or_false] at px47m ⊢; omega), hIx45_, ai_fr_tr hF_ (fr_le hFx46_ rfl), ?_⟩
            first | exact px47_.2 | exact px47_ | rfl
          · exact absurd rfl px47_.2.2.2.1
        · have cx43_ : ¬ (sd_ ≠ 1) := of_decide_eq_false cx43_
          refine sm_T_go 2 (c1 := (47, [some (.inr (.inr (some (12, 0)))), some (.inl kk_), some (.inl nd_), some (.inl sd_), some (.inr (.inr (some (3, kk_.toNat))))], [.inl 1], S0_)) rfl ?_
          refine sm_T_cale (d1_ := 0) (Q1_ := vq_265e 1 S0_) (Q2_ := (fun ex_ S1_ => ex_ ∈ ([0] : List Nat) ∧ vx_265e 1 S0_ S1_)) rfl rfl (by decide) (vc_265e 1 S0_ hI_ ) rfl (fun xx55_ Sx50_ px53_ => ?_) (fun u_ Sx50_ px53_ => ?_)
          · exact absurd px53_.2.2.2.1 (by decide)
          obtain ⟨rfl, -, -, px53_, rfl⟩ := px53_
          refine sm_T_go 1 (c1 := (51, [some (.inr (.inr (some (12, 0)))), some (.inl kk_), some (.inl nd_), some (.inl sd_), some (.inr (.inr (some (3, kk_.toNat))))], [.inl sd_], S0_)) rfl ?_
          refine sm_T_b0 (a := 1) (z := 13) rfl (fun cx56_ => ?_) (fun cx56_ => ?_)
          · have cx56_ : sd_ ≠ 0 := of_decide_eq_true cx56_
            refine sm_T_go 3 (c1 := (70, [some (.inr (.inr (some (12, 0)))), some (.inl kk_), some (.inl nd_), some (.inl sd_), some (.inr (.inr (some (3, kk_.toNat))))], [.inl nd_, .inr (.inr (some (43, (0 + kk_.toNat))))], S0_)) rfl ?_
            refine sm_T_iald (n := 1013) rfl rfl (by omega) (by omega) ?_
            have bx57_ : 0 ≤ S0_.2.2.1 43 (0 + kk_.toNat) nd_.toNat ∧ S0_.2.2.1 43 (0 + kk_.toNat) nd_.toNat ≤ 2025 := hI_.2 43 (0 + kk_.toNat) _
            refine sm_T_ri rfl (Or.inl ⟨_, _, rfl, _, rfl, hI_, hF_, ?_⟩)
            trivial
          · have cx56_ : ¬ (sd_ ≠ 0) := of_decide_eq_false cx56_
            exfalso; omega
end
/-! 99.zj3c -/
section
/-! ChipFlow.swept -/
def vw_221 : sx_Wl := ([], [], [])
def vq_221 (kk_ : Int) (nd_ : Int) (S0_ : sm_S) (u_ : Option sm_V) (S1_ : sm_S) : Prop := ∃ v_ : Int, u_ = some (.inl v_) ∧ gi S1_ ∧ ai_fr (sx_W vw_221) S0_ S1_ ∧ (True)
def vx_221 (kk_ : Int) (nd_ : Int) (S0_ : sm_S) (S1_ : sm_S) : Prop := gi S1_ ∧ ai_fr (sx_W vw_221) S0_ S1_ ∧ (S1_ = S0_)
set_option maxHeartbeats 400000 in
theorem vc_221 {sc_ : Nat × (Nat → Int)} (kk_ : Int) (nd_ : Int) (S0_ : sm_S) (hI_ : gi S0_) (hJ_ : dAll S0_) : sm_T (mt_P sc_) 2 221 (0, [some (.inr (.inr (some (12, 0)))), some (.inl kk_), some (.inl nd_), none], [], S0_) (fun ro9_ => (∃ u_ S1_, ro9_ = (.inl u_, S1_, 0) ∧ vq_221 kk_ nd_ S0_ u_ S1_) ∨ ∃ ex_ S1_, ro9_ = (.inr ex_, S1_, 1) ∧ ex_ ∈ ([0] : List Nat) ∧ vx_221 kk_ nd_ S0_ S1_) := by
  have hF_ : ai_fr (sx_W vw_221) S0_ S0_ := ai_fr_rf
  refine sm_T_go 2 (c1 := (2, [some (.inr (.inr (some (12, 0)))), some (.inl kk_), some (.inl nd_), none], [.inl kk_, .inr (.inr (some (12, 0)))], S0_)) rfl ?_
  refine sm_T_cale (d1_ := 1) (Q1_ := vq_270 kk_ S0_) (Q2_ := (fun ex_ S1_ => ex_ ∈ ([0] : List Nat) ∧ vx_270 kk_ S0_ S1_)) rfl rfl (by decide) (vc_270 kk_ S0_ hI_ ) rfl (fun xx6_ Sx1_ px4_ => ?_) (fun u_ Sx1_ px4_ => ?_)
  · obtain ⟨px4m, hIx2_, hFx3_, px4_⟩ := px4_
    refine Or.inr ⟨_, _, rfl, by first | exact px4m | (simp only [List.mem_cons, List.not_mem_nil, or_false] at px4m ⊢; omega), hIx2_, ai_fr_tr hF_ (fr_le hFx3_ rfl), ?_⟩
    first | exact px4_.2 | exact px4_ | rfl
  obtain ⟨rfl, -, -, rfl, px4_⟩ := px4_
  have a9_ := px4_
  have J9_ := dOk_b (hJ_ kk_.toNat (by omega) a9_.2)
  have J9a := J9_.1
  have J9b := J9_.2.1
  refine sm_T_go 2 (c1 := (7, [some (.inr (.inr (some (12, 0)))), some (.inl kk_), some (.inl nd_), some (.inr (.inr (some (3, kk_.toNat))))], [.inl nd_], S0_)) rfl ?_
  refine sm_T_b0 (a := 2) (z := 15) rfl (fun cx7_ => ?_) (fun cx7_ => ?_)
  · have cx7_ : nd_ < 0 := of_decide_eq_true cx7_
    refine sm_T_go 1 (c1 := (23, [some (.inr (.inr (some (12, 0)))), some (.inl kk_), some (.inl nd_), some (.inr (.inr (some (3, kk_.toNat))))], [.inl 0], S0_)) rfl ?_
    refine sm_T_cale (d1_ := 0) (Q1_ := vq_265e 0 S0_) (Q2_ := (fun ex_ S1_ => ex_ ∈ ([0] : List Nat) ∧ vx_265e 0 S0_ S1_)) rfl rfl (by decide) (vc_265e 0 S0_ hI_ ) rfl (fun xx13_ Sx8_ px11_ => ?_) (fun u_ Sx8_ px11_ => ?_)
    · obtain ⟨px11m, hIx9_, hFx10_, px11_⟩ := px11_
      refine Or.inr ⟨_, _, rfl, by first | exact px11m | (simp only [List.mem_cons, List.not_mem_nil, or_false] at px11m ⊢; omega), hIx9_, ai_fr_tr hF_ (fr_le hFx10_ rfl), ?_⟩
      first | exact px11_.2 | exact px11_ | rfl
    · exact absurd rfl px11_.2.2.2.1
  · have cx7_ : ¬ (nd_ < 0) := of_decide_eq_false cx7_
    have bx14_ : 0 ≤ S0_.1 3 kk_.toNat 4 ∧ S0_.1 3 kk_.toNat 4 ≤ 1013 := hI_.1 3 kk_.toNat 4 rfl
    refine sm_T_go 3 (c1 := (15, [some (.inr (.inr (some (12, 0)))), some (.inl kk_), some (.inl nd_), some (.inr (.inr (some (3, kk_.toNat))))], [.inl (S0_.1 3 kk_.toNat 4), .inl nd_], S0_)) rfl ?_
    refine sm_T_br (a := 3) (z := 7) rfl (fun cx15_ => ?_) (fun cx15_ => ?_)
    · have cx15_ : (S0_.1 3 kk_.toNat 4) ≤ nd_ := of_decide_eq_true cx15_
      refine sm_T_go 1 (c1 := (23, [some (.inr (.inr (some (12, 0)))), some (.inl kk_), some (.inl nd_), some (.inr (.inr (some (3, kk_.toNat))))], [.inl 0], S0_)) rfl ?_
      refine sm_T_cale (d1_ := 0) (Q1_ := vq_265e 0 S0_) (Q2_ := (fun ex_ S1_ => ex_ ∈ ([0] : List Nat) ∧ vx_265e 0 S0_ S1_)) rfl rfl (by decide) (vc_265e 0 S0_ hI_ ) rfl (fun xx21_ Sx16_ px19_ => ?_) (fun u_ Sx16_ px19_ => ?_)
      · obtain ⟨px19m, hIx17_, hFx18_, px19_⟩ := px19_
        refine Or.inr ⟨_, _, rfl, by first | exact px19m | (simp only [List.mem_cons, List.not_mem_nil, or_false] at px19m ⊢; omega), hIx17_, ai_fr_tr hF_ (fr_le hFx18_ rfl), ?_⟩
        first | exact px19_.2 | exact px19_ | rfl
      · exact absurd rfl px19_.2.2.2.1
    · have cx15_ : ¬ ((S0_.1 3 kk_.toNat 4) ≤ nd_) := of_decide_eq_false cx15_
      refine sm_T_go 2 (c1 := (23, [some (.inr (.inr (some (12, 0)))), some (.inl kk_), some (.inl nd_), some (.inr (.inr (some (3, kk_.toNat))))], [.inl 1], S0_)) rfl ?_
      refine sm_T_cale (d1_ := 0) (Q1_ := vq_265e 1 S0_) (Q2_ := (fun ex_ S1_ => ex_ ∈ ([0] : List Nat) ∧ vx_265e 1 S0_ S1_)) rfl rfl (by decide) (vc_265e 1 S0_ hI_ ) rfl (fun xx27_ Sx22_ px25_ => ?_) (fun u_ Sx22_ px25_ => ?_)
      · exact absurd px25_.2.2.2.1 (by decide)
      obtain ⟨rfl, -, -, px25_, rfl⟩ := px25_
      refine sm_T_go 3 (c1 := (31, [some (.inr (.inr (some (12, 0)))), some (.inl kk_), some (.inl nd_), some (.inr (.inr (some (3, kk_.toNat))))], [.inl nd_, .inr (.inr (some (44, (0 + kk_.toNat))))], S0_)) rfl ?_
      refine sm_T_iald (n := 1013) rfl rfl (by omega) (by omega) ?_
      have bx28_ : 0 ≤ S0_.2.2.1 44 (0 + kk_.toNat) nd_.toNat ∧ S0_.2.2.1 44 (0 + kk_.toNat) nd_.toNat ≤ 2025 := hI_.2 44 (0 + kk_.toNat) _
      refine sm_T_ri rfl (Or.inl ⟨_, _, rfl, _, rfl, hI_, hF_, ?_⟩)
      trivial
end
/-! 99.zj3d -/
section
/-! ChipFlow.root -/
def vw_222 : sx_Wl := ([], [], [])
def vq_222 (kk_ : Int) (k_ : Int) (nx_ : Int) (S0_ : sm_S) (u_ : Option sm_V) (S1_ : sm_S) : Prop := ∃ v_ : Int, u_ = some (.inl v_) ∧ gi S1_ ∧ ai_fr (sx_W vw_222) S0_ S1_ ∧ (True)
def vx_222 (kk_ : Int) (k_ : Int) (nx_ : Int) (S0_ : sm_S) (S1_ : sm_S) : Prop := gi S1_ ∧ ai_fr (sx_W vw_222) S0_ S1_ ∧ (S1_ = S0_)
set_option maxHeartbeats 400000 in
theorem vc_222 {sc_ : Nat × (Nat → Int)} (kk_ : Int) (k_ : Int) (nx_ : Int) (S0_ : sm_S) (hI_ : gi S0_) (hJ_ : dAll S0_) : sm_T (mt_P sc_) 2 222 (0, [some (.inr (.inr (some (12, 0)))), some (.inl kk_), some (.inl k_), some (.inl nx_), none], [], S0_) (fun ro9_ => (∃ u_ S1_, ro9_ = (.inl u_, S1_, 0) ∧ vq_222 kk_ k_ nx_ S0_ u_ S1_) ∨ ∃ ex_ S1_, ro9_ = (.inr ex_, S1_, 1) ∧ ex_ ∈ ([0] : List Nat) ∧ vx_222 kk_ k_ nx_ S0_ S1_) := by
  have hF_ : ai_fr (sx_W vw_222) S0_ S0_ := ai_fr_rf
  refine sm_T_go 2 (c1 := (2, [some (.inr (.inr (some (12, 0)))), some (.inl kk_), some (.inl k_), some (.inl nx_), none], [.inl kk_, .inr (.inr (some (12, 0)))], S0_)) rfl ?_
  refine sm_T_cale (d1_ := 1) (Q1_ := vq_270 kk_ S0_) (Q2_ := (fun ex_ S1_ => ex_ ∈ ([0] : List Nat) ∧ vx_270 kk_ S0_ S1_)) rfl rfl (by decide) (vc_270 kk_ S0_ hI_ ) rfl (fun xx6_ Sx1_ px4_ => ?_) (fun u_ Sx1_ px4_ => ?_)
  · obtain ⟨px4m, hIx2_, hFx3_, px4_⟩ := px4_
    refine Or.inr ⟨_, _, rfl, by first | exact px4m | (simp only [List.mem_cons, List.not_mem_nil, or_false] at px4m ⊢; omega), hIx2_, ai_fr_tr hF_ (fr_le hFx3_ rfl), ?_⟩
    first | exact px4_.2 | exact px4_ | rfl
  obtain ⟨rfl, -, -, rfl, px4_⟩ := px4_
  have a9_ := px4_
  have J9_ := dOk_b (hJ_ kk_.toNat (by omega) a9_.2)
  have J9a := J9_.1
  have J9b := J9_.2.1
  refine sm_T_go 2 (c1 := (8, [some (.inr (.inr (some (12, 0)))), some (.inl kk_), some (.inl k_), some (.inl nx_), some (.inr (.inr (some (3, kk_.toNat))))], [.inl k_], S0_)) rfl ?_
  refine sm_T_b0 (a := 2) (z := 28) rfl (fun cx7_ => ?_) (fun cx7_ => ?_)
  · have cx7_ : k_ < 0 := of_decide_eq_true cx7_
    refine sm_T_go 1 (c1 := (37, [some (.inr (.inr (some (12, 0)))), some (.inl kk_), some (.inl k_), some (.inl nx_), some (.inr (.inr (some (3, kk_.toNat))))], [.inl 0], S0_)) rfl ?_
    refine sm_T_cale (d1_ := 0) (Q1_ := vq_265e 0 S0_) (Q2_ := (fun ex_ S1_ => ex_ ∈ ([0] : List Nat) ∧ vx_265e 0 S0_ S1_)) rfl rfl (by decide) (vc_265e 0 S0_ hI_ ) rfl (fun xx13_ Sx8_ px11_ => ?_) (fun u_ Sx8_ px11_ => ?_)
    · obtain ⟨px11m, hIx9_, hFx10_, px11_⟩ := px11_
      refine Or.inr ⟨_, _, rfl, by first | exact px11m | (simp only [List.mem_cons, List.not_mem_nil, or_false] at px11m ⊢; omega), hIx9_, ai_fr_tr hF_ (fr_le hFx10_ rfl), ?_⟩
      first | exact px11_.2 | exact px11_ | rfl
    · exact absurd rfl px11_.2.2.2.1
  · have cx7_ : ¬ (k_ < 0) := of_decide_eq_false cx7_
    refine sm_T_go 2 (c1 := (13, [some (.inr (.inr (some (12, 0)))), some (.inl kk_), some (.inl k_), some (.inl nx_), some (.inr (.inr (some (3, kk_.toNat))))], [.inl nx_, .inl k_], S0_)) rfl ?_
    refine sm_T_b0 (a := 0) (z := 11) rfl (fun cx14_ => ?_) (fun cx14_ => ?_)
    · have cx14_ : nx_ = 0 := of_decide_eq_true cx14_
      have bx15_ : 0 ≤ S0_.1 3 kk_.toNat 3 ∧ S0_.1 3 kk_.toNat 3 ≤ 320 := hI_.1 3 kk_.toNat 3 rfl
      refine sm_T_go 2 (c1 := (29, [some (.inr (.inr (some (12, 0)))), some (.inl kk_), some (.inl k_), some (.inl nx_), some (.inr (.inr (some (3, kk_.toNat))))], [.inl (S0_.1 3 kk_.toNat 3), .inl k_], S0_)) rfl ?_
      refine sm_T_br (a := 3) (z := 7) rfl (fun cx16_ => ?_) (fun cx16_ => ?_)
      · have cx16_ : (S0_.1 3 kk_.toNat 3) ≤ k_ := of_decide_eq_true cx16_
        refine sm_T_go 1 (c1 := (37, [some (.inr (.inr (some (12, 0)))), some (.inl kk_), some (.inl k_), some (.inl nx_), some (.inr (.inr (some (3, kk_.toNat))))], [.inl 0], S0_)) rfl ?_
        refine sm_T_cale (d1_ := 0) (Q1_ := vq_265e 0 S0_) (Q2_ := (fun ex_ S1_ => ex_ ∈ ([0] : List Nat) ∧ vx_265e 0 S0_ S1_)) rfl rfl (by decide) (vc_265e 0 S0_ hI_ ) rfl (fun xx22_ Sx17_ px20_ => ?_) (fun u_ Sx17_ px20_ => ?_)
        · obtain ⟨px20m, hIx18_, hFx19_, px20_⟩ := px20_
          refine Or.inr ⟨_, _, rfl, by first | exact px20m | (simp only [List.mem_cons, List.not_mem_nil, or_false] at px20m ⊢; omega), hIx18_, ai_fr_tr hF_ (fr_le hFx19_ rfl), ?_⟩
          first | exact px20_.2 | exact px20_ | rfl
        · exact absurd rfl px20_.2.2.2.1
      · have cx16_ : ¬ ((S0_.1 3 kk_.toNat 3) ≤ k_) := of_decide_eq_false cx16_
        refine sm_T_go 2 (c1 := (37, [some (.inr (.inr (some (12, 0)))), some (.inl kk_), some (.inl k_), some (.inl nx_), some (.inr (.inr (some (3, kk_.toNat))))], [.inl 1], S0_)) rfl ?_
        refine sm_T_cale (d1_ := 0) (Q1_ := vq_265e 1 S0_) (Q2_ := (fun ex_ S1_ => ex_ ∈ ([0] : List Nat) ∧ vx_265e 1 S0_ S1_)) rfl rfl (by decide) (vc_265e 1 S0_ hI_ ) rfl (fun xx28_ Sx23_ px26_ => ?_) (fun u_ Sx23_ px26_ => ?_)
        · exact absurd px26_.2.2.2.1 (by decide)
        obtain ⟨rfl, -, -, px26_, rfl⟩ := px26_
        refine sm_T_go 1 (c1 := (41, [some (.inr (.inr (some (12, 0)))), some (.inl kk_), some (.inl k_), some (.inl nx_), some (.inr (.inr (some (3, kk_.toNat))))], [.inl nx_], S0_)) rfl ?_
        refine sm_T_b0 (a := 0) (z := 13) rfl (fun cx29_ => ?_) (fun cx29_ => ?_)
        · have cx29_ : nx_ = 0 := of_decide_eq_true cx29_
          refine sm_T_go 3 (c1 := (60, [some (.inr (.inr (some (12, 0)))), some (.inl kk_), some (.inl k_), some (.inl nx_), some (.inr (.inr (some (3, kk_.toNat))))], [.inl k_, .inr (.inr (some (45, (0 + kk_.toNat))))], S0_)) rfl ?_
          refine sm_T_iald (n := 16) rfl rfl (by omega) (by omega) ?_
          have bx30_ : 0 ≤ S0_.2.2.1 45 (0 + kk_.toNat) k_.toNat ∧ S0_.2.2.1 45 (0 + kk_.toNat) k_.toNat ≤ 2025 := hI_.2 45 (0 + kk_.toNat) _
          refine sm_T_ri rfl (Or.inl ⟨_, _, rfl, _, rfl, hI_, hF_, ?_⟩)
          trivial
        · have cx29_ : ¬ (nx_ = 0) := of_decide_eq_false cx29_
          exfalso; omega
    · have cx14_ : ¬ (nx_ = 0) := of_decide_eq_false cx14_
      have bx31_ : 0 ≤ S0_.1 3 kk_.toNat 2 ∧ S0_.1 3 kk_.toNat 2 ≤ 100000 := hI_.1 3 kk_.toNat 2 rfl
      refine sm_T_go 3 (c1 := (29, [some (.inr (.inr (some (12, 0)))), some (.inl kk_), some (.inl k_), some (.inl nx_), some (.inr (.inr (some (3, kk_.toNat))))], [.inl (S0_.1 3 kk_.toNat 2), .inl k_], S0_)) rfl ?_
      refine sm_T_br (a := 3) (z := 7) rfl (fun cx32_ => ?_) (fun cx32_ => ?_)
      · have cx32_ : (S0_.1 3 kk_.toNat 2) ≤ k_ := of_decide_eq_true cx32_
        refine sm_T_go 1 (c1 := (37, [some (.inr (.inr (some (12, 0)))), some (.inl kk_), some (.inl k_), some (.inl nx_), some (.inr (.inr (some (3, kk_.toNat))))], [.inl 0], S0_)) rfl ?_
        refine sm_T_cale (d1_ := 0) (Q1_ := vq_265e 0 S0_) (Q2_ := (fun ex_ S1_ => ex_ ∈ ([0] : List Nat) ∧ vx_265e 0 S0_ S1_)) rfl rfl (by decide) (vc_265e 0 S0_ hI_ ) rfl (fun xx38_ Sx33_ px36_ => ?_) (fun u_ Sx33_ px36_ => ?_)
        · obtain ⟨px36m, hIx34_, hFx35_, px36_⟩ := px36_
          refine Or.inr ⟨_, _, rfl, by first | exact px36m | (simp only [List.mem_cons, List.not_mem_nil, or_false] at px36m ⊢; omega), hIx34_, ai_fr_tr hF_ (fr_le hFx35_ rfl), ?_⟩
          first | exact px36_.2 | exact px36_ | rfl
        · exact absurd rfl px36_.2.2.2.1
      · have cx32_ : ¬ ((S0_.1 3 kk_.toNat 2) ≤ k_) := of_decide_eq_false cx32_
        refine sm_T_go 2 (c1 := (37, [some (.inr (.inr (some (12, 0)))), some (.inl kk_), some (.inl k_), some (.inl nx_), some (.inr (.inr (some (3, kk_.toNat))))], [.inl 1], S0_)) rfl ?_
        refine sm_T_cale (d1_ := 0) (Q1_ := vq_265e 1 S0_) (Q2_ := (fun ex_ S1_ => ex_ ∈ ([0] : List Nat) ∧ vx_265e 1 S0_ S1_)) rfl rfl (by decide) (vc_265e 1 S0_ hI_ ) rfl (fun xx44_ Sx39_ px42_ => ?_) (fun u_ Sx39_ px42_ => ?_)
        · exact absurd px42_.2.2.2.1 (by decide)
        obtain ⟨rfl, -, -, px42_, rfl⟩ := px42_
        refine sm_T_go 1 (c1 := (41, [some (.inr (.inr (some (12, 0)))), some (.inl kk_), some (.inl k_), some (.inl nx_), some (.inr (.inr (some (3, kk_.toNat))))], [.inl nx_], S0_)) rfl ?_
        refine sm_T_b0 (a := 0) (z := 13) rfl (fun cx45_ => ?_) (fun cx45_ => ?_)
        · have cx45_ : nx_ = 0 := of_decide_eq_true cx45_
          refine sm_T_go 3 (c1 := (60, [some (.inr (.inr (some (12, 0)))), some (.inl kk_), some (.inl k_), some (.inl nx_), some (.inr (.inr (some (3, kk_.toNat))))], [.inl k_, .inr (.inr (some (45, (0 + kk_.toNat))))], S0_)) rfl ?_
          refine sm_T_iald (n := 16) rfl rfl (by omega) (by omega) ?_
          have bx46_ : 0 ≤ S0_.2.2.1 45 (0 + kk_.toNat) k_.toNat ∧ S0_.2.2.1 45 (0 + kk_.toNat) k_.toNat ≤ 2025 := hI_.2 45 (0 + kk_.toNat) _
          refine sm_T_ri rfl (Or.inl ⟨_, _, rfl, _, rfl, hI_, hF_, ?_⟩)
          trivial
        · have cx45_ : ¬ (nx_ = 0) := of_decide_eq_false cx45_
          refine sm_T_go 3 (c1 := (50, [some (.inr (.inr (some (12, 0)))), some (.inl kk_), some (.inl k_), some (.inl nx_), some (.inr (.inr (some (3, kk_.toNat))))], [.inl k_, .inr (.inr (some (46, (0 + kk_.toNat))))], S0_)) rfl ?_
          refine sm_T_iald (n := 6) rfl rfl (by omega) (by omega) ?_
          have bx47_ : 0 ≤ S0_.2.2.1 46 (0 + kk_.toNat) k_.toNat ∧ S0_.2.2.1 46 (0 + kk_.toNat) k_.toNat ≤ 2025 := hI_.2 46 (0 + kk_.toNat) _
          refine sm_T_go 1 (c1 := (61, [some (.inr (.inr (some (12, 0)))), some (.inl kk_), some (.inl k_), some (.inl nx_), some (.inr (.inr (some (3, kk_.toNat))))], [.inl (S0_.2.2.1 46 (0 + kk_.toNat) k_.toNat)], S0_)) rfl ?_
          refine sm_T_ri rfl (Or.inl ⟨_, _, rfl, _, rfl, hI_, hF_, ?_⟩)
          trivial
end
/-! 99.zj3e -/
section
/-! ChipFlow.state -/
def vw_225 : sx_Wl := ([], [], [])
def vq_225 (kk_ : Int) (S0_ : sm_S) (u_ : Option sm_V) (S1_ : sm_S) : Prop := ∃ v_ : Int, u_ = some (.inl v_) ∧ gi S1_ ∧ ai_fr (sx_W vw_225) S0_ S1_ ∧ (True)
def vx_225 (kk_ : Int) (S0_ : sm_S) (S1_ : sm_S) : Prop := gi S1_ ∧ ai_fr (sx_W vw_225) S0_ S1_ ∧ (S1_ = S0_)
set_option maxHeartbeats 400000 in
theorem vc_225 {sc_ : Nat × (Nat → Int)} (kk_ : Int) (S0_ : sm_S) (hI_ : gi S0_) (hJ_ : dAll S0_) : sm_T (mt_P sc_) 2 225 (0, [some (.inr (.inr (some (12, 0)))), some (.inl kk_)], [], S0_) (fun ro9_ => (∃ u_ S1_, ro9_ = (.inl u_, S1_, 0) ∧ vq_225 kk_ S0_ u_ S1_) ∨ ∃ ex_ S1_, ro9_ = (.inr ex_, S1_, 1) ∧ ex_ ∈ ([0] : List Nat) ∧ vx_225 kk_ S0_ S1_) := by
  have hF_ : ai_fr (sx_W vw_225) S0_ S0_ := ai_fr_rf
  refine sm_T_go 2 (c1 := (2, [some (.inr (.inr (some (12, 0)))), some (.inl kk_)], [.inl kk_, .inr (.inr (some (12, 0)))], S0_)) rfl ?_
  refine sm_T_cale (d1_ := 1) (Q1_ := vq_270 kk_ S0_) (Q2_ := (fun ex_ S1_ => ex_ ∈ ([0] : List Nat) ∧ vx_270 kk_ S0_ S1_)) rfl rfl (by decide) (vc_270 kk_ S0_ hI_ ) rfl (fun xx6_ Sx1_ px4_ => ?_) (fun u_ Sx1_ px4_ => ?_)
  · obtain ⟨px4m, hIx2_, hFx3_, px4_⟩ := px4_
    refine Or.inr ⟨_, _, rfl, by first | exact px4m | (simp only [List.mem_cons, List.not_mem_nil, or_false] at px4m ⊢; omega), hIx2_, ai_fr_tr hF_ (fr_le hFx3_ rfl), ?_⟩
    first | exact px4_.2 | exact px4_ | rfl
  obtain ⟨rfl, -, -, rfl, px4_⟩ := px4_
  have a9_ := px4_
  have J9_ := dOk_b (hJ_ kk_.toNat (by omega) a9_.2)
  have J9a := J9_.1
  have J9b := J9_.2.1
  have bx7_ : 0 ≤ S0_.1 3 kk_.toNat 6 ∧ S0_.1 3 kk_.toNat 6 ≤ 63 := hI_.1 3 kk_.toNat 6 rfl
  refine sm_T_go 1 (c1 := (8, [some (.inr (.inr (some (12, 0)))), some (.inl kk_)], [.inl (S0_.1 3 kk_.toNat 6)], S0_)) rfl ?_
  refine sm_T_ri rfl (Or.inl ⟨_, _, rfl, _, rfl, hI_, hF_, ?_⟩)
  trivial
end
/-! 99.zj3f -/
section
/-! ChipFlow.restart -/
def vw_226 : sx_Wl := ([(3, 6)], [], [])
def vq_226 (kk_ : Int) (S0_ : sm_S) (u_ : Option sm_V) (S1_ : sm_S) : Prop := ∃ v_ : Int, u_ = some (.inl v_) ∧ gi S1_ ∧ ai_fr (sx_W vw_226) S0_ S1_ ∧ (dAll S1_)
def vx_226 (kk_ : Int) (S0_ : sm_S) (S1_ : sm_S) : Prop := gi S1_ ∧ ai_fr (sx_W vw_226) S0_ S1_ ∧ (S1_ = S0_)
set_option maxHeartbeats 400000 in
theorem vc_226 {sc_ : Nat × (Nat → Int)} (kk_ : Int) (S0_ : sm_S) (hI_ : gi S0_) (hJ_ : dAll S0_) : sm_T (mt_P sc_) 2 226 (0, [some (.inr (.inr (some (12, 0)))), some (.inl kk_), none, none], [], S0_) (fun ro9_ => (∃ u_ S1_, ro9_ = (.inl u_, S1_, 0) ∧ vq_226 kk_ S0_ u_ S1_) ∨ ∃ ex_ S1_, ro9_ = (.inr ex_, S1_, 1) ∧ ex_ ∈ ([0] : List Nat) ∧ vx_226 kk_ S0_ S1_) := by
  have hF_ : ai_fr (sx_W vw_226) S0_ S0_ := ai_fr_rf
  refine sm_T_go 2 (c1 := (2, [some (.inr (.inr (some (12, 0)))), some (.inl kk_), none, none], [.inl kk_, .inr (.inr (some (12, 0)))], S0_)) rfl ?_
  refine sm_T_cale (d1_ := 1) (Q1_ := vq_270 kk_ S0_) (Q2_ := (fun ex_ S1_ => ex_ ∈ ([0] : List Nat) ∧ vx_270 kk_ S0_ S1_)) rfl rfl (by decide) (vc_270 kk_ S0_ hI_ ) rfl (fun xx6_ Sx1_ px4_ => ?_) (fun u_ Sx1_ px4_ => ?_)
  · obtain ⟨px4m, hIx2_, hFx3_, px4_⟩ := px4_
    refine Or.inr ⟨_, _, rfl, by first | exact px4m | (simp only [List.mem_cons, List.not_mem_nil, or_false] at px4m ⊢; omega), hIx2_, ai_fr_tr hF_ (fr_le hFx3_ rfl), ?_⟩
    first | exact px4_.2 | exact px4_ | rfl
  obtain ⟨rfl, -, -, rfl, px4_⟩ := px4_
  have a9_ := px4_
  have J9_ := dOk_b (hJ_ kk_.toNat (by omega) a9_.2)
  have J9a := J9_.1
  have J9b := J9_.2.1
  have bx7_ : 0 ≤ S0_.1 3 kk_.toNat 6 ∧ S0_.1 3 kk_.toNat 6 ≤ 63 := hI_.1 3 kk_.toNat 6 rfl
  have bx8_ : 0 ≤ S0_.1 3 kk_.toNat 5 ∧ S0_.1 3 kk_.toNat 5 ≤ 63 := hI_.1 3 kk_.toNat 5 rfl
  have hIx9_ : gi (sm_pI S0_ 3 kk_.toNat 6 (S0_.1 3 kk_.toNat 5)) := gi_pI hI_ (show 0 ≤ (S0_.1 3 kk_.toNat 5) ∧ (S0_.1 3 kk_.toNat 5) ≤ 63 from ⟨by omega, by omega⟩)
  have hFx10_ : ai_fr (sx_W vw_226) S0_ (sm_pI S0_ 3 kk_.toNat 6 (S0_.1 3 kk_.toNat 5)) := ai_fr_tr hF_ (ai_fr_pI rfl)
  refine sm_T_go 9 (c1 := (20, [some (.inr (.inr (some (12, 0)))), some (.inl kk_), some (.inr (.inr (some (3, kk_.toNat)))), some (.inl (S0_.1 3 kk_.toNat 6))], [.inl (S0_.1 3 kk_.toNat 6)], sm_pI S0_ 3 kk_.toNat 6 (S0_.1 3 kk_.toNat 5))) rfl ?_
  refine sm_T_ri rfl (Or.inl ⟨_, _, rfl, _, rfl, hIx9_, hFx10_, ?_⟩)
  exact dAll_st hJ_ J9_.2.2.1
end
/-! 99.zj3h -/
section
/-! ChipFlow.play -/
def vw_224 : sx_Wl := ([(3, 6)], [], [])
def vq_224 (kk_ : Int) (ip_ : Int) (S0_ : sm_S) (u_ : Option sm_V) (S1_ : sm_S) : Prop := ∃ v_ : Int, u_ = some (.inl v_) ∧ gi S1_ ∧ ai_fr (sx_W vw_224) S0_ S1_ ∧ (dAll S1_)
def vx_224 (kk_ : Int) (ip_ : Int) (S0_ : sm_S) (S1_ : sm_S) : Prop := gi S1_ ∧ ai_fr (sx_W vw_224) S0_ S1_ ∧ (S1_ = S0_)
set_option maxHeartbeats 400000 in
theorem vc_224 {sc_ : Nat × (Nat → Int)} (kk_ : Int) (ip_ : Int) (S0_ : sm_S) (hI_ : gi S0_) (hJ_ : dAll S0_) : sm_T (mt_P sc_) 2 224 (0, [some (.inr (.inr (some (12, 0)))), some (.inl kk_), some (.inl ip_), none, none], [], S0_) (fun ro9_ => (∃ u_ S1_, ro9_ = (.inl u_, S1_, 0) ∧ vq_224 kk_ ip_ S0_ u_ S1_) ∨ ∃ ex_ S1_, ro9_ = (.inr ex_, S1_, 1) ∧ ex_ ∈ ([0, 1] : List Nat) ∧ vx_224 kk_ ip_ S0_ S1_) := by
  have hF_ : ai_fr (sx_W vw_224) S0_ S0_ := ai_fr_rf
  refine sm_T_go 2 (c1 := (2, [some (.inr (.inr (some (12, 0)))), some (.inl kk_), some (.inl ip_), none, none], [.inl kk_, .inr (.inr (some (12, 0)))], S0_)) rfl ?_
  refine sm_T_cale (d1_ := 1) (Q1_ := vq_270 kk_ S0_) (Q2_ := (fun ex_ S1_ => ex_ ∈ ([0] : List Nat) ∧ vx_270 kk_ S0_ S1_)) rfl rfl (by decide) (vc_270 kk_ S0_ hI_ ) rfl (fun xx6_ Sx1_ px4_ => ?_) (fun u_ Sx1_ px4_ => ?_)
  · obtain ⟨px4m, hIx2_, hFx3_, px4_⟩ := px4_
    refine Or.inr ⟨_, _, rfl, by first | exact px4m | (simp only [List.mem_cons, List.not_mem_nil, or_false] at px4m ⊢; omega), hIx2_, ai_fr_tr hF_ (fr_le hFx3_ rfl), ?_⟩
    first | exact px4_.2 | exact px4_ | rfl
  obtain ⟨rfl, -, -, rfl, px4_⟩ := px4_
  have a9_ := px4_
  have J9_ := dOk_b (hJ_ kk_.toNat (by omega) a9_.2)
  have J9a := J9_.1
  have J9b := J9_.2.1
  refine sm_T_go 2 (c1 := (7, [some (.inr (.inr (some (12, 0)))), some (.inl kk_), some (.inl ip_), some (.inr (.inr (some (3, kk_.toNat)))), none], [.inl ip_], S0_)) rfl ?_
  refine sm_T_b0 (a := 2) (z := 17) rfl (fun cx7_ => ?_) (fun cx7_ => ?_)
  · have cx7_ : ip_ < 0 := of_decide_eq_true cx7_
    refine sm_T_go 1 (c1 := (25, [some (.inr (.inr (some (12, 0)))), some (.inl kk_), some (.inl ip_), some (.inr (.inr (some (3, kk_.toNat)))), none], [.inl 0], S0_)) rfl ?_
    refine sm_T_cale (d1_ := 0) (Q1_ := vq_266e 0 S0_) (Q2_ := (fun ex_ S1_ => ex_ ∈ ([1] : List Nat) ∧ vx_266e 0 S0_ S1_)) rfl rfl (by decide) (vc_266e 0 S0_ hI_ ) rfl (fun xx13_ Sx8_ px11_ => ?_) (fun u_ Sx8_ px11_ => ?_)
    · obtain ⟨px11m, hIx9_, hFx10_, px11_⟩ := px11_
      refine Or.inr ⟨_, _, rfl, by first | exact px11m | (simp only [List.mem_cons, List.not_mem_nil, or_false] at px11m ⊢; omega), hIx9_, ai_fr_tr hF_ (fr_le hFx10_ rfl), ?_⟩
      first | exact px11_.2 | exact px11_ | rfl
    · exact absurd rfl px11_.2.2.2.1
  · have cx7_ : ¬ (ip_ < 0) := of_decide_eq_false cx7_
    have bx14_ : 0 ≤ S0_.1 3 kk_.toNat 1 ∧ S0_.1 3 kk_.toNat 1 ≤ 320 := hI_.1 3 kk_.toNat 1 rfl
    refine sm_T_go 4 (c1 := (16, [some (.inr (.inr (some (12, 0)))), some (.inl kk_), some (.inl ip_), some (.inr (.inr (some (3, kk_.toNat)))), none], [.inl (S0_.1 3 kk_.toNat 1), .inl 1, .inl ip_], S0_)) rfl ?_
    refine sm_T_bin (w := (i_shl 1 (S0_.1 3 kk_.toNat 1))) rfl rfl ?_
    have bx15_ := i_shl1 (e := (S0_.1 3 kk_.toNat 1)) (by omega) (by omega)
    have hp0_ := pw_pos ((S0_.1 3 kk_.toNat 1)).toNat
    refine sm_T_br (a := 3) (z := 7) rfl (fun cx17_ => ?_) (fun cx17_ => ?_)
    · have cx17_ : (i_shl 1 (S0_.1 3 kk_.toNat 1)) ≤ ip_ := of_decide_eq_true cx17_
      refine sm_T_go 1 (c1 := (25, [some (.inr (.inr (some (12, 0)))), some (.inl kk_), some (.inl ip_), some (.inr (.inr (some (3, kk_.toNat)))), none], [.inl 0], S0_)) rfl ?_
      refine sm_T_cale (d1_ := 0) (Q1_ := vq_266e 0 S0_) (Q2_ := (fun ex_ S1_ => ex_ ∈ ([1] : List Nat) ∧ vx_266e 0 S0_ S1_)) rfl rfl (by decide) (vc_266e 0 S0_ hI_ ) rfl (fun xx23_ Sx18_ px21_ => ?_) (fun u_ Sx18_ px21_ => ?_)
      · obtain ⟨px21m, hIx19_, hFx20_, px21_⟩ := px21_
        refine Or.inr ⟨_, _, rfl, by first | exact px21m | (simp only [List.mem_cons, List.not_mem_nil, or_false] at px21m ⊢; omega), hIx19_, ai_fr_tr hF_ (fr_le hFx20_ rfl), ?_⟩
        first | exact px21_.2 | exact px21_ | rfl
      · exact absurd rfl px21_.2.2.2.1
    · have cx17_ : ¬ ((i_shl 1 (S0_.1 3 kk_.toNat 1)) ≤ ip_) := of_decide_eq_false cx17_
      refine sm_T_go 2 (c1 := (25, [some (.inr (.inr (some (12, 0)))), some (.inl kk_), some (.inl ip_), some (.inr (.inr (some (3, kk_.toNat)))), none], [.inl 1], S0_)) rfl ?_
      refine sm_T_cale (d1_ := 0) (Q1_ := vq_266e 1 S0_) (Q2_ := (fun ex_ S1_ => ex_ ∈ ([1] : List Nat) ∧ vx_266e 1 S0_ S1_)) rfl rfl (by decide) (vc_266e 1 S0_ hI_ ) rfl (fun xx29_ Sx24_ px27_ => ?_) (fun u_ Sx24_ px27_ => ?_)
      · exact absurd px27_.2.2.2.1 (by decide)
      obtain ⟨rfl, -, -, px27_, rfl⟩ := px27_
      have n25_ := px27_
      have J9d := J9_.2.2.2.1
      have pt9_ := pat_b (s_ := S0_.1 3 kk_.toNat 6) (i_ := ip_) (R_ := (S0_.1 3 kk_.toNat 2).toNat) (I_ := (S0_.1 3 kk_.toNat 1).toNat) (by omega) (by omega) (by omega)
      have pt8_ := pw_le (n := (S0_.1 3 kk_.toNat 2).toNat + (S0_.1 3 kk_.toNat 1).toNat) (m := 12) (by omega)
      rw [show (((S0_.1 3 kk_.toNat 1).toNat : Nat) : Int) = S0_.1 3 kk_.toNat 1 by omega, i_or_c] at pt9_
      have tb9_ := J9_.2.2.2.2 (i_or ip_ (i_shl (S0_.1 3 kk_.toNat 6) (S0_.1 3 kk_.toNat 1))).toNat (by omega)
      have nx9_ := shr16 tb9_
      have nx8_ := pw_le (n := (S0_.1 3 kk_.toNat 2).toNat) (m := 6) (by omega)
      rw [Nat.zero_add] at tb9_ nx9_
      have bx30_ : 0 ≤ S0_.1 3 kk_.toNat 6 ∧ S0_.1 3 kk_.toNat 6 ≤ 63 := hI_.1 3 kk_.toNat 6 rfl
      refine sm_T_go 7 (c1 := (41, [some (.inr (.inr (some (12, 0)))), some (.inl kk_), some (.inl ip_), some (.inr (.inr (some (3, kk_.toNat)))), none], [.inl (S0_.1 3 kk_.toNat 1), .inl (S0_.1 3 kk_.toNat 6), .inl ip_, .inr (.inr (some (47, (0 + kk_.toNat))))], S0_)) rfl ?_
      refine sm_T_bin (w := (i_shl (S0_.1 3 kk_.toNat 6) (S0_.1 3 kk_.toNat 1))) rfl rfl ?_
      refine sm_T_bin (w := (i_or ip_ (i_shl (S0_.1 3 kk_.toNat 6) (S0_.1 3 kk_.toNat 1)))) rfl rfl ?_
      refine sm_T_iald (n := 4096) rfl rfl (by omega) (by omega) ?_
      have bx31_ : 0 ≤ S0_.2.2.1 47 (0 + kk_.toNat) (i_or ip_ (i_shl (S0_.1 3 kk_.toNat 6) (S0_.1 3 kk_.toNat 1))).toNat ∧ S0_.2.2.1 47 (0 + kk_.toNat) (i_or ip_ (i_shl (S0_.1 3 kk_.toNat 6) (S0_.1 3 kk_.toNat 1))).toNat ≤ 4194303 := hI_.2 47 (0 + kk_.toNat) _
      refine sm_T_go 4 (c1 := (51, [some (.inr (.inr (some (12, 0)))), some (.inl kk_), some (.inl ip_), some (.inr (.inr (some (3, kk_.toNat)))), some (.inl (S0_.2.2.1 47 (0 + kk_.toNat) (i_or ip_ (i_shl (S0_.1 3 kk_.toNat 6) (S0_.1 3 kk_.toNat 1))).toNat))], [.inl 16, .inl (S0_.2.2.1 47 (0 + kk_.toNat) (i_or ip_ (i_shl (S0_.1 3 kk_.toNat 6) (S0_.1 3 kk_.toNat 1))).toNat), .inr (.inr (some (3, kk_.toNat)))], S0_)) rfl ?_
      refine sm_T_bin (w := ((S0_.2.2.1 47 (0 + kk_.toNat) (i_or ip_ (i_shl (S0_.1 3 kk_.toNat 6) (S0_.1 3 kk_.toNat 1))).toNat) / 65536)) rfl (bi_shr (k := 16) (by decide) (by omega) (by omega)) ?_
      have hIx32_ : gi (sm_pI S0_ 3 kk_.toNat 6 ((S0_.2.2.1 47 (0 + kk_.toNat) (i_or ip_ (i_shl (S0_.1 3 kk_.toNat 6) (S0_.1 3 kk_.toNat 1))).toNat) / 65536)) := gi_pI hI_ (show 0 ≤ ((S0_.2.2.1 47 (0 + kk_.toNat) (i_or ip_ (i_shl (S0_.1 3 kk_.toNat 6) (S0_.1 3 kk_.toNat 1))).toNat) / 65536) ∧ ((S0_.2.2.1 47 (0 + kk_.toNat) (i_or ip_ (i_shl (S0_.1 3 kk_.toNat 6) (S0_.1 3 kk_.toNat 1))).toNat) / 65536) ≤ 63 from ⟨by omega, by omega⟩)
      have hFx33_ : ai_fr (sx_W vw_224) S0_ (sm_pI S0_ 3 kk_.toNat 6 ((S0_.2.2.1 47 (0 + kk_.toNat) (i_or ip_ (i_shl (S0_.1 3 kk_.toNat 6) (S0_.1 3 kk_.toNat 1))).toNat) / 65536)) := ai_fr_tr hF_ (ai_fr_pI rfl)
      refine sm_T_go 2 (c1 := (57, [some (.inr (.inr (some (12, 0)))), some (.inl kk_), some (.inl ip_), some (.inr (.inr (some (3, kk_.toNat)))), some (.inl (S0_.2.2.1 47 (0 + kk_.toNat) (i_or ip_ (i_shl (S0_.1 3 kk_.toNat 6) (S0_.1 3 kk_.toNat 1))).toNat))], [.inl (S0_.2.2.1 47 (0 + kk_.toNat) (i_or ip_ (i_shl (S0_.1 3 kk_.toNat 6) (S0_.1 3 kk_.toNat 1))).toNat)], sm_pI S0_ 3 kk_.toNat 6 ((S0_.2.2.1 47 (0 + kk_.toNat) (i_or ip_ (i_shl (S0_.1 3 kk_.toNat 6) (S0_.1 3 kk_.toNat 1))).toNat) / 65536))) rfl ?_
      refine sm_T_nt (u := some (.inl 65535)) (S1 := sm_pI S0_ 3 kk_.toNat 6 ((S0_.2.2.1 47 (0 + kk_.toNat) (i_or ip_ (i_shl (S0_.1 3 kk_.toNat 6) (S0_.1 3 kk_.toNat 1))).toNat) / 65536)) rfl rfl rfl ?_
      refine sm_T_bin (w := ((S0_.2.2.1 47 (0 + kk_.toNat) (i_or ip_ (i_shl (S0_.1 3 kk_.toNat 6) (S0_.1 3 kk_.toNat 1))).toNat) % 65536)) rfl (bi_msk (k := 16) (by decide)) ?_
      refine sm_T_ri rfl (Or.inl ⟨_, _, rfl, _, rfl, hIx32_, hFx33_, ?_⟩)
      first | exact dAll_st hJ_ nx9_ | (rw [Nat.zero_add]; exact dAll_st hJ_ nx9_) | exact dAll_st hJ_ (by simpa using nx9_)
end
/-! 99.zj4 -/
section
/-! bits; other chips; written by wip/p55/gen/vg -/

/-! bits of_ numbers, roughly -/
theorem i_and_n (x_ y_ : Int) : -2147483648 ≤ i_and x_ y_ ∧ i_and x_ y_ ≤ 2147483647 := sm_ni_toInt _
theorem i_xor_n (x_ y_ : Int) : -2147483648 ≤ i_xor x_ y_ ∧ i_xor x_ y_ ≤ 2147483647 := sm_ni_toInt _
theorem i_shl_n (x_ y_ : Int) : -2147483648 ≤ i_shl x_ y_ ∧ i_shl x_ y_ ≤ 2147483647 := sm_ni_toInt _
theorem i_shr_n (x_ y_ : Int) : -2147483648 ≤ i_shr x_ y_ ∧ i_shr x_ y_ ≤ 2147483647 := sm_ni_toInt _
theorem i_ushr_n (x_ y_ : Int) : -2147483648 ≤ i_ushr x_ y_ ∧ i_ushr x_ y_ ≤ 2147483647 := sm_ni_toInt _
theorem l_l2i_n (x_ : Int) : -2147483648 ≤ l_l2i x_ ∧ l_l2i x_ ≤ 2147483647 := sm_ni_toInt _
theorem i_and_p {x_ y_ : Int} (hx_ : 0 ≤ x_ ∧ x_ ≤ 2147483647) (hy_ : 0 ≤ y_ ∧ y_ ≤ 2147483647) : 0 ≤ i_and x_ y_ ∧ i_and x_ y_ ≤ x_ ∧ i_and x_ y_ ≤ y_ := by
  have e_ : i_and x_ y_ = ((x_.toNat &&& y_.toNat : Nat) : Int) := bt_and_nat hx_.1 (by omega) hy_.1 (by omega)
  have h_ : (x_.toNat &&& y_.toNat) ≤ y_.toNat := Nat.and_le_right
  have g_ : (x_.toNat &&& y_.toNat) ≤ x_.toNat := Nat.and_le_left
  rw [e_]
  omega
theorem sm_T_incw {P_ : sm_P} {d_ mid_ pc_ n0_ a_ b_ e_ : Nat} {z_ v_ : Int} {L_ : sm_L} {st_ : List sm_V} {S_ : sm_S} {Q_ : sm_R → Prop} (hx_ : P_.1 mid_ pc_ = some (8, n0_, a_, b_, e_, z_)) (hL_ : L_.getD a_ none = some (.inl v_)) (k_ : sm_T P_ d_ mid_ (pc_ + n0_, sm_s1 L_ a_ (.inl (i_add v_ z_)), st_, S_) Q_) : sm_T P_ d_ mid_ (pc_, L_, st_, S_) Q_ := by
  refine sm_T_stp hx_ (Nat.le_of_ble_eq_true rfl) ?_ k_
  simp only [sm_stp, hL_]
  rfl
def i_neg (x_ : Int) : Int := (-(Int32.ofInt x_)).toInt
theorem i_neg_r (x_ : Int) : -2147483648 ≤ i_neg x_ ∧ i_neg x_ ≤ 2147483647 := sm_ni_toInt _
theorem sm_T_negw {P_ : sm_P} {d_ mid_ pc_ n0_ b_ e_ : Nat} {z_ x_ : Int} {L_ : sm_L} {r_ : List sm_V} {S_ : sm_S} {Q_ : sm_R → Prop} (hx_ : P_.1 mid_ pc_ = some (13, n0_, 4, b_, e_, z_)) (k_ : sm_T P_ d_ mid_ (pc_ + n0_, L_, .inl (i_neg x_) :: r_, S_) Q_) : sm_T P_ d_ mid_ (pc_, L_, .inl x_ :: r_, S_) Q_ := by
  refine sm_T_stp hx_ (Nat.le_of_ble_eq_true rfl) ?_ k_
  simp only [sm_stp]
  rfl
theorem mul_b {x_ y_ X_ Y_ Z_ : Int} (hx_ : 0 ≤ x_ ∧ x_ ≤ X_) (hy_ : 0 ≤ y_ ∧ y_ ≤ Y_) (hz_ : X_ * Y_ = Z_) : 0 ≤ x_ * y_ ∧ x_ * y_ ≤ Z_ := by
  refine ⟨Int.mul_nonneg hx_.1 hy_.1, ?_⟩
  rw [← hz_]
  exact Int.mul_le_mul hx_.2 hy_.2 hy_.1 (by omega)
theorem i_and_y (x_ : Int) {y_ : Int} (hy_ : 0 ≤ y_ ∧ y_ ≤ 2147483647) : 0 ≤ i_and x_ y_ ∧ i_and x_ y_ ≤ y_ := by
  have e_ : (Int32.ofInt y_).toInt = y_ := Int32.toInt_ofInt_of_le (by omega) (by omega)
  unfold i_and
  generalize Int32.ofInt x_ = a_ at *
  generalize Int32.ofInt y_ = b_ at *
  have e1_ : (a_ &&& b_).toInt = (a_.toBitVec &&& b_.toBitVec).toInt := rfl
  have e2_ : b_.toInt = b_.toBitVec.toInt := rfl
  rw [e1_]
  rw [e2_] at e_
  generalize a_.toBitVec = u_ at *
  generalize b_.toBitVec = w_ at *
  have l_ : (u_ &&& w_).toNat ≤ w_.toNat := by rw [BitVec.toNat_and]; exact Nat.and_le_right
  have n0_ := w_.isLt
  rw [BitVec.toInt_eq_toNat_cond] at e_ ⊢
  split at e_ <;> split <;> omega
theorem i_and_x {x_ : Int} (y_ : Int) (hx_ : 0 ≤ x_ ∧ x_ ≤ 2147483647) : 0 ≤ i_and x_ y_ ∧ i_and x_ y_ ≤ x_ := by
  have e_ : i_and x_ y_ = i_and y_ x_ := by
    unfold i_and
    rw [Int32.and_comm]
  rw [e_]
  exact i_and_y y_ hx_
theorem i_shr_p {x_ e_ : Int} (h0_ : 0 ≤ e_) (h1_ : e_ ≤ 31) (hx_ : 0 ≤ x_ ∧ x_ ≤ 2147483647) : 0 ≤ i_shr x_ e_ ∧ i_shr x_ e_ ≤ x_ := by
  rw [i_shrv h0_ h1_ (by omega)]
  have p_ := pw_pos e_.toNat
  exact ⟨Int.ediv_nonneg hx_.1 (by omega), Int.ediv_le_self _ hx_.1⟩
theorem i_shl_1 {x_ e_ : Int} (hx_ : x_ = 1) (h_ : 0 ≤ e_ ∧ e_ ≤ 12) : 1 ≤ i_shl x_ e_ ∧ i_shl x_ e_ ≤ 4096 := by
  rw [hx_, i_shl1 h_.1 (by omega)]
  have p_ := pw_pos e_.toNat
  have q_ := pw_le (n := e_.toNat) (m := 12) (by omega)
  omega
theorem rd_ne_ {S_ : sm_S} {t'_ i'_ t_ i_ k_ : Nat} {z_ : Int} (h_ : t'_ ≠ t_) : (sm_aI S_ t_ i_ k_ z_).2.2.1 t'_ i'_ = S_.2.2.1 t'_ i'_ := funext fun _ => rd_ne h_
/-! other chips stay as_ they were -/
def ckn (t_ : Nat) : Bool := t_ == 0 || t_ == 2 || t_ == 4 || t_ == 5 || (decide (14 ≤ t_) && decide (t_ < 26)) || (decide (34 ≤ t_) && decide (t_ < 42)) || (decide (48 ≤ t_) && decide (t_ < 59))
def cof (t_ : Nat) : Nat := if t_ = 5 ∨ (55 ≤ t_ ∧ t_ < 59) then 3 else 0
def cdf (ii_ : Nat) (S_ S'_ : sm_S) : Prop := ∀ t_, ckn t_ = true → ∀ i_, i_ ≠ cof t_ + ii_ → (∀ k_, S'_.1 t_ i_ k_ = S_.1 t_ i_ k_) ∧ S'_.2.2.1 t_ i_ = S_.2.2.1 t_ i_
theorem cdf_rf {ii_ : Nat} {S_ : sm_S} : cdf ii_ S_ S_ := fun _ _ _ _ => ⟨fun _ => rfl, rfl⟩
theorem cdf_tr {ii_ : Nat} {S_ S'_ S2_ : sm_S} (h_ : cdf ii_ S_ S'_) (g_ : cdf ii_ S'_ S2_) : cdf ii_ S_ S2_ := fun t_ ht_ i_ hi_ => ⟨fun k_ => ((g_ t_ ht_ i_ hi_).1 k_).trans ((h_ t_ ht_ i_ hi_).1 k_), (g_ t_ ht_ i_ hi_).2.trans (h_ t_ ht_ i_ hi_).2⟩
theorem cdf_cg {ii_ jj_ : Nat} {S_ S'_ : sm_S} (e_ : ii_ = jj_) (h_ : cdf ii_ S_ S'_) : cdf jj_ S_ S'_ := e_ ▸ h_
def cwf (w_ : sx_Wl) : Bool := w_.1.all (fun q_ => !ckn q_.1) && w_.2.1.all (fun t_ => !ckn t_)
theorem cdf_fr {w_ : sx_Wl} {ii_ : Nat} {S_ S'_ : sm_S} (g_ : ai_fr (sx_W w_) S_ S'_) (h_ : cwf w_ = true) : cdf ii_ S_ S'_ := fun t_ ht_ i_ _ => by
  unfold cwf at h_
  rw [Bool.and_eq_true] at h_
  refine ⟨fun k_ => g_.1 t_ i_ k_ ?_, fr_arr g_ ?_⟩
  · unfold sx_W
    rw [List.any_eq_false]
    intro q_ hq_ z_
    have u_ := List.all_eq_true.mp h_.1 q_ hq_
    rw [Bool.and_eq_true] at z_
    have e_ : q_.1 = t_ := of_decide_eq_true z_.1
    rw [e_, ht_] at u_
    exact absurd u_ (by decide)
  · unfold sx_W
    rw [List.any_eq_false]
    intro q_ hq_ z_
    have u_ := List.all_eq_true.mp h_.2 q_ hq_
    have e_ : q_ = t_ := of_decide_eq_true z_
    rw [e_, ht_] at u_
    exact absurd u_ (by decide)
theorem cdf_pI {ii_ t_ i_ k_ : Nat} {S_ S'_ : sm_S} {v_ : Int} (h_ : cdf ii_ S_ S'_) (g_ : ckn t_ = false ∨ i_ = cof t_ + ii_) : cdf ii_ S_ (sm_pI S'_ t_ i_ k_ v_) := fun t1_ ht_ j_ hj_ => ⟨fun k1_ => by
  rw [← (h_ t1_ ht_ j_ hj_).1 k1_]
  exact sm_up_ne (fun z_ => by
    have z1_ := z_.1
    subst z1_
    rcases g_ with g_ | g_
    · rw [ht_] at g_; exact absurd g_ (by decide)
    · exact hj_ (z_.2.1.trans g_)), (h_ t1_ ht_ j_ hj_).2⟩
theorem cdf_aI {ii_ t_ i_ k_ : Nat} {S_ S'_ : sm_S} {v_ : Int} (h_ : cdf ii_ S_ S'_) (g_ : ckn t_ = false ∨ i_ = cof t_ + ii_) : cdf ii_ S_ (sm_aI S'_ t_ i_ k_ v_) := fun t1_ ht_ j_ hj_ => ⟨(h_ t1_ ht_ j_ hj_).1, by
  rw [← (h_ t1_ ht_ j_ hj_).2]
  funext k1_
  exact sm_up_ne (fun z_ => by
    have z1_ := z_.1
    subst z1_
    rcases g_ with g_ | g_
    · rw [ht_] at g_; exact absurd g_ (by decide)
    · exact hj_ (z_.2.1.trans g_))⟩
theorem cdf_aL {ii_ t_ i_ k_ : Nat} {S_ S'_ : sm_S} {v_ : Int} (h_ : cdf ii_ S_ S'_) : cdf ii_ S_ (sm_aL S'_ t_ i_ k_ v_) := h_
theorem cdf_pR {ii_ t_ i_ k_ : Nat} {S_ S'_ : sm_S} {v_ : Option Nat} (h_ : cdf ii_ S_ S'_) : cdf ii_ S_ (sm_pR S'_ t_ i_ k_ v_) := h_
theorem cdf_ac {ii_ t_ i_ t1_ i1_ a_ c_ k_ : Nat} {S_ S'_ : sm_S} (h_ : cdf ii_ S_ S'_) (g_ : ckn t1_ = false ∨ i1_ = cof t1_ + ii_) : cdf ii_ S_ (sm_acI S'_ t_ i_ t1_ i1_ a_ c_ k_) := fun t2_ ht_ j_ hj_ => ⟨(h_ t2_ ht_ j_ hj_).1, by
  rw [← (h_ t2_ ht_ j_ hj_).2]
  exact sm_acI_ne (fun z_ => by
    have z1_ := z_.1
    subst z1_
    rcases g_ with g_ | g_
    · rw [ht_] at g_; exact absurd g_ (by decide)
    · exact hj_ (z_.2.trans g_))⟩
end
/-! 99.zj5a -/
section
/-! machines compared; written by wip/p55/gen/vg -/

/-! machines compared -/
/-- pairs of_ states met_: each has_ one_ before it_, or is_ the_ first -/
def prf (S_ : sm_S) : Prop := ∀ j_ : Nat, j_ < 4096 → S_.2.2.1 113 0 j_ ≠ -2 → S_.2.2.1 113 0 j_ = -1 ∨ (0 ≤ S_.2.2.1 113 0 j_ ∧ S_.2.2.1 113 0 (S_.2.2.1 113 0 j_).toNat ≠ -2)
def pit (S_ : sm_S) (p_ : Int) : Nat → Int
  | 0 => p_
  | n_ + 1 => S_.2.2.1 113 0 (pit S_ p_ n_).toNat
def pn2 (f_ : Nat → Int) (k_ : Nat) : Int := if f_ k_ = -2 then 0 else 1
theorem pn2_1 {f_ : Nat → Int} {k_ : Nat} : pn2 f_ k_ = 1 ↔ f_ k_ ≠ -2 := by
  unfold pn2
  split
  · rename_i h_
    exact ⟨fun z_ => absurd z_ (by decide), fun z_ => absurd h_ z_⟩
  · rename_i h_
    exact ⟨fun _ => h_, fun _ => rfl⟩
theorem or64 {a_ b_ : Int} (ha_ : 0 ≤ a_ ∧ a_ < 64) (hb_ : 0 ≤ b_ ∧ b_ < 64) : i_or (64 * a_) b_ = 64 * a_ + b_ := by
  have e_ : i_or (64 * a_) b_ = (((64 * a_).toNat ||| b_.toNat : Nat) : Int) := bt_or_nat (by omega) (by omega) hb_.1 (by omega)
  rw [e_]
  have q_ : a_.toNat <<< 6 + b_.toNat = a_.toNat <<< 6 ||| b_.toNat := Nat.shiftLeft_add_eq_or_of_lt (by omega) _
  have z_ : (64 * a_).toNat = a_.toNat <<< 6 := by rw [Nat.shiftLeft_eq]; omega
  rw [z_, ← q_, Nat.shiftLeft_eq]
  omega
/-! java/util/Arrays.fill -/
def vw_2p : sx_Wl := ([], [113], [])
def vq_2p (v0_ : Int) (S0_ : sm_S) (u_ : Option sm_V) (S1_ : sm_S) : Prop := u_ = none ∧ gi S1_ ∧ ai_fr (sx_W vw_2p) S0_ S1_ ∧ (∀ j_, j_ < 4096 → S1_.2.2.1 113 0 j_ = v0_)
set_option maxHeartbeats 400000 in
theorem vl_2p {sc_ : Nat × (Nat → Int)} (v0_ : Int) (S0_ : sm_S) (hv_ : (-2) ≤ v0_ ∧ v0_ ≤ 4095) : ∀ nn_ : Nat, (∀ (k_ : Int) (S_ : sm_S), gi S_ → ai_fr (sx_W vw_2p) S0_ S_ → ((0 ≤ k_ ∧ k_ ≤ 4096) ∧ (∀ j_, j_ < k_.toNat → S_.2.2.1 113 0 j_ = v0_) ∧ True) → ((4096 - k_).toNat) < nn_ → sm_T (mt_P sc_) 0 2 (5, [some (.inr (.inr (some (113, 0)))), some (.inl v0_), some (.inl k_), some (.inl 4096)], [], S_) (fun ro9_ => ∃ u_ S1_, ro9_ = (.inl u_, S1_, 0) ∧ vq_2p v0_ S0_ u_ S1_)) := by
  intro nn_
  induction nn_ with
  | zero => exact fun _ _ _ _ _ h_ => absurd h_ (Nat.not_lt_zero _)
  | succ nn_ ih_ =>
    rintro k_ S_ hI_ hF_ ⟨h0_, h1_, -⟩ hm_
    refine sm_T_go 2 (c1 := (7, [some (.inr (.inr (some (113, 0)))), some (.inl v0_), some (.inl k_), some (.inl 4096)], [.inl 4096, .inl k_], S_)) rfl ?_
    refine sm_T_br (a := 3) (z := 13) rfl (fun cx1_ => ?_) (fun cx1_ => ?_)
    · have cx1_ : 4096 ≤ k_ := of_decide_eq_true cx1_
      refine sm_T_rv rfl ⟨_, _, rfl, rfl, hI_, hF_, ?_⟩
      exact fun j_ hj_ => h1_ j_ (by omega)
    · have cx1_ : ¬ (4096 ≤ k_) := of_decide_eq_false cx1_
      refine sm_T_go 3 (c1 := (13, [some (.inr (.inr (some (113, 0)))), some (.inl v0_), some (.inl k_), some (.inl 4096)], [.inl v0_, .inl k_, .inr (.inr (some (113, 0)))], S_)) rfl ?_
      refine sm_T_iast (n := 4096) rfl rfl (by omega) (by omega) ?_
      have hIx2_ : gi (sm_aI S_ 113 0 k_.toNat v0_) := gi_aI hI_ (show (-2) ≤ v0_ ∧ v0_ ≤ 4095 from ⟨by omega, by omega⟩)
      have hFx3_ : ai_fr (sx_W vw_2p) S0_ (sm_aI S_ 113 0 k_.toNat v0_) := ai_fr_tr hF_ (ai_fr_aI rfl)
      refine sm_T_inc (a := 2) (z := 1) (v := k_) (w := k_ + 1) rfl rfl (by omega) (by omega) (by omega) ?_ -- pc_ 14
      refine sm_T_go 1 (c1 := (5, [some (.inr (.inr (some (113, 0)))), some (.inl v0_), some (.inl (k_ + 1)), some (.inl 4096)], [], sm_aI S_ 113 0 k_.toNat v0_)) rfl ?_
      refine ih_ (k_ + 1) (sm_aI S_ 113 0 k_.toNat v0_) hIx2_ hFx3_ ⟨?_, ?_, trivial⟩ ?_
      · omega
      · intro j_ hj_
        rw [rd_eq]
        by_cases z_ : j_ = k_.toNat
        · rw [if_pos z_]
        · rw [if_neg z_]; exact h1_ j_ (by omega)
      · omega
set_option maxHeartbeats 400000 in
theorem vc_2p {sc_ : Nat × (Nat → Int)} (v0_ : Int) (S0_ : sm_S) (hI_ : gi S0_) (hv_ : (-2) ≤ v0_ ∧ v0_ ≤ 4095) : sm_T (mt_P sc_) 0 2 (0, [some (.inr (.inr (some (113, 0)))), some (.inl v0_), none, none], [], S0_) (fun ro9_ => ∃ u_ S1_, ro9_ = (.inl u_, S1_, 0) ∧ vq_2p v0_ S0_ u_ S1_) := by
  have hF_ : ai_fr (sx_W vw_2p) S0_ S0_ := ai_fr_rf
  refine sm_T_go 5 (c1 := (5, [some (.inr (.inr (some (113, 0)))), some (.inl v0_), some (.inl 0), some (.inl 4096)], [], S0_)) rfl ?_
  refine (vl_2p v0_ S0_ hv_ _) 0 S0_ hI_ hF_ ⟨?_, ?_, trivial⟩ (Nat.lt_succ_self _)
  · omega
  · (intro j_ hj_; exact absurd hj_ (Nat.not_lt_zero _))
end
/-! 99.zj5b -/
section
/-! ChipFlow.keepWitness -/
def vw_277 : sx_Wl := ([(12, 16)], [117], [])
def vq_277 (lp_ : Int) (li_ : Int) (S0_ : sm_S) (u_ : Option sm_V) (S1_ : sm_S) : Prop := u_ = none ∧ gi S1_ ∧ ai_fr (sx_W vw_277) S0_ S1_ ∧ (0 ≤ (S1_.1 12 0 16))
set_option maxHeartbeats 400000 in
theorem vl_277 {sc_ : Nat × (Nat → Int)} (lp_ : Int) (li_ : Int) (S0_ : sm_S) (hp_ : prf S0_) (h1_ : 0 ≤ lp_ ∧ lp_ ≤ 4095) (h2_ : 0 ≤ li_ ∧ li_ ≤ 4095) (h3_ : S0_.2.2.1 113 0 lp_.toNat ≠ -2) : ∀ nn_ : Nat, (∀ (ck_ : Int) (pr_ : Int) (S_ : sm_S), gi S_ → ai_fr (sx_W vw_277) S0_ S_ → ((1 ≤ ck_ ∧ ck_ ≤ 4096 ∧ 0 ≤ pr_ ∧ pr_ ≤ 4095) ∧ (S0_.2.2.1 113 0 pr_.toNat ≠ -2) ∧ (pr_ = pit S0_ lp_ (ck_ - 1).toNat) ∧ (∀ i9_ : Nat, (i9_ : Int) < ck_ → 0 ≤ pit S0_ lp_ i9_ ∧ pit S0_ lp_ i9_ ≤ 4095) ∧ True) → ((9000 - ck_).toNat) < nn_ → sm_T (mt_P sc_) 0 277 (5, [some (.inr (.inr (some (12, 0)))), some (.inl lp_), some (.inl li_), some (.inl ck_), some (.inl pr_), none], [], S_) (fun ro9_ => ∃ u_ S1_, ro9_ = (.inl u_, S1_, 0) ∧ vq_277 lp_ li_ S0_ u_ S1_)) ∧ (∀ (ck_ : Int) (pr_ : Int) (kx_ : Int) (S_ : sm_S), gi S_ → ai_fr (sx_W vw_277) S0_ S_ → ((1 ≤ ck_ ∧ ck_ ≤ 4096 ∧ -1 ≤ kx_ ∧ kx_ ≤ ck_ - 2 ∧ 0 ≤ (S_.1 12 0 16)) ∧ (pr_ = pit S0_ lp_ (ck_ - 2 - kx_).toNat) ∧ (∀ i9_ : Nat, (i9_ : Int) < ck_ → 0 ≤ pit S0_ lp_ i9_ ∧ pit S0_ lp_ i9_ ≤ 4095) ∧ True) → ((kx_ + 2).toNat) < nn_ → sm_T (mt_P sc_) 0 277 (60, [some (.inr (.inr (some (12, 0)))), some (.inl lp_), some (.inl li_), some (.inl ck_), some (.inl pr_), some (.inl kx_)], [], S_) (fun ro9_ => ∃ u_ S1_, ro9_ = (.inl u_, S1_, 0) ∧ vq_277 lp_ li_ S0_ u_ S1_)) := by
  intro nn_
  induction nn_ with
  | zero => exact ⟨fun _ _ _ _ _ _ h_ => absurd h_ (Nat.not_lt_zero _), fun _ _ _ _ _ _ _ h_ => absurd h_ (Nat.not_lt_zero _)⟩
  | succ nn_ ih_ =>
    refine ⟨?_, ?_⟩
    · rintro ck_ pr_ S_ hI_ hF_ ⟨h0_, ha_, hb_, hc_, -⟩ hm_
      have f113_ : S_.2.2.1 113 0 = S0_.2.2.1 113 0 := fr_arr hF_ rfl
      refine sm_T_go 3 (c1 := (11, [some (.inr (.inr (some (12, 0)))), some (.inl lp_), some (.inl li_), some (.inl ck_), some (.inl pr_), none], [.inl pr_, .inr (.inr (some (113, 0)))], S_)) rfl ?_
      refine sm_T_iald (n := 4096) rfl rfl (by omega) (by omega) ?_
      have bx1_ : (-2) ≤ S_.2.2.1 113 0 pr_.toNat ∧ S_.2.2.1 113 0 pr_.toNat ≤ 4095 := hI_.2 113 0 _
      refine sm_T_go 1 (c1 := (13, [some (.inr (.inr (some (12, 0)))), some (.inl lp_), some (.inl li_), some (.inl ck_), some (.inl pr_), none], [.inl (-1), .inl (S_.2.2.1 113 0 pr_.toNat)], S_)) rfl ?_
      refine sm_T_br (a := 0) (z := 25) rfl (fun cx2_ => ?_) (fun cx2_ => ?_)
      · have cx2_ : (S_.2.2.1 113 0 pr_.toNat) = (-1) := of_decide_eq_true cx2_
        have hIx3_ : gi (sm_pI S_ 12 0 16 ck_) := gi_pI hI_ (show 0 ≤ ck_ ∧ ck_ ≤ 4096 from ⟨by omega, by omega⟩)
        have hFx4_ : ai_fr (sx_W vw_277) S0_ (sm_pI S_ 12 0 16 ck_) := ai_fr_tr hF_ (ai_fr_pI rfl)
        refine sm_T_go 7 (c1 := (49, [some (.inr (.inr (some (12, 0)))), some (.inl lp_), some (.inl li_), some (.inl ck_), some (.inl pr_), none], [.inl 1, .inl ck_, .inr (.inr (some (117, 0)))], sm_pI S_ 12 0 16 ck_)) rfl ?_
        refine sm_T_bin (w := ck_ - 1) rfl (bi_sub (by omega) (by omega) (by omega)) ?_ -- pc_ 49
        refine sm_T_go 1 (c1 := (51, [some (.inr (.inr (some (12, 0)))), some (.inl lp_), some (.inl li_), some (.inl ck_), some (.inl pr_), none], [.inl li_, .inl (ck_ - 1), .inr (.inr (some (117, 0)))], sm_pI S_ 12 0 16 ck_)) rfl ?_
        refine sm_T_iast (n := 4096) rfl rfl (by omega) (by omega) ?_
        have hIx5_ : gi (sm_aI (sm_pI S_ 12 0 16 ck_) 117 0 (ck_ - 1).toNat li_) := gi_aI hIx3_ (show 0 ≤ li_ ∧ li_ ≤ 4095 from ⟨by omega, by omega⟩)
        have hFx6_ : ai_fr (sx_W vw_277) S0_ (sm_aI (sm_pI S_ 12 0 16 ck_) 117 0 (ck_ - 1).toNat li_) := ai_fr_tr hFx4_ (ai_fr_aI rfl)
        refine sm_T_go 4 (c1 := (57, [some (.inr (.inr (some (12, 0)))), some (.inl lp_), some (.inl li_), some (.inl ck_), some (.inl lp_), none], [.inl 2, .inl ck_], sm_aI (sm_pI S_ 12 0 16 ck_) 117 0 (ck_ - 1).toNat li_)) rfl ?_
        refine sm_T_bin (w := ck_ - 2) rfl (bi_sub (by omega) (by omega) (by omega)) ?_ -- pc_ 57
        refine sm_T_go 1 (c1 := (60, [some (.inr (.inr (some (12, 0)))), some (.inl lp_), some (.inl li_), some (.inl ck_), some (.inl lp_), some (.inl (ck_ - 2))], [], sm_aI (sm_pI S_ 12 0 16 ck_) 117 0 (ck_ - 1).toNat li_)) rfl ?_
        refine ih_.2 ck_ lp_ (ck_ - 2) (sm_aI (sm_pI S_ 12 0 16 ck_) 117 0 (ck_ - 1).toNat li_) hIx5_ hFx6_ ⟨?_, ?_, ?_, trivial⟩ ?_
        · (simp only [rf_eq, rd_fa, rd_af]; omega)
        · (rw [show (ck_ - 2 - (ck_ - 2)).toNat = 0 by omega]; rfl)
        · exact hc_
        · omega
      · have cx2_ : ¬ ((S_.2.2.1 113 0 pr_.toNat) = (-1)) := of_decide_eq_false cx2_
        have pq9_ := hp_ pr_.toNat (by omega) ha_
        rw [f113_] at cx2_
        have pz9_ : 0 ≤ S0_.2.2.1 113 0 pr_.toNat ∧ S0_.2.2.1 113 0 pr_.toNat ≤ 4095 := ⟨by rcases pq9_ with z_ | z_; exact absurd z_ cx2_; exact z_.1, by have w_ := (hI_.2 113 0 pr_.toNat).2; rw [f113_] at w_; exact w_⟩
        refine sm_T_go 2 (c1 := (20, [some (.inr (.inr (some (12, 0)))), some (.inl lp_), some (.inl li_), some (.inl ck_), some (.inl pr_), none], [.inl 4096, .inl ck_], S_)) rfl ?_
        refine sm_T_br (a := 3) (z := 18) rfl (fun cx7_ => ?_) (fun cx7_ => ?_)
        · have cx7_ : 4096 ≤ ck_ := of_decide_eq_true cx7_
          have hIx8_ : gi (sm_pI S_ 12 0 16 ck_) := gi_pI hI_ (show 0 ≤ ck_ ∧ ck_ ≤ 4096 from ⟨by omega, by omega⟩)
          have hFx9_ : ai_fr (sx_W vw_277) S0_ (sm_pI S_ 12 0 16 ck_) := ai_fr_tr hF_ (ai_fr_pI rfl)
          refine sm_T_go 7 (c1 := (49, [some (.inr (.inr (some (12, 0)))), some (.inl lp_), some (.inl li_), some (.inl ck_), some (.inl pr_), none], [.inl 1, .inl ck_, .inr (.inr (some (117, 0)))], sm_pI S_ 12 0 16 ck_)) rfl ?_
          refine sm_T_bin (w := ck_ - 1) rfl (bi_sub (by omega) (by omega) (by omega)) ?_ -- pc_ 49
          refine sm_T_go 1 (c1 := (51, [some (.inr (.inr (some (12, 0)))), some (.inl lp_), some (.inl li_), some (.inl ck_), some (.inl pr_), none], [.inl li_, .inl (ck_ - 1), .inr (.inr (some (117, 0)))], sm_pI S_ 12 0 16 ck_)) rfl ?_
          refine sm_T_iast (n := 4096) rfl rfl (by omega) (by omega) ?_
          have hIx10_ : gi (sm_aI (sm_pI S_ 12 0 16 ck_) 117 0 (ck_ - 1).toNat li_) := gi_aI hIx8_ (show 0 ≤ li_ ∧ li_ ≤ 4095 from ⟨by omega, by omega⟩)
          have hFx11_ : ai_fr (sx_W vw_277) S0_ (sm_aI (sm_pI S_ 12 0 16 ck_) 117 0 (ck_ - 1).toNat li_) := ai_fr_tr hFx9_ (ai_fr_aI rfl)
          refine sm_T_go 4 (c1 := (57, [some (.inr (.inr (some (12, 0)))), some (.inl lp_), some (.inl li_), some (.inl ck_), some (.inl lp_), none], [.inl 2, .inl ck_], sm_aI (sm_pI S_ 12 0 16 ck_) 117 0 (ck_ - 1).toNat li_)) rfl ?_
          refine sm_T_bin (w := ck_ - 2) rfl (bi_sub (by omega) (by omega) (by omega)) ?_ -- pc_ 57
          refine sm_T_go 1 (c1 := (60, [some (.inr (.inr (some (12, 0)))), some (.inl lp_), some (.inl li_), some (.inl ck_), some (.inl lp_), some (.inl (ck_ - 2))], [], sm_aI (sm_pI S_ 12 0 16 ck_) 117 0 (ck_ - 1).toNat li_)) rfl ?_
          refine ih_.2 ck_ lp_ (ck_ - 2) (sm_aI (sm_pI S_ 12 0 16 ck_) 117 0 (ck_ - 1).toNat li_) hIx10_ hFx11_ ⟨?_, ?_, ?_, trivial⟩ ?_
          · (simp only [rf_eq, rd_fa, rd_af]; omega)
          · (rw [show (ck_ - 2 - (ck_ - 2)).toNat = 0 by omega]; rfl)
          · exact hc_
          · omega
        · have cx7_ : ¬ (4096 ≤ ck_) := of_decide_eq_false cx7_
          refine sm_T_inc (a := 3) (z := 1) (v := ck_) (w := ck_ + 1) rfl rfl (by omega) (by omega) (by omega) ?_ -- pc_ 23
          refine sm_T_go 3 (c1 := (32, [some (.inr (.inr (some (12, 0)))), some (.inl lp_), some (.inl li_), some (.inl (ck_ + 1)), some (.inl pr_), none], [.inl pr_, .inr (.inr (some (113, 0)))], S_)) rfl ?_
          refine sm_T_iald (n := 4096) rfl rfl (by omega) (by omega) ?_
          refine sm_T_go 2 (c1 := (5, [some (.inr (.inr (some (12, 0)))), some (.inl lp_), some (.inl li_), some (.inl (ck_ + 1)), some (.inl (S_.2.2.1 113 0 pr_.toNat)), none], [], S_)) rfl ?_
          refine ih_.1 (ck_ + 1) (S_.2.2.1 113 0 pr_.toNat) S_ hI_ hF_ ⟨?_, ?_, ?_, ?_, trivial⟩ ?_
          · (rw [f113_]; omega)
          · (rw [f113_]; rcases pq9_ with z_ | z_; (exfalso; omega); exact z_.2)
          · (rw [f113_, show (ck_ + 1 - 1).toNat = (ck_ - 1).toNat + 1 by omega]; show _ = S0_.2.2.1 113 0 (pit S0_ lp_ (ck_ - 1).toNat).toNat; rw [← hb_])
          · intro i9_ hi9_
            by_cases z_ : (i9_ : Int) < ck_
            · exact hc_ i9_ z_
            · rw [show i9_ = (ck_ - 1).toNat + 1 by omega]
              show 0 ≤ S0_.2.2.1 113 0 (pit S0_ lp_ (ck_ - 1).toNat).toNat ∧ S0_.2.2.1 113 0 (pit S0_ lp_ (ck_ - 1).toNat).toNat ≤ 4095
              rw [← hb_]
              exact pz9_
          · omega
    · rintro ck_ pr_ kx_ S_ hI_ hF_ ⟨h0_, hb_, hc_, -⟩ hm_
      have f113_ : S_.2.2.1 113 0 = S0_.2.2.1 113 0 := fr_arr hF_ rfl
      have hq9_ := hc_ (ck_ - 2 - kx_).toNat (by omega)
      rw [← hb_] at hq9_
      refine sm_T_go 1 (c1 := (62, [some (.inr (.inr (some (12, 0)))), some (.inl lp_), some (.inl li_), some (.inl ck_), some (.inl pr_), some (.inl kx_)], [.inl kx_], S_)) rfl ?_
      refine sm_T_b0 (a := 2) (z := 32) rfl (fun cx1_ => ?_) (fun cx1_ => ?_)
      · have cx1_ : kx_ < 0 := of_decide_eq_true cx1_
        refine sm_T_rv rfl ⟨_, _, rfl, rfl, hI_, hF_, ?_⟩
        omega
      · have cx1_ : ¬ (kx_ < 0) := of_decide_eq_false cx1_
        have f2_ : S_.2.2.1 113 0 pr_.toNat = S0_.2.2.1 113 0 pr_.toNat := by rw [f113_]
        refine sm_T_go 6 (c1 := (77, [some (.inr (.inr (some (12, 0)))), some (.inl lp_), some (.inl li_), some (.inl ck_), some (.inl pr_), some (.inl kx_)], [.inl pr_, .inr (.inr (some (114, 0))), .inl kx_, .inr (.inr (some (117, 0)))], S_)) rfl ?_
        refine sm_T_iald (n := 4096) rfl rfl (by omega) (by omega) ?_
        have bx2_ : 0 ≤ S_.2.2.1 114 0 pr_.toNat ∧ S_.2.2.1 114 0 pr_.toNat ≤ 4095 := hI_.2 114 0 _
        refine sm_T_iast (n := 4096) rfl rfl (by omega) (by omega) ?_
        have hIx3_ : gi (sm_aI S_ 117 0 kx_.toNat (S_.2.2.1 114 0 pr_.toNat)) := gi_aI hI_ (show 0 ≤ (S_.2.2.1 114 0 pr_.toNat) ∧ (S_.2.2.1 114 0 pr_.toNat) ≤ 4095 from ⟨by omega, by omega⟩)
        have hFx4_ : ai_fr (sx_W vw_277) S0_ (sm_aI S_ 117 0 kx_.toNat (S_.2.2.1 114 0 pr_.toNat)) := ai_fr_tr hF_ (ai_fr_aI rfl)
        refine sm_T_go 3 (c1 := (85, [some (.inr (.inr (some (12, 0)))), some (.inl lp_), some (.inl li_), some (.inl ck_), some (.inl pr_), some (.inl kx_)], [.inl pr_, .inr (.inr (some (113, 0)))], sm_aI S_ 117 0 kx_.toNat (S_.2.2.1 114 0 pr_.toNat))) rfl ?_
        refine sm_T_iald (n := 4096) rfl rfl (by omega) (by omega) ?_
        have bx5_ : (-2) ≤ S_.2.2.1 113 0 pr_.toNat ∧ S_.2.2.1 113 0 pr_.toNat ≤ 4095 := hI_.2 113 0 _
        refine sm_T_go 1 (c1 := (88, [some (.inr (.inr (some (12, 0)))), some (.inl lp_), some (.inl li_), some (.inl ck_), some (.inl (S_.2.2.1 113 0 pr_.toNat)), some (.inl kx_)], [], sm_aI S_ 117 0 kx_.toNat (S_.2.2.1 114 0 pr_.toNat))) rfl ?_
        refine sm_T_inc (a := 5) (z := (-1)) (v := kx_) (w := kx_ - 1) rfl rfl (by omega) (by omega) (by omega) ?_ -- pc_ 88
        refine sm_T_go 1 (c1 := (60, [some (.inr (.inr (some (12, 0)))), some (.inl lp_), some (.inl li_), some (.inl ck_), some (.inl (S_.2.2.1 113 0 pr_.toNat)), some (.inl (kx_ - 1))], [], sm_aI S_ 117 0 kx_.toNat (S_.2.2.1 114 0 pr_.toNat))) rfl ?_
        refine ih_.2 ck_ (S_.2.2.1 113 0 pr_.toNat) (kx_ - 1) (sm_aI S_ 117 0 kx_.toNat (S_.2.2.1 114 0 pr_.toNat)) hIx3_ hFx4_ ⟨?_, ?_, ?_, trivial⟩ ?_
        · (simp only [rf_eq, rd_fa, rd_af]; omega)
        · (rw [f113_, show (ck_ - 2 - (kx_ - 1)).toNat = (ck_ - 2 - kx_).toNat + 1 by omega]; show _ = S0_.2.2.1 113 0 (pit S0_ lp_ (ck_ - 2 - kx_).toNat).toNat; rw [← hb_])
        · exact hc_
        · omega
set_option maxHeartbeats 400000 in
theorem vc_277 {sc_ : Nat × (Nat → Int)} (lp_ : Int) (li_ : Int) (S0_ : sm_S) (hI_ : gi S0_) (hp_ : prf S0_) (h1_ : 0 ≤ lp_ ∧ lp_ ≤ 4095) (h2_ : 0 ≤ li_ ∧ li_ ≤ 4095) (h3_ : S0_.2.2.1 113 0 lp_.toNat ≠ -2) : sm_T (mt_P sc_) 0 277 (0, [some (.inr (.inr (some (12, 0)))), some (.inl lp_), some (.inl li_), none, none, none], [], S0_) (fun ro9_ => ∃ u_ S1_, ro9_ = (.inl u_, S1_, 0) ∧ vq_277 lp_ li_ S0_ u_ S1_) := by
  have hF_ : ai_fr (sx_W vw_277) S0_ S0_ := ai_fr_rf
  refine sm_T_go 4 (c1 := (5, [some (.inr (.inr (some (12, 0)))), some (.inl lp_), some (.inl li_), some (.inl 1), some (.inl lp_), none], [], S0_)) rfl ?_
  refine (vl_277 lp_ li_ S0_ hp_ h1_ h2_ h3_ _).1 1 lp_ S0_ hI_ hF_ ⟨?_, ?_, ?_, ?_, trivial⟩ (Nat.lt_succ_self _)
  · omega
  · exact h3_
  · rfl
  · intro i9_ hi9_
    have z_ : i9_ = 0 := by omega
    rw [z_]; exact h1_
end
/-! 99.zj5c -/
section
/-! ChipFlow.compare -/
def vw_276d : sx_Wl := ([(12, 16)], [113, 114, 115, 117], [])
def vq_276d (bg_ : Int) (mk_ : Int) (d1_ : Nat) (dd_ : Nat) (R1_ : Nat) (S0_ : sm_S) (u_ : Option sm_V) (S1_ : sm_S) : Prop := ∃ v_ : Int, u_ = some (.inl v_) ∧ gi S1_ ∧ ai_fr (sx_W vw_276d) S0_ S1_ ∧ (True)
set_option maxHeartbeats 2000000 in
set_option maxRecDepth 20000 in
theorem vl_276d {sc_ : Nat × (Nat → Int)} (bg_ : Int) (mk_ : Int) (d1_ : Nat) (dd_ : Nat) (R1_ : Nat) (S0_ : sm_S) (hd_ : dOk dd_ S0_) (hb_ : 0 ≤ bg_ ∧ bg_ < 2 ^ R1_) (hr_ : R1_ ≤ 6 ∧ (R1_ : Int) + S0_.1 3 dd_ 1 ≤ 12) (ht_ : ∀ p9_ : Nat, p9_ < 4096 → 0 ≤ S0_.2.2.1 47 (0 + d1_) p9_ ∧ S0_.2.2.1 47 (0 + d1_) p9_ < 2 ^ (16 + R1_)) : ∀ nn_ : Nat, (∀ (ip9_ : Int) (tl_ : Int) (hd9_ : Int) (S_ : sm_S), gi S_ → ai_fr (sx_W vw_276d) S0_ S_ → ((prf S_) ∧ (∀ j9_ : Nat, (j9_ : Int) < tl_ → S_.2.2.1 113 0 (S_.2.2.1 115 0 j9_).toNat ≠ -2 ∧ S_.2.2.1 115 0 j9_ / 64 < 2 ^ R1_ ∧ S_.2.2.1 115 0 j9_ % 64 < 2 ^ (S0_.1 3 dd_ 2).toNat) ∧ (tl_ = (cn1 (pn2 (S_.2.2.1 113 0)) 4096 : Int)) ∧ (1 ≤ tl_ ∧ 0 ≤ hd9_ ∧ hd9_ ≤ 4096 ∧ ip9_ = S0_.1 3 dd_ 1) ∧ True) → ((10000 * (5000 - hd9_) + 5000).toNat) < nn_ → sm_T (mt_P sc_) 1 276 (53, [some (.inr (.inr (some (12, 0)))), some (.inr (.inr (some (47, (0 + d1_))))), some (.inl bg_), some (.inr (.inr (some (3, dd_)))), some (.inl mk_), some (.inl ip9_), none, some (.inl tl_), some (.inl hd9_), none, none, none, none, none, none, none], [], S_) (fun ro9_ => ∃ u_ S1_, ro9_ = (.inl u_, S1_, 0) ∧ vq_276d bg_ mk_ d1_ dd_ R1_ S0_ u_ S1_)) ∧ (∀ (ip9_ : Int) (tl_ : Int) (hd9_ : Int) (pr_ : Int) (he_ : Int) (te_ : Int) (ip_ : Int) (S_ : sm_S), gi S_ → ai_fr (sx_W vw_276d) S0_ S_ → ((prf S_) ∧ (∀ j9_ : Nat, (j9_ : Int) < tl_ → S_.2.2.1 113 0 (S_.2.2.1 115 0 j9_).toNat ≠ -2 ∧ S_.2.2.1 115 0 j9_ / 64 < 2 ^ R1_ ∧ S_.2.2.1 115 0 j9_ % 64 < 2 ^ (S0_.1 3 dd_ 2).toNat) ∧ (tl_ = (cn1 (pn2 (S_.2.2.1 113 0)) 4096 : Int)) ∧ (1 ≤ tl_ ∧ 0 ≤ hd9_ ∧ hd9_ < 4096 ∧ ip9_ = S0_.1 3 dd_ 1 ∧ 0 ≤ ip_ ∧ ip_ ≤ 4096 ∧ 0 ≤ pr_ ∧ pr_ ≤ 4095) ∧ (he_ = i_shl (pr_ / 64) ip9_ ∧ te_ = i_shl (pr_ % 64) ip9_) ∧ (S_.2.2.1 113 0 pr_.toNat ≠ -2 ∧ pr_ / 64 < 2 ^ R1_ ∧ pr_ % 64 < 2 ^ (S0_.1 3 dd_ 2).toNat) ∧ True) → ((10000 * (5000 - hd9_) + 4500 - ip_).toNat) < nn_ → sm_T (mt_P sc_) 1 276 (100, [some (.inr (.inr (some (12, 0)))), some (.inr (.inr (some (47, (0 + d1_))))), some (.inl bg_), some (.inr (.inr (some (3, dd_)))), some (.inl mk_), some (.inl ip9_), none, some (.inl tl_), some (.inl hd9_), some (.inl pr_), some (.inl he_), some (.inl te_), some (.inl ip_), none, none, none], [], S_) (fun ro9_ => ∃ u_ S1_, ro9_ = (.inl u_, S1_, 0) ∧ vq_276d bg_ mk_ d1_ dd_ R1_ S0_ u_ S1_)) := by
  intro nn_
  induction nn_ with
  | zero => exact ⟨fun _ _ _ _ _ _ _ h_ => absurd h_ (Nat.not_lt_zero _), fun _ _ _ _ _ _ _ _ _ _ _ h_ => absurd h_ (Nat.not_lt_zero _)⟩
  | succ nn_ ih_ =>
    refine ⟨?_, ?_⟩
    · rintro ip9_ tl_ hd9_ S_ hI_ hF_ ⟨hp_, hq_, hc_, h0_, -⟩ hm_
      have J9_ := dOk_b hd_
      have J9a := J9_.1
      have J9b := J9_.2.1
      have J9c := J9_.2.2.1
      have J9t := J9_.2.2.2.2
      have wa_ := pw_le (n := R1_) (m := 6) (by omega)
      have wb_ := pw_le (n := (S0_.1 3 dd_ 2).toNat) (m := 6) (by omega)
      have wc_ := pw_pos R1_
      have wd_ := pw_pos (S0_.1 3 dd_ 2).toNat
      have fT_ : S_.2.2.1 47 (0 + d1_) = S0_.2.2.1 47 (0 + d1_) := fr_arr hF_ rfl
      have f47_ : S_.2.2.1 47 (0 + dd_) = S0_.2.2.1 47 (0 + dd_) := fr_arr hF_ rfl
      have cl9_ := cn1_le (pn2 (S_.2.2.1 113 0)) 4096
      refine sm_T_go 2 (c1 := (57, [some (.inr (.inr (some (12, 0)))), some (.inr (.inr (some (47, (0 + d1_))))), some (.inl bg_), some (.inr (.inr (some (3, dd_)))), some (.inl mk_), some (.inl ip9_), none, some (.inl tl_), some (.inl hd9_), none, none, none, none, none, none, none], [.inl tl_, .inl hd9_], S_)) rfl ?_
      refine sm_T_br (a := 3) (z := 167) rfl (fun cx1_ => ?_) (fun cx1_ => ?_)
      · have cx1_ : tl_ ≤ hd9_ := of_decide_eq_true cx1_
        refine sm_T_go 1 (c1 := (225, [some (.inr (.inr (some (12, 0)))), some (.inr (.inr (some (47, (0 + d1_))))), some (.inl bg_), some (.inr (.inr (some (3, dd_)))), some (.inl mk_), some (.inl ip9_), none, some (.inl tl_), some (.inl hd9_), none, none, none, none, none, none, none], [.inl 0], S_)) rfl ?_
        refine sm_T_ri rfl ⟨_, _, rfl, _, rfl, hI_, hF_, ?_⟩
        trivial
      · have cx1_ : ¬ (tl_ ≤ hd9_) := of_decide_eq_false cx1_
        refine sm_T_go 2 (c1 := (65, [some (.inr (.inr (some (12, 0)))), some (.inr (.inr (some (47, (0 + d1_))))), some (.inl bg_), some (.inr (.inr (some (3, dd_)))), some (.inl mk_), some (.inl ip9_), none, some (.inl tl_), some (.inl hd9_), none, none, none, none, none, none, none], [.inl 4096, .inl hd9_], S_)) rfl ?_
        refine sm_T_br (a := 3) (z := 159) rfl (fun cx2_ => ?_) (fun cx2_ => ?_)
        · have cx2_ : 4096 ≤ hd9_ := of_decide_eq_true cx2_
          refine sm_T_go 1 (c1 := (225, [some (.inr (.inr (some (12, 0)))), some (.inr (.inr (some (47, (0 + d1_))))), some (.inl bg_), some (.inr (.inr (some (3, dd_)))), some (.inl mk_), some (.inl ip9_), none, some (.inl tl_), some (.inl hd9_), none, none, none, none, none, none, none], [.inl 0], S_)) rfl ?_
          refine sm_T_ri rfl ⟨_, _, rfl, _, rfl, hI_, hF_, ?_⟩
          trivial
        · have cx2_ : ¬ (4096 ≤ hd9_) := of_decide_eq_false cx2_
          have hq9_ := hq_ hd9_.toNat (by omega)
          have qc9_ := hI_.2 115 0 hd9_.toNat
          refine sm_T_go 3 (c1 := (74, [some (.inr (.inr (some (12, 0)))), some (.inr (.inr (some (47, (0 + d1_))))), some (.inl bg_), some (.inr (.inr (some (3, dd_)))), some (.inl mk_), some (.inl ip9_), none, some (.inl tl_), some (.inl hd9_), none, none, none, none, none, none, none], [.inl hd9_, .inr (.inr (some (115, 0)))], S_)) rfl ?_
          refine sm_T_iald (n := 4096) rfl rfl (by omega) (by omega) ?_
          have bx3_ : 0 ≤ S_.2.2.1 115 0 hd9_.toNat ∧ S_.2.2.1 115 0 hd9_.toNat ≤ 4095 := hI_.2 115 0 _
          refine sm_T_go 3 (c1 := (81, [some (.inr (.inr (some (12, 0)))), some (.inr (.inr (some (47, (0 + d1_))))), some (.inl bg_), some (.inr (.inr (some (3, dd_)))), some (.inl mk_), some (.inl ip9_), none, some (.inl tl_), some (.inl hd9_), some (.inl (S_.2.2.1 115 0 hd9_.toNat)), none, none, none, none, none, none], [.inl 6, .inl (S_.2.2.1 115 0 hd9_.toNat)], S_)) rfl ?_
          refine sm_T_bin (w := ((S_.2.2.1 115 0 hd9_.toNat) / 64)) rfl (bi_shr (k := 6) (by decide) (by omega) (by omega)) ?_ -- pc_ 81
          refine sm_T_go 1 (c1 := (84, [some (.inr (.inr (some (12, 0)))), some (.inr (.inr (some (47, (0 + d1_))))), some (.inl bg_), some (.inr (.inr (some (3, dd_)))), some (.inl mk_), some (.inl ip9_), none, some (.inl tl_), some (.inl hd9_), some (.inl (S_.2.2.1 115 0 hd9_.toNat)), none, none, none, none, none, none], [.inl ip9_, .inl ((S_.2.2.1 115 0 hd9_.toNat) / 64)], S_)) rfl ?_
          refine sm_T_bin (w := (i_shl ((S_.2.2.1 115 0 hd9_.toNat) / 64) ip9_)) rfl rfl ?_ -- pc_ 84
          refine sm_T_go 3 (c1 := (91, [some (.inr (.inr (some (12, 0)))), some (.inr (.inr (some (47, (0 + d1_))))), some (.inl bg_), some (.inr (.inr (some (3, dd_)))), some (.inl mk_), some (.inl ip9_), none, some (.inl tl_), some (.inl hd9_), some (.inl (S_.2.2.1 115 0 hd9_.toNat)), some (.inl (i_shl ((S_.2.2.1 115 0 hd9_.toNat) / 64) ip9_)), none, none, none, none, none], [.inl 63, .inl (S_.2.2.1 115 0 hd9_.toNat)], S_)) rfl ?_
          refine sm_T_bin (w := ((S_.2.2.1 115 0 hd9_.toNat) % 64)) rfl (bi_msk (k := 6) (by decide)) ?_ -- pc_ 91
          refine sm_T_go 1 (c1 := (94, [some (.inr (.inr (some (12, 0)))), some (.inr (.inr (some (47, (0 + d1_))))), some (.inl bg_), some (.inr (.inr (some (3, dd_)))), some (.inl mk_), some (.inl ip9_), none, some (.inl tl_), some (.inl hd9_), some (.inl (S_.2.2.1 115 0 hd9_.toNat)), some (.inl (i_shl ((S_.2.2.1 115 0 hd9_.toNat) / 64) ip9_)), none, none, none, none, none], [.inl ip9_, .inl ((S_.2.2.1 115 0 hd9_.toNat) % 64)], S_)) rfl ?_
          refine sm_T_bin (w := (i_shl ((S_.2.2.1 115 0 hd9_.toNat) % 64) ip9_)) rfl rfl ?_ -- pc_ 94
          refine sm_T_go 3 (c1 := (100, [some (.inr (.inr (some (12, 0)))), some (.inr (.inr (some (47, (0 + d1_))))), some (.inl bg_), some (.inr (.inr (some (3, dd_)))), some (.inl mk_), some (.inl ip9_), none, some (.inl tl_), some (.inl hd9_), some (.inl (S_.2.2.1 115 0 hd9_.toNat)), some (.inl (i_shl ((S_.2.2.1 115 0 hd9_.toNat) / 64) ip9_)), some (.inl (i_shl ((S_.2.2.1 115 0 hd9_.toNat) % 64) ip9_)), some (.inl 0), none, none, none], [], S_)) rfl ?_
          refine ih_.2 ip9_ tl_ hd9_ (S_.2.2.1 115 0 hd9_.toNat) (i_shl ((S_.2.2.1 115 0 hd9_.toNat) / 64) ip9_) (i_shl ((S_.2.2.1 115 0 hd9_.toNat) % 64) ip9_) 0 S_ hI_ hF_ ⟨?_, ?_, ?_, ?_, ?_, ?_, trivial⟩ ?_
          · exact hp_
          · exact hq_
          · exact hc_
          · omega
          · exact ⟨rfl, rfl⟩
          · exact hq9_
          · omega
    · rintro ip9_ tl_ hd9_ pr_ he_ te_ ip_ S_ hI_ hF_ ⟨hp_, hq_, hc_, h0_, hh_, hz_, -⟩ hm_
      have J9_ := dOk_b hd_
      have J9a := J9_.1
      have J9b := J9_.2.1
      have J9c := J9_.2.2.1
      have J9t := J9_.2.2.2.2
      have wa_ := pw_le (n := R1_) (m := 6) (by omega)
      have wb_ := pw_le (n := (S0_.1 3 dd_ 2).toNat) (m := 6) (by omega)
      have wc_ := pw_pos R1_
      have wd_ := pw_pos (S0_.1 3 dd_ 2).toNat
      have fT_ : S_.2.2.1 47 (0 + d1_) = S0_.2.2.1 47 (0 + d1_) := fr_arr hF_ rfl
      have f47_ : S_.2.2.1 47 (0 + dd_) = S0_.2.2.1 47 (0 + dd_) := fr_arr hF_ rfl
      have cl9_ := cn1_le (pn2 (S_.2.2.1 113 0)) 4096
      refine sm_T_go 3 (c1 := (105, [some (.inr (.inr (some (12, 0)))), some (.inr (.inr (some (47, (0 + d1_))))), some (.inl bg_), some (.inr (.inr (some (3, dd_)))), some (.inl mk_), some (.inl ip9_), none, some (.inl tl_), some (.inl hd9_), some (.inl pr_), some (.inl he_), some (.inl te_), some (.inl ip_), none, none, none], [.inl ip9_, .inl 1, .inl ip_], S_)) rfl ?_
      refine sm_T_bin (w := (i_shl 1 ip9_)) rfl rfl ?_ -- pc_ 105
      have bx1_ := i_shl1 (e := ip9_) (by omega) (by omega)
      have wp_ := pw_le (n := (ip9_).toNat) (m := 12) (by omega)
      have wp0_ := pw_pos (ip9_).toNat
      have wp1_ : (2 : Int) ^ (ip9_).toNat = 2 ^ (S0_.1 3 dd_ 1).toNat := by rw [show ip9_ = S0_.1 3 dd_ 1 by omega]
      refine sm_T_br (a := 3) (z := 112) rfl (fun cx5_ => ?_) (fun cx5_ => ?_)
      · have cx5_ : (i_shl 1 ip9_) ≤ ip_ := of_decide_eq_true cx5_
        refine sm_T_inc (a := 8) (z := 1) (v := hd9_) (w := hd9_ + 1) rfl rfl (by omega) (by omega) (by omega) ?_ -- pc_ 218
        refine sm_T_go 1 (c1 := (53, [some (.inr (.inr (some (12, 0)))), some (.inr (.inr (some (47, (0 + d1_))))), some (.inl bg_), some (.inr (.inr (some (3, dd_)))), some (.inl mk_), some (.inl ip9_), none, some (.inl tl_), some (.inl (hd9_ + 1)), some (.inl pr_), some (.inl he_), some (.inl te_), some (.inl ip_), none, none, none], [], S_)) rfl ?_
        refine sm_T_wk [some (.inr (.inr (some (12, 0)))), some (.inr (.inr (some (47, (0 + d1_))))), some (.inl bg_), some (.inr (.inr (some (3, dd_)))), some (.inl mk_), some (.inl ip9_), none, some (.inl tl_), some (.inl (hd9_ + 1)), none, none, none, none, none, none, none] (by exact ⟨rfl, rfl, rfl, rfl, rfl, rfl, rfl, rfl, trivial⟩) ?_
        refine ih_.1 ip9_ tl_ (hd9_ + 1) S_ hI_ hF_ ⟨?_, ?_, ?_, ?_, trivial⟩ ?_
        · exact hp_
        · exact hq_
        · exact hc_
        · omega
        · omega
      · have cx5_ : ¬ ((i_shl 1 ip9_) ≤ ip_) := of_decide_eq_false cx5_
        have p1_ := pat_b (s_ := pr_ / 64) (i_ := ip_) (R_ := R1_) (I_ := (S0_.1 3 dd_ 1).toNat) (by omega) (by omega) (by omega)
        have p2_ := pat_b (s_ := pr_ % 64) (i_ := ip_) (R_ := (S0_.1 3 dd_ 2).toNat) (I_ := (S0_.1 3 dd_ 1).toNat) (by omega) (by omega) (by omega)
        have p3_ := pw_le (n := R1_ + (S0_.1 3 dd_ 1).toNat) (m := 12) (by omega)
        have p4_ := pw_le (n := (S0_.1 3 dd_ 2).toNat + (S0_.1 3 dd_ 1).toNat) (m := 12) (by omega)
        rw [show (((S0_.1 3 dd_ 1).toNat : Nat) : Int) = ip9_ by omega, ← hh_.1] at p1_
        rw [show (((S0_.1 3 dd_ 1).toNat : Nat) : Int) = ip9_ by omega, ← hh_.2] at p2_
        have t1_ := ht_ (i_or he_ ip_).toNat (by omega)
        have t2_ := J9t (i_or te_ ip_).toNat (by omega)
        rw [← fT_] at t1_
        rw [← f47_] at t2_
        have n1_ := shr16 t1_
        have n2_ := shr16 t2_
        have o9_ := or64 (a_ := S_.2.2.1 47 (0 + d1_) (i_or he_ ip_).toNat / 65536) (b_ := S_.2.2.1 47 (0 + dd_) (i_or te_ ip_).toNat / 65536) (by omega) (by omega)
        refine sm_T_go 3 (c1 := (114, [some (.inr (.inr (some (12, 0)))), some (.inr (.inr (some (47, (0 + d1_))))), some (.inl bg_), some (.inr (.inr (some (3, dd_)))), some (.inl mk_), some (.inl ip9_), none, some (.inl tl_), some (.inl hd9_), some (.inl pr_), some (.inl he_), some (.inl te_), some (.inl ip_), none, none, none], [.inl ip_, .inl he_, .inr (.inr (some (47, (0 + d1_))))], S_)) rfl ?_
        refine sm_T_bin (w := (i_or he_ ip_)) rfl rfl ?_ -- pc_ 114
        refine sm_T_iald (n := 4096) rfl rfl (by omega) (by omega) ?_
        have bx6_ : 0 ≤ S_.2.2.1 47 (0 + d1_) (i_or he_ ip_).toNat ∧ S_.2.2.1 47 (0 + d1_) (i_or he_ ip_).toNat ≤ 4194303 := hI_.2 47 (0 + d1_) _
        refine sm_T_go 5 (c1 := (126, [some (.inr (.inr (some (12, 0)))), some (.inr (.inr (some (47, (0 + d1_))))), some (.inl bg_), some (.inr (.inr (some (3, dd_)))), some (.inl mk_), some (.inl ip9_), none, some (.inl tl_), some (.inl hd9_), some (.inl pr_), some (.inl he_), some (.inl te_), some (.inl ip_), some (.inl (S_.2.2.1 47 (0 + d1_) (i_or he_ ip_).toNat)), none, none], [.inl ip_, .inl te_, .inr (.inr (some (47, (0 + dd_))))], S_)) rfl ?_
        refine sm_T_bin (w := (i_or te_ ip_)) rfl rfl ?_ -- pc_ 126
        refine sm_T_iald (n := 4096) rfl rfl (by omega) (by omega) ?_
        have bx7_ : 0 ≤ S_.2.2.1 47 (0 + dd_) (i_or te_ ip_).toNat ∧ S_.2.2.1 47 (0 + dd_) (i_or te_ ip_).toNat ≤ 4194303 := hI_.2 47 (0 + dd_) _
        refine sm_T_go 3 (c1 := (134, [some (.inr (.inr (some (12, 0)))), some (.inr (.inr (some (47, (0 + d1_))))), some (.inl bg_), some (.inr (.inr (some (3, dd_)))), some (.inl mk_), some (.inl ip9_), none, some (.inl tl_), some (.inl hd9_), some (.inl pr_), some (.inl he_), some (.inl te_), some (.inl ip_), some (.inl (S_.2.2.1 47 (0 + d1_) (i_or he_ ip_).toNat)), some (.inl (S_.2.2.1 47 (0 + dd_) (i_or te_ ip_).toNat)), none], [.inl (S_.2.2.1 47 (0 + dd_) (i_or te_ ip_).toNat), .inl (S_.2.2.1 47 (0 + d1_) (i_or he_ ip_).toNat)], S_)) rfl ?_
        refine sm_T_bin (w := (i_xor (S_.2.2.1 47 (0 + d1_) (i_or he_ ip_).toNat) (S_.2.2.1 47 (0 + dd_) (i_or te_ ip_).toNat))) rfl rfl ?_ -- pc_ 134
        refine sm_T_go 1 (c1 := (137, [some (.inr (.inr (some (12, 0)))), some (.inr (.inr (some (47, (0 + d1_))))), some (.inl bg_), some (.inr (.inr (some (3, dd_)))), some (.inl mk_), some (.inl ip9_), none, some (.inl tl_), some (.inl hd9_), some (.inl pr_), some (.inl he_), some (.inl te_), some (.inl ip_), some (.inl (S_.2.2.1 47 (0 + d1_) (i_or he_ ip_).toNat)), some (.inl (S_.2.2.1 47 (0 + dd_) (i_or te_ ip_).toNat)), none], [.inl mk_, .inl (i_xor (S_.2.2.1 47 (0 + d1_) (i_or he_ ip_).toNat) (S_.2.2.1 47 (0 + dd_) (i_or te_ ip_).toNat))], S_)) rfl ?_
        refine sm_T_bin (w := (i_and (i_xor (S_.2.2.1 47 (0 + d1_) (i_or he_ ip_).toNat) (S_.2.2.1 47 (0 + dd_) (i_or te_ ip_).toNat)) mk_)) rfl rfl ?_ -- pc_ 137
        refine sm_T_b0 (a := 0) (z := 16) rfl (fun cx8_ => ?_) (fun cx8_ => ?_)
        · have cx8_ : (i_and (i_xor (S_.2.2.1 47 (0 + d1_) (i_or he_ ip_).toNat) (S_.2.2.1 47 (0 + dd_) (i_or te_ ip_).toNat)) mk_) = 0 := of_decide_eq_true cx8_
          refine sm_T_go 2 (c1 := (158, [some (.inr (.inr (some (12, 0)))), some (.inr (.inr (some (47, (0 + d1_))))), some (.inl bg_), some (.inr (.inr (some (3, dd_)))), some (.inl mk_), some (.inl ip9_), none, some (.inl tl_), some (.inl hd9_), some (.inl pr_), some (.inl he_), some (.inl te_), some (.inl ip_), some (.inl (S_.2.2.1 47 (0 + d1_) (i_or he_ ip_).toNat)), some (.inl (S_.2.2.1 47 (0 + dd_) (i_or te_ ip_).toNat)), none], [.inl 16, .inl (S_.2.2.1 47 (0 + d1_) (i_or he_ ip_).toNat)], S_)) rfl ?_
          refine sm_T_bin (w := ((S_.2.2.1 47 (0 + d1_) (i_or he_ ip_).toNat) / 65536)) rfl (bi_shr (k := 16) (by decide) (by omega) (by omega)) ?_ -- pc_ 158
          refine sm_T_go 1 (c1 := (161, [some (.inr (.inr (some (12, 0)))), some (.inr (.inr (some (47, (0 + d1_))))), some (.inl bg_), some (.inr (.inr (some (3, dd_)))), some (.inl mk_), some (.inl ip9_), none, some (.inl tl_), some (.inl hd9_), some (.inl pr_), some (.inl he_), some (.inl te_), some (.inl ip_), some (.inl (S_.2.2.1 47 (0 + d1_) (i_or he_ ip_).toNat)), some (.inl (S_.2.2.1 47 (0 + dd_) (i_or te_ ip_).toNat)), none], [.inl 6, .inl ((S_.2.2.1 47 (0 + d1_) (i_or he_ ip_).toNat) / 65536)], S_)) rfl ?_
          refine sm_T_bin (w := 64 * ((S_.2.2.1 47 (0 + d1_) (i_or he_ ip_).toNat) / 65536)) rfl (bi_shl (k := 6) (by decide) (by omega) (by omega) (by omega)) ?_ -- pc_ 161
          refine sm_T_go 2 (c1 := (166, [some (.inr (.inr (some (12, 0)))), some (.inr (.inr (some (47, (0 + d1_))))), some (.inl bg_), some (.inr (.inr (some (3, dd_)))), some (.inl mk_), some (.inl ip9_), none, some (.inl tl_), some (.inl hd9_), some (.inl pr_), some (.inl he_), some (.inl te_), some (.inl ip_), some (.inl (S_.2.2.1 47 (0 + d1_) (i_or he_ ip_).toNat)), some (.inl (S_.2.2.1 47 (0 + dd_) (i_or te_ ip_).toNat)), none], [.inl 16, .inl (S_.2.2.1 47 (0 + dd_) (i_or te_ ip_).toNat), .inl (64 * ((S_.2.2.1 47 (0 + d1_) (i_or he_ ip_).toNat) / 65536))], S_)) rfl ?_
          refine sm_T_bin (w := ((S_.2.2.1 47 (0 + dd_) (i_or te_ ip_).toNat) / 65536)) rfl (bi_shr (k := 16) (by decide) (by omega) (by omega)) ?_ -- pc_ 166
          refine sm_T_bin (w := (i_or (64 * ((S_.2.2.1 47 (0 + d1_) (i_or he_ ip_).toNat) / 65536)) ((S_.2.2.1 47 (0 + dd_) (i_or te_ ip_).toNat) / 65536))) rfl rfl ?_ -- pc_ 167
          refine sm_T_go 4 (c1 := (176, [some (.inr (.inr (some (12, 0)))), some (.inr (.inr (some (47, (0 + d1_))))), some (.inl bg_), some (.inr (.inr (some (3, dd_)))), some (.inl mk_), some (.inl ip9_), none, some (.inl tl_), some (.inl hd9_), some (.inl pr_), some (.inl he_), some (.inl te_), some (.inl ip_), some (.inl (S_.2.2.1 47 (0 + d1_) (i_or he_ ip_).toNat)), some (.inl (S_.2.2.1 47 (0 + dd_) (i_or te_ ip_).toNat)), some (.inl (i_or (64 * ((S_.2.2.1 47 (0 + d1_) (i_or he_ ip_).toNat) / 65536)) ((S_.2.2.1 47 (0 + dd_) (i_or te_ ip_).toNat) / 65536)))], [.inl (i_or (64 * ((S_.2.2.1 47 (0 + d1_) (i_or he_ ip_).toNat) / 65536)) ((S_.2.2.1 47 (0 + dd_) (i_or te_ ip_).toNat) / 65536)), .inr (.inr (some (113, 0)))], S_)) rfl ?_
          refine sm_T_iald (n := 4096) rfl rfl (by omega) (by omega) ?_
          have bx9_ : (-2) ≤ S_.2.2.1 113 0 (i_or (64 * ((S_.2.2.1 47 (0 + d1_) (i_or he_ ip_).toNat) / 65536)) ((S_.2.2.1 47 (0 + dd_) (i_or te_ ip_).toNat) / 65536)).toNat ∧ S_.2.2.1 113 0 (i_or (64 * ((S_.2.2.1 47 (0 + d1_) (i_or he_ ip_).toNat) / 65536)) ((S_.2.2.1 47 (0 + dd_) (i_or te_ ip_).toNat) / 65536)).toNat ≤ 4095 := hI_.2 113 0 _
          refine sm_T_go 1 (c1 := (179, [some (.inr (.inr (some (12, 0)))), some (.inr (.inr (some (47, (0 + d1_))))), some (.inl bg_), some (.inr (.inr (some (3, dd_)))), some (.inl mk_), some (.inl ip9_), none, some (.inl tl_), some (.inl hd9_), some (.inl pr_), some (.inl he_), some (.inl te_), some (.inl ip_), some (.inl (S_.2.2.1 47 (0 + d1_) (i_or he_ ip_).toNat)), some (.inl (S_.2.2.1 47 (0 + dd_) (i_or te_ ip_).toNat)), some (.inl (i_or (64 * ((S_.2.2.1 47 (0 + d1_) (i_or he_ ip_).toNat) / 65536)) ((S_.2.2.1 47 (0 + dd_) (i_or te_ ip_).toNat) / 65536)))], [.inl (-2), .inl (S_.2.2.1 113 0 (i_or (64 * ((S_.2.2.1 47 (0 + d1_) (i_or he_ ip_).toNat) / 65536)) ((S_.2.2.1 47 (0 + dd_) (i_or te_ ip_).toNat) / 65536)).toNat)], S_)) rfl ?_
          refine sm_T_br (a := 1) (z := 33) rfl (fun cx10_ => ?_) (fun cx10_ => ?_)
          · have cx10_ : (S_.2.2.1 113 0 (i_or (64 * ((S_.2.2.1 47 (0 + d1_) (i_or he_ ip_).toNat) / 65536)) ((S_.2.2.1 47 (0 + dd_) (i_or te_ ip_).toNat) / 65536)).toNat) ≠ (-2) := of_decide_eq_true cx10_
            refine sm_T_inc (a := 12) (z := 1) (v := ip_) (w := ip_ + 1) rfl rfl (by omega) (by omega) (by omega) ?_ -- pc_ 212
            refine sm_T_go 1 (c1 := (100, [some (.inr (.inr (some (12, 0)))), some (.inr (.inr (some (47, (0 + d1_))))), some (.inl bg_), some (.inr (.inr (some (3, dd_)))), some (.inl mk_), some (.inl ip9_), none, some (.inl tl_), some (.inl hd9_), some (.inl pr_), some (.inl he_), some (.inl te_), some (.inl (ip_ + 1)), some (.inl (S_.2.2.1 47 (0 + d1_) (i_or he_ ip_).toNat)), some (.inl (S_.2.2.1 47 (0 + dd_) (i_or te_ ip_).toNat)), some (.inl (i_or (64 * ((S_.2.2.1 47 (0 + d1_) (i_or he_ ip_).toNat) / 65536)) ((S_.2.2.1 47 (0 + dd_) (i_or te_ ip_).toNat) / 65536)))], [], S_)) rfl ?_
            refine sm_T_wk [some (.inr (.inr (some (12, 0)))), some (.inr (.inr (some (47, (0 + d1_))))), some (.inl bg_), some (.inr (.inr (some (3, dd_)))), some (.inl mk_), some (.inl ip9_), none, some (.inl tl_), some (.inl hd9_), some (.inl pr_), some (.inl he_), some (.inl te_), some (.inl (ip_ + 1)), none, none, none] (by exact ⟨rfl, rfl, rfl, rfl, rfl, rfl, rfl, rfl, rfl, rfl, rfl, rfl, trivial⟩) ?_
            refine ih_.2 ip9_ tl_ hd9_ pr_ he_ te_ (ip_ + 1) S_ hI_ hF_ ⟨?_, ?_, ?_, ?_, ?_, ?_, trivial⟩ ?_
            · exact hp_
            · exact hq_
            · exact hc_
            · omega
            · exact hh_
            · exact hz_
            · omega
          · have cx10_ : ¬ ((S_.2.2.1 113 0 (i_or (64 * ((S_.2.2.1 47 (0 + d1_) (i_or he_ ip_).toNat) / 65536)) ((S_.2.2.1 47 (0 + dd_) (i_or te_ ip_).toNat) / 65536)).toNat) ≠ (-2)) := of_decide_eq_false cx10_
            have lt9_ := cn1_lt (f := pn2 (S_.2.2.1 113 0)) (j := (i_or (64 * (S_.2.2.1 47 (0 + d1_) (i_or he_ ip_).toNat / 65536)) (S_.2.2.1 47 (0 + dd_) (i_or te_ ip_).toNat / 65536)).toNat) (fun y9_ => absurd (pn2_1.mp y9_) cx10_) (n := 4096) (by omega)
            refine sm_T_go 4 (c1 := (190, [some (.inr (.inr (some (12, 0)))), some (.inr (.inr (some (47, (0 + d1_))))), some (.inl bg_), some (.inr (.inr (some (3, dd_)))), some (.inl mk_), some (.inl ip9_), none, some (.inl tl_), some (.inl hd9_), some (.inl pr_), some (.inl he_), some (.inl te_), some (.inl ip_), some (.inl (S_.2.2.1 47 (0 + d1_) (i_or he_ ip_).toNat)), some (.inl (S_.2.2.1 47 (0 + dd_) (i_or te_ ip_).toNat)), some (.inl (i_or (64 * ((S_.2.2.1 47 (0 + d1_) (i_or he_ ip_).toNat) / 65536)) ((S_.2.2.1 47 (0 + dd_) (i_or te_ ip_).toNat) / 65536)))], [.inl pr_, .inl (i_or (64 * ((S_.2.2.1 47 (0 + d1_) (i_or he_ ip_).toNat) / 65536)) ((S_.2.2.1 47 (0 + dd_) (i_or te_ ip_).toNat) / 65536)), .inr (.inr (some (113, 0)))], S_)) rfl ?_
            refine sm_T_iast (n := 4096) rfl rfl (by omega) (by omega) ?_
            have hIx11_ : gi (sm_aI S_ 113 0 (i_or (64 * ((S_.2.2.1 47 (0 + d1_) (i_or he_ ip_).toNat) / 65536)) ((S_.2.2.1 47 (0 + dd_) (i_or te_ ip_).toNat) / 65536)).toNat pr_) := gi_aI hI_ (show (-2) ≤ pr_ ∧ pr_ ≤ 4095 from ⟨by omega, by omega⟩)
            have hFx12_ : ai_fr (sx_W vw_276d) S0_ (sm_aI S_ 113 0 (i_or (64 * ((S_.2.2.1 47 (0 + d1_) (i_or he_ ip_).toNat) / 65536)) ((S_.2.2.1 47 (0 + dd_) (i_or te_ ip_).toNat) / 65536)).toNat pr_) := ai_fr_tr hF_ (ai_fr_aI rfl)
            refine sm_T_go 4 (c1 := (199, [some (.inr (.inr (some (12, 0)))), some (.inr (.inr (some (47, (0 + d1_))))), some (.inl bg_), some (.inr (.inr (some (3, dd_)))), some (.inl mk_), some (.inl ip9_), none, some (.inl tl_), some (.inl hd9_), some (.inl pr_), some (.inl he_), some (.inl te_), some (.inl ip_), some (.inl (S_.2.2.1 47 (0 + d1_) (i_or he_ ip_).toNat)), some (.inl (S_.2.2.1 47 (0 + dd_) (i_or te_ ip_).toNat)), some (.inl (i_or (64 * ((S_.2.2.1 47 (0 + d1_) (i_or he_ ip_).toNat) / 65536)) ((S_.2.2.1 47 (0 + dd_) (i_or te_ ip_).toNat) / 65536)))], [.inl ip_, .inl (i_or (64 * ((S_.2.2.1 47 (0 + d1_) (i_or he_ ip_).toNat) / 65536)) ((S_.2.2.1 47 (0 + dd_) (i_or te_ ip_).toNat) / 65536)), .inr (.inr (some (114, 0)))], sm_aI S_ 113 0 (i_or (64 * ((S_.2.2.1 47 (0 + d1_) (i_or he_ ip_).toNat) / 65536)) ((S_.2.2.1 47 (0 + dd_) (i_or te_ ip_).toNat) / 65536)).toNat pr_)) rfl ?_
            refine sm_T_iast (n := 4096) rfl rfl (by omega) (by omega) ?_
            have hIx13_ : gi (sm_aI (sm_aI S_ 113 0 (i_or (64 * ((S_.2.2.1 47 (0 + d1_) (i_or he_ ip_).toNat) / 65536)) ((S_.2.2.1 47 (0 + dd_) (i_or te_ ip_).toNat) / 65536)).toNat pr_) 114 0 (i_or (64 * ((S_.2.2.1 47 (0 + d1_) (i_or he_ ip_).toNat) / 65536)) ((S_.2.2.1 47 (0 + dd_) (i_or te_ ip_).toNat) / 65536)).toNat ip_) := gi_aI hIx11_ (show 0 ≤ ip_ ∧ ip_ ≤ 4095 from ⟨by omega, by omega⟩)
            have hFx14_ : ai_fr (sx_W vw_276d) S0_ (sm_aI (sm_aI S_ 113 0 (i_or (64 * ((S_.2.2.1 47 (0 + d1_) (i_or he_ ip_).toNat) / 65536)) ((S_.2.2.1 47 (0 + dd_) (i_or te_ ip_).toNat) / 65536)).toNat pr_) 114 0 (i_or (64 * ((S_.2.2.1 47 (0 + d1_) (i_or he_ ip_).toNat) / 65536)) ((S_.2.2.1 47 (0 + dd_) (i_or te_ ip_).toNat) / 65536)).toNat ip_) := ai_fr_tr hFx12_ (ai_fr_aI rfl)
            refine sm_T_go 4 (c1 := (208, [some (.inr (.inr (some (12, 0)))), some (.inr (.inr (some (47, (0 + d1_))))), some (.inl bg_), some (.inr (.inr (some (3, dd_)))), some (.inl mk_), some (.inl ip9_), none, some (.inl tl_), some (.inl hd9_), some (.inl pr_), some (.inl he_), some (.inl te_), some (.inl ip_), some (.inl (S_.2.2.1 47 (0 + d1_) (i_or he_ ip_).toNat)), some (.inl (S_.2.2.1 47 (0 + dd_) (i_or te_ ip_).toNat)), some (.inl (i_or (64 * ((S_.2.2.1 47 (0 + d1_) (i_or he_ ip_).toNat) / 65536)) ((S_.2.2.1 47 (0 + dd_) (i_or te_ ip_).toNat) / 65536)))], [.inl (i_or (64 * ((S_.2.2.1 47 (0 + d1_) (i_or he_ ip_).toNat) / 65536)) ((S_.2.2.1 47 (0 + dd_) (i_or te_ ip_).toNat) / 65536)), .inl tl_, .inr (.inr (some (115, 0)))], sm_aI (sm_aI S_ 113 0 (i_or (64 * ((S_.2.2.1 47 (0 + d1_) (i_or he_ ip_).toNat) / 65536)) ((S_.2.2.1 47 (0 + dd_) (i_or te_ ip_).toNat) / 65536)).toNat pr_) 114 0 (i_or (64 * ((S_.2.2.1 47 (0 + d1_) (i_or he_ ip_).toNat) / 65536)) ((S_.2.2.1 47 (0 + dd_) (i_or te_ ip_).toNat) / 65536)).toNat ip_)) rfl ?_
            refine sm_T_iast (n := 4096) rfl rfl (by omega) (by omega) ?_
            have hIx15_ : gi (sm_aI (sm_aI (sm_aI S_ 113 0 (i_or (64 * ((S_.2.2.1 47 (0 + d1_) (i_or he_ ip_).toNat) / 65536)) ((S_.2.2.1 47 (0 + dd_) (i_or te_ ip_).toNat) / 65536)).toNat pr_) 114 0 (i_or (64 * ((S_.2.2.1 47 (0 + d1_) (i_or he_ ip_).toNat) / 65536)) ((S_.2.2.1 47 (0 + dd_) (i_or te_ ip_).toNat) / 65536)).toNat ip_) 115 0 tl_.toNat (i_or (64 * ((S_.2.2.1 47 (0 + d1_) (i_or he_ ip_).toNat) / 65536)) ((S_.2.2.1 47 (0 + dd_) (i_or te_ ip_).toNat) / 65536))) := gi_aI hIx13_ (show 0 ≤ (i_or (64 * ((S_.2.2.1 47 (0 + d1_) (i_or he_ ip_).toNat) / 65536)) ((S_.2.2.1 47 (0 + dd_) (i_or te_ ip_).toNat) / 65536)) ∧ (i_or (64 * ((S_.2.2.1 47 (0 + d1_) (i_or he_ ip_).toNat) / 65536)) ((S_.2.2.1 47 (0 + dd_) (i_or te_ ip_).toNat) / 65536)) ≤ 4095 from ⟨by omega, by omega⟩)
            have hFx16_ : ai_fr (sx_W vw_276d) S0_ (sm_aI (sm_aI (sm_aI S_ 113 0 (i_or (64 * ((S_.2.2.1 47 (0 + d1_) (i_or he_ ip_).toNat) / 65536)) ((S_.2.2.1 47 (0 + dd_) (i_or te_ ip_).toNat) / 65536)).toNat pr_) 114 0 (i_or (64 * ((S_.2.2.1 47 (0 + d1_) (i_or he_ ip_).toNat) / 65536)) ((S_.2.2.1 47 (0 + dd_) (i_or te_ ip_).toNat) / 65536)).toNat ip_) 115 0 tl_.toNat (i_or (64 * ((S_.2.2.1 47 (0 + d1_) (i_or he_ ip_).toNat) / 65536)) ((S_.2.2.1 47 (0 + dd_) (i_or te_ ip_).toNat) / 65536))) := ai_fr_tr hFx14_ (ai_fr_aI rfl)
            refine sm_T_inc (a := 7) (z := 1) (v := tl_) (w := tl_ + 1) rfl rfl (by omega) (by omega) (by omega) ?_ -- pc_ 209
            refine sm_T_inc (a := 12) (z := 1) (v := ip_) (w := ip_ + 1) rfl rfl (by omega) (by omega) (by omega) ?_ -- pc_ 212
            refine sm_T_go 1 (c1 := (100, [some (.inr (.inr (some (12, 0)))), some (.inr (.inr (some (47, (0 + d1_))))), some (.inl bg_), some (.inr (.inr (some (3, dd_)))), some (.inl mk_), some (.inl ip9_), none, some (.inl (tl_ + 1)), some (.inl hd9_), some (.inl pr_), some (.inl he_), some (.inl te_), some (.inl (ip_ + 1)), some (.inl (S_.2.2.1 47 (0 + d1_) (i_or he_ ip_).toNat)), some (.inl (S_.2.2.1 47 (0 + dd_) (i_or te_ ip_).toNat)), some (.inl (i_or (64 * ((S_.2.2.1 47 (0 + d1_) (i_or he_ ip_).toNat) / 65536)) ((S_.2.2.1 47 (0 + dd_) (i_or te_ ip_).toNat) / 65536)))], [], sm_aI (sm_aI (sm_aI S_ 113 0 (i_or (64 * ((S_.2.2.1 47 (0 + d1_) (i_or he_ ip_).toNat) / 65536)) ((S_.2.2.1 47 (0 + dd_) (i_or te_ ip_).toNat) / 65536)).toNat pr_) 114 0 (i_or (64 * ((S_.2.2.1 47 (0 + d1_) (i_or he_ ip_).toNat) / 65536)) ((S_.2.2.1 47 (0 + dd_) (i_or te_ ip_).toNat) / 65536)).toNat ip_) 115 0 tl_.toNat (i_or (64 * ((S_.2.2.1 47 (0 + d1_) (i_or he_ ip_).toNat) / 65536)) ((S_.2.2.1 47 (0 + dd_) (i_or te_ ip_).toNat) / 65536)))) rfl ?_
            refine sm_T_wk [some (.inr (.inr (some (12, 0)))), some (.inr (.inr (some (47, (0 + d1_))))), some (.inl bg_), some (.inr (.inr (some (3, dd_)))), some (.inl mk_), some (.inl ip9_), none, some (.inl (tl_ + 1)), some (.inl hd9_), some (.inl pr_), some (.inl he_), some (.inl te_), some (.inl (ip_ + 1)), none, none, none] (by exact ⟨rfl, rfl, rfl, rfl, rfl, rfl, rfl, rfl, rfl, rfl, rfl, rfl, trivial⟩) ?_
            refine ih_.2 ip9_ (tl_ + 1) hd9_ pr_ he_ te_ (ip_ + 1) (sm_aI (sm_aI (sm_aI S_ 113 0 (i_or (64 * ((S_.2.2.1 47 (0 + d1_) (i_or he_ ip_).toNat) / 65536)) ((S_.2.2.1 47 (0 + dd_) (i_or te_ ip_).toNat) / 65536)).toNat pr_) 114 0 (i_or (64 * ((S_.2.2.1 47 (0 + d1_) (i_or he_ ip_).toNat) / 65536)) ((S_.2.2.1 47 (0 + dd_) (i_or te_ ip_).toNat) / 65536)).toNat ip_) 115 0 tl_.toNat (i_or (64 * ((S_.2.2.1 47 (0 + d1_) (i_or he_ ip_).toNat) / 65536)) ((S_.2.2.1 47 (0 + dd_) (i_or te_ ip_).toNat) / 65536))) hIx15_ hFx16_ ⟨?_, ?_, ?_, ?_, ?_, ?_, trivial⟩ ?_
            · obtain ⟨NN_, hNN_⟩ : ∃ NN_, NN_ = i_or (64 * (S_.2.2.1 47 (0 + d1_) (i_or he_ ip_).toNat / 65536)) (S_.2.2.1 47 (0 + dd_) (i_or te_ ip_).toNat / 65536) := ⟨_, rfl⟩
              have cx9_ : ¬ (S_.2.2.1 113 0 NN_.toNat ≠ -2) := by (rw [hNN_]; exact cx10_)
              have r1_ : ∀ j9_, ((sm_aI (sm_aI (sm_aI S_ 113 0 (i_or (64 * ((S_.2.2.1 47 (0 + d1_) (i_or he_ ip_).toNat) / 65536)) ((S_.2.2.1 47 (0 + dd_) (i_or te_ ip_).toNat) / 65536)).toNat pr_) 114 0 (i_or (64 * ((S_.2.2.1 47 (0 + d1_) (i_or he_ ip_).toNat) / 65536)) ((S_.2.2.1 47 (0 + dd_) (i_or te_ ip_).toNat) / 65536)).toNat ip_) 115 0 tl_.toNat (i_or (64 * ((S_.2.2.1 47 (0 + d1_) (i_or he_ ip_).toNat) / 65536)) ((S_.2.2.1 47 (0 + dd_) (i_or te_ ip_).toNat) / 65536)))).2.2.1 115 0 j9_ = if j9_ = tl_.toNat then NN_ else S_.2.2.1 115 0 j9_ := fun j9_ => by rw [rd_eq, rd_ne (by decide), rd_ne (by decide), hNN_]
              have r2_ : ∀ j9_, ((sm_aI (sm_aI (sm_aI S_ 113 0 (i_or (64 * ((S_.2.2.1 47 (0 + d1_) (i_or he_ ip_).toNat) / 65536)) ((S_.2.2.1 47 (0 + dd_) (i_or te_ ip_).toNat) / 65536)).toNat pr_) 114 0 (i_or (64 * ((S_.2.2.1 47 (0 + d1_) (i_or he_ ip_).toNat) / 65536)) ((S_.2.2.1 47 (0 + dd_) (i_or te_ ip_).toNat) / 65536)).toNat ip_) 115 0 tl_.toNat (i_or (64 * ((S_.2.2.1 47 (0 + d1_) (i_or he_ ip_).toNat) / 65536)) ((S_.2.2.1 47 (0 + dd_) (i_or te_ ip_).toNat) / 65536)))).2.2.1 113 0 j9_ = if j9_ = NN_.toNat then pr_ else S_.2.2.1 113 0 j9_ := fun j9_ => by rw [rd_ne (by decide), rd_ne (by decide), rd_eq, hNN_]
              intro j9_ hj9_ w9_
              rw [r2_] at w9_ ⊢
              by_cases z9_ : j9_ = NN_.toNat
              · rw [if_pos z9_]; right; rw [r2_]; refine ⟨by omega, ?_⟩; split; omega; exact hz_.1
              · rw [if_neg z9_] at w9_ ⊢; rcases hp_ j9_ hj9_ w9_ with q9_ | q9_
                · left; exact q9_
                · right; refine ⟨q9_.1, ?_⟩; rw [r2_]; split; omega; exact q9_.2
            · obtain ⟨NN_, hNN_⟩ : ∃ NN_, NN_ = i_or (64 * (S_.2.2.1 47 (0 + d1_) (i_or he_ ip_).toNat / 65536)) (S_.2.2.1 47 (0 + dd_) (i_or te_ ip_).toNat / 65536) := ⟨_, rfl⟩
              have cx9_ : ¬ (S_.2.2.1 113 0 NN_.toNat ≠ -2) := by (rw [hNN_]; exact cx10_)
              have r1_ : ∀ j9_, ((sm_aI (sm_aI (sm_aI S_ 113 0 (i_or (64 * ((S_.2.2.1 47 (0 + d1_) (i_or he_ ip_).toNat) / 65536)) ((S_.2.2.1 47 (0 + dd_) (i_or te_ ip_).toNat) / 65536)).toNat pr_) 114 0 (i_or (64 * ((S_.2.2.1 47 (0 + d1_) (i_or he_ ip_).toNat) / 65536)) ((S_.2.2.1 47 (0 + dd_) (i_or te_ ip_).toNat) / 65536)).toNat ip_) 115 0 tl_.toNat (i_or (64 * ((S_.2.2.1 47 (0 + d1_) (i_or he_ ip_).toNat) / 65536)) ((S_.2.2.1 47 (0 + dd_) (i_or te_ ip_).toNat) / 65536)))).2.2.1 115 0 j9_ = if j9_ = tl_.toNat then NN_ else S_.2.2.1 115 0 j9_ := fun j9_ => by rw [rd_eq, rd_ne (by decide), rd_ne (by decide), hNN_]
              have r2_ : ∀ j9_, ((sm_aI (sm_aI (sm_aI S_ 113 0 (i_or (64 * ((S_.2.2.1 47 (0 + d1_) (i_or he_ ip_).toNat) / 65536)) ((S_.2.2.1 47 (0 + dd_) (i_or te_ ip_).toNat) / 65536)).toNat pr_) 114 0 (i_or (64 * ((S_.2.2.1 47 (0 + d1_) (i_or he_ ip_).toNat) / 65536)) ((S_.2.2.1 47 (0 + dd_) (i_or te_ ip_).toNat) / 65536)).toNat ip_) 115 0 tl_.toNat (i_or (64 * ((S_.2.2.1 47 (0 + d1_) (i_or he_ ip_).toNat) / 65536)) ((S_.2.2.1 47 (0 + dd_) (i_or te_ ip_).toNat) / 65536)))).2.2.1 113 0 j9_ = if j9_ = NN_.toNat then pr_ else S_.2.2.1 113 0 j9_ := fun j9_ => by rw [rd_ne (by decide), rd_ne (by decide), rd_eq, hNN_]
              intro j9_ hj9_
              by_cases z9_ : (j9_ : Int) = tl_
              · rw [r1_, if_pos (by omega), r2_, if_pos rfl]; exact ⟨by omega, by omega, by omega⟩
              · have q9_ := hq_ j9_ (by omega)
                rw [r1_, if_neg (by omega), r2_]; refine ⟨?_, q9_.2⟩; split; omega; exact q9_.1
            · obtain ⟨NN_, hNN_⟩ : ∃ NN_, NN_ = i_or (64 * (S_.2.2.1 47 (0 + d1_) (i_or he_ ip_).toNat / 65536)) (S_.2.2.1 47 (0 + dd_) (i_or te_ ip_).toNat / 65536) := ⟨_, rfl⟩
              have cx9_ : ¬ (S_.2.2.1 113 0 NN_.toNat ≠ -2) := by (rw [hNN_]; exact cx10_)
              have r1_ : ∀ j9_, ((sm_aI (sm_aI (sm_aI S_ 113 0 (i_or (64 * ((S_.2.2.1 47 (0 + d1_) (i_or he_ ip_).toNat) / 65536)) ((S_.2.2.1 47 (0 + dd_) (i_or te_ ip_).toNat) / 65536)).toNat pr_) 114 0 (i_or (64 * ((S_.2.2.1 47 (0 + d1_) (i_or he_ ip_).toNat) / 65536)) ((S_.2.2.1 47 (0 + dd_) (i_or te_ ip_).toNat) / 65536)).toNat ip_) 115 0 tl_.toNat (i_or (64 * ((S_.2.2.1 47 (0 + d1_) (i_or he_ ip_).toNat) / 65536)) ((S_.2.2.1 47 (0 + dd_) (i_or te_ ip_).toNat) / 65536)))).2.2.1 115 0 j9_ = if j9_ = tl_.toNat then NN_ else S_.2.2.1 115 0 j9_ := fun j9_ => by rw [rd_eq, rd_ne (by decide), rd_ne (by decide), hNN_]
              have r2_ : ∀ j9_, ((sm_aI (sm_aI (sm_aI S_ 113 0 (i_or (64 * ((S_.2.2.1 47 (0 + d1_) (i_or he_ ip_).toNat) / 65536)) ((S_.2.2.1 47 (0 + dd_) (i_or te_ ip_).toNat) / 65536)).toNat pr_) 114 0 (i_or (64 * ((S_.2.2.1 47 (0 + d1_) (i_or he_ ip_).toNat) / 65536)) ((S_.2.2.1 47 (0 + dd_) (i_or te_ ip_).toNat) / 65536)).toNat ip_) 115 0 tl_.toNat (i_or (64 * ((S_.2.2.1 47 (0 + d1_) (i_or he_ ip_).toNat) / 65536)) ((S_.2.2.1 47 (0 + dd_) (i_or te_ ip_).toNat) / 65536)))).2.2.1 113 0 j9_ = if j9_ = NN_.toNat then pr_ else S_.2.2.1 113 0 j9_ := fun j9_ => by rw [rd_ne (by decide), rd_ne (by decide), rd_eq, hNN_]
              have u9_ := cn1_up (f := pn2 (S_.2.2.1 113 0)) (g := pn2 (((sm_aI (sm_aI (sm_aI S_ 113 0 (i_or (64 * ((S_.2.2.1 47 (0 + d1_) (i_or he_ ip_).toNat) / 65536)) ((S_.2.2.1 47 (0 + dd_) (i_or te_ ip_).toNat) / 65536)).toNat pr_) 114 0 (i_or (64 * ((S_.2.2.1 47 (0 + d1_) (i_or he_ ip_).toNat) / 65536)) ((S_.2.2.1 47 (0 + dd_) (i_or te_ ip_).toNat) / 65536)).toNat ip_) 115 0 tl_.toNat (i_or (64 * ((S_.2.2.1 47 (0 + d1_) (i_or he_ ip_).toNat) / 65536)) ((S_.2.2.1 47 (0 + dd_) (i_or te_ ip_).toNat) / 65536)))).2.2.1 113 0)) (j := NN_.toNat) (fun y9_ => absurd (pn2_1.mp y9_) cx9_) (pn2_1.mpr (by rw [r2_, if_pos rfl]; omega)) (fun k9_ hk9_ => by unfold pn2; rw [r2_, if_neg hk9_]) (n := 4096) (by omega)
              rw [u9_]
              push_cast
              omega
            · omega
            · exact hh_
            · obtain ⟨NN_, hNN_⟩ : ∃ NN_, NN_ = i_or (64 * (S_.2.2.1 47 (0 + d1_) (i_or he_ ip_).toNat / 65536)) (S_.2.2.1 47 (0 + dd_) (i_or te_ ip_).toNat / 65536) := ⟨_, rfl⟩
              have cx9_ : ¬ (S_.2.2.1 113 0 NN_.toNat ≠ -2) := by (rw [hNN_]; exact cx10_)
              have r1_ : ∀ j9_, ((sm_aI (sm_aI (sm_aI S_ 113 0 (i_or (64 * ((S_.2.2.1 47 (0 + d1_) (i_or he_ ip_).toNat) / 65536)) ((S_.2.2.1 47 (0 + dd_) (i_or te_ ip_).toNat) / 65536)).toNat pr_) 114 0 (i_or (64 * ((S_.2.2.1 47 (0 + d1_) (i_or he_ ip_).toNat) / 65536)) ((S_.2.2.1 47 (0 + dd_) (i_or te_ ip_).toNat) / 65536)).toNat ip_) 115 0 tl_.toNat (i_or (64 * ((S_.2.2.1 47 (0 + d1_) (i_or he_ ip_).toNat) / 65536)) ((S_.2.2.1 47 (0 + dd_) (i_or te_ ip_).toNat) / 65536)))).2.2.1 115 0 j9_ = if j9_ = tl_.toNat then NN_ else S_.2.2.1 115 0 j9_ := fun j9_ => by rw [rd_eq, rd_ne (by decide), rd_ne (by decide), hNN_]
              have r2_ : ∀ j9_, ((sm_aI (sm_aI (sm_aI S_ 113 0 (i_or (64 * ((S_.2.2.1 47 (0 + d1_) (i_or he_ ip_).toNat) / 65536)) ((S_.2.2.1 47 (0 + dd_) (i_or te_ ip_).toNat) / 65536)).toNat pr_) 114 0 (i_or (64 * ((S_.2.2.1 47 (0 + d1_) (i_or he_ ip_).toNat) / 65536)) ((S_.2.2.1 47 (0 + dd_) (i_or te_ ip_).toNat) / 65536)).toNat ip_) 115 0 tl_.toNat (i_or (64 * ((S_.2.2.1 47 (0 + d1_) (i_or he_ ip_).toNat) / 65536)) ((S_.2.2.1 47 (0 + dd_) (i_or te_ ip_).toNat) / 65536)))).2.2.1 113 0 j9_ = if j9_ = NN_.toNat then pr_ else S_.2.2.1 113 0 j9_ := fun j9_ => by rw [rd_ne (by decide), rd_ne (by decide), rd_eq, hNN_]
              rw [r2_]
              refine ⟨?_, hz_.2⟩
              split
              · omega
              · exact hz_.1
            · omega
        · have cx8_ : ¬ ((i_and (i_xor (S_.2.2.1 47 (0 + d1_) (i_or he_ ip_).toNat) (S_.2.2.1 47 (0 + dd_) (i_or te_ ip_).toNat)) mk_) = 0) := of_decide_eq_false cx8_
          refine sm_T_go 3 (c1 := (146, [some (.inr (.inr (some (12, 0)))), some (.inr (.inr (some (47, (0 + d1_))))), some (.inl bg_), some (.inr (.inr (some (3, dd_)))), some (.inl mk_), some (.inl ip9_), none, some (.inl tl_), some (.inl hd9_), some (.inl pr_), some (.inl he_), some (.inl te_), some (.inl ip_), some (.inl (S_.2.2.1 47 (0 + d1_) (i_or he_ ip_).toNat)), some (.inl (S_.2.2.1 47 (0 + dd_) (i_or te_ ip_).toNat)), none], [.inl ip_, .inl pr_, .inr (.inr (some (12, 0)))], S_)) rfl ?_
          refine sm_T_cal (d1 := 0) (Q1 := vq_277 pr_ ip_ S_) rfl rfl (by decide) (vc_277 pr_ ip_ S_ hI_ (by exact hp_) (by omega) (by omega) (by exact hz_.1)) (fun u_ Sx17_ px20_ => ?_)
          obtain ⟨rfl, hIx18_, hFx19_, px20_⟩ := px20_
          have hFx21_ : ai_fr (sx_W vw_276d) S0_ Sx17_ := ai_fr_tr hF_ (fr_le hFx19_ rfl)
          have bx22_ : 0 ≤ Sx17_.1 12 0 16 ∧ Sx17_.1 12 0 16 ≤ 4096 := hIx18_.1 12 0 16 rfl
          refine sm_T_go 2 (c1 := (153, [some (.inr (.inr (some (12, 0)))), some (.inr (.inr (some (47, (0 + d1_))))), some (.inl bg_), some (.inr (.inr (some (3, dd_)))), some (.inl mk_), some (.inl ip9_), none, some (.inl tl_), some (.inl hd9_), some (.inl pr_), some (.inl he_), some (.inl te_), some (.inl ip_), some (.inl (S_.2.2.1 47 (0 + d1_) (i_or he_ ip_).toNat)), some (.inl (S_.2.2.1 47 (0 + dd_) (i_or te_ ip_).toNat)), none], [.inl (Sx17_.1 12 0 16)], Sx17_)) rfl ?_
          refine sm_T_ri rfl ⟨_, _, rfl, _, rfl, hIx18_, hFx21_, ?_⟩
          trivial
set_option maxHeartbeats 2000000 in
set_option maxRecDepth 20000 in
theorem vc_276d {sc_ : Nat × (Nat → Int)} (bg_ : Int) (mk_ : Int) (d1_ : Nat) (dd_ : Nat) (R1_ : Nat) (S0_ : sm_S) (hI_ : gi S0_) (hd_ : dOk dd_ S0_) (hb_ : 0 ≤ bg_ ∧ bg_ < 2 ^ R1_) (hr_ : R1_ ≤ 6 ∧ (R1_ : Int) + S0_.1 3 dd_ 1 ≤ 12) (ht_ : ∀ p9_ : Nat, p9_ < 4096 → 0 ≤ S0_.2.2.1 47 (0 + d1_) p9_ ∧ S0_.2.2.1 47 (0 + d1_) p9_ < 2 ^ (16 + R1_)) : sm_T (mt_P sc_) 1 276 (0, [some (.inr (.inr (some (12, 0)))), some (.inr (.inr (some (47, (0 + d1_))))), some (.inl bg_), some (.inr (.inr (some (3, dd_)))), some (.inl mk_), none, none, none, none, none, none, none, none, none, none, none], [], S0_) (fun ro9_ => ∃ u_ S1_, ro9_ = (.inl u_, S1_, 0) ∧ vq_276d bg_ mk_ d1_ dd_ R1_ S0_ u_ S1_) := by
  have hF_ : ai_fr (sx_W vw_276d) S0_ S0_ := ai_fr_rf
  have J9_ := dOk_b hd_
  have J9a := J9_.1
  have J9b := J9_.2.1
  have J9c := J9_.2.2.1
  have J9t := J9_.2.2.2.2
  have wa_ := pw_le (n := R1_) (m := 6) (by omega)
  have wb_ := pw_le (n := (S0_.1 3 dd_ 2).toNat) (m := 6) (by omega)
  have wc_ := pw_pos R1_
  have wd_ := pw_pos (S0_.1 3 dd_ 2).toNat
  have hIx1_ : gi (sm_pI S0_ 12 0 16 0) := gi_pI hI_ (show 0 ≤ 0 ∧ 0 ≤ 4096 from ⟨by omega, by omega⟩)
  have hFx2_ : ai_fr (sx_W vw_276d) S0_ (sm_pI S0_ 12 0 16 0) := ai_fr_tr hF_ (ai_fr_pI rfl)
  have bx3_ : 0 ≤ S0_.1 3 dd_ 1 ∧ S0_.1 3 dd_ 1 ≤ 320 := hI_.1 3 dd_ 1 rfl
  refine sm_T_go 9 (c1 := (17, [some (.inr (.inr (some (12, 0)))), some (.inr (.inr (some (47, (0 + d1_))))), some (.inl bg_), some (.inr (.inr (some (3, dd_)))), some (.inl mk_), some (.inl (S0_.1 3 dd_ 1)), none, none, none, none, none, none, none, none, none, none], [.inl (-2), .inr (.inr (some (113, 0)))], sm_pI S0_ 12 0 16 0)) rfl ?_
  refine sm_T_cal (d1 := 0) (Q1 := vq_2p (-2) (sm_pI S0_ 12 0 16 0)) rfl rfl (by decide) (vc_2p (-2) (sm_pI S0_ 12 0 16 0) hIx1_ (by decide)) (fun u_ Sx4_ px7_ => ?_)
  obtain ⟨rfl, hIx5_, hFx6_, px7_⟩ := px7_
  have hFx8_ : ai_fr (sx_W vw_276d) S0_ Sx4_ := ai_fr_tr hFx2_ (fr_le hFx6_ rfl)
  have e17_ := px7_
  have q5_ := hFx6_.1 3 dd_ 5 rfl
  have q1_ := hFx6_.1 3 dd_ 1 rfl
  simp only [rf_nt, rf_nk, ne_eq, Nat.reduceEqDiff, not_false_eq_true] at q5_ q1_
  refine sm_T_go 2 (c1 := (23, [some (.inr (.inr (some (12, 0)))), some (.inr (.inr (some (47, (0 + d1_))))), some (.inl bg_), some (.inr (.inr (some (3, dd_)))), some (.inl mk_), some (.inl (S0_.1 3 dd_ 1)), none, none, none, none, none, none, none, none, none, none], [.inl 6, .inl bg_], Sx4_)) rfl ?_
  refine sm_T_bin (w := 64 * bg_) rfl (bi_shl (k := 6) (by decide) (by omega) (by omega) (by omega)) ?_ -- pc_ 23
  have bx9_ : 0 ≤ Sx4_.1 3 dd_ 5 ∧ Sx4_.1 3 dd_ 5 ≤ 63 := hIx5_.1 3 dd_ 5 rfl
  refine sm_T_go 2 (c1 := (28, [some (.inr (.inr (some (12, 0)))), some (.inr (.inr (some (47, (0 + d1_))))), some (.inl bg_), some (.inr (.inr (some (3, dd_)))), some (.inl mk_), some (.inl (S0_.1 3 dd_ 1)), none, none, none, none, none, none, none, none, none, none], [.inl (Sx4_.1 3 dd_ 5), .inl (64 * bg_)], Sx4_)) rfl ?_
  refine sm_T_bin (w := (i_or (64 * bg_) (Sx4_.1 3 dd_ 5))) rfl rfl ?_ -- pc_ 28
  have bx10_ := or64 (a_ := bg_) (b_ := (Sx4_.1 3 dd_ 5)) (by omega) (by omega)
  refine sm_T_go 5 (c1 := (38, [some (.inr (.inr (some (12, 0)))), some (.inr (.inr (some (47, (0 + d1_))))), some (.inl bg_), some (.inr (.inr (some (3, dd_)))), some (.inl mk_), some (.inl (S0_.1 3 dd_ 1)), some (.inl (i_or (64 * bg_) (Sx4_.1 3 dd_ 5))), none, none, none, none, none, none, none, none, none], [.inl (-1), .inl (i_or (64 * bg_) (Sx4_.1 3 dd_ 5)), .inr (.inr (some (113, 0)))], Sx4_)) rfl ?_
  refine sm_T_iast (n := 4096) rfl rfl (by omega) (by omega) ?_
  have hIx11_ : gi (sm_aI Sx4_ 113 0 (i_or (64 * bg_) (Sx4_.1 3 dd_ 5)).toNat (-1)) := gi_aI hIx5_ (show (-2) ≤ (-1) ∧ (-1) ≤ 4095 from ⟨by omega, by omega⟩)
  have hFx12_ : ai_fr (sx_W vw_276d) S0_ (sm_aI Sx4_ 113 0 (i_or (64 * bg_) (Sx4_.1 3 dd_ 5)).toNat (-1)) := ai_fr_tr hFx8_ (ai_fr_aI rfl)
  refine sm_T_go 4 (c1 := (46, [some (.inr (.inr (some (12, 0)))), some (.inr (.inr (some (47, (0 + d1_))))), some (.inl bg_), some (.inr (.inr (some (3, dd_)))), some (.inl mk_), some (.inl (S0_.1 3 dd_ 1)), some (.inl (i_or (64 * bg_) (Sx4_.1 3 dd_ 5))), none, none, none, none, none, none, none, none, none], [.inl (i_or (64 * bg_) (Sx4_.1 3 dd_ 5)), .inl 0, .inr (.inr (some (115, 0)))], sm_aI Sx4_ 113 0 (i_or (64 * bg_) (Sx4_.1 3 dd_ 5)).toNat (-1))) rfl ?_
  refine sm_T_iast (n := 4096) rfl rfl (by omega) (by omega) ?_
  have hIx13_ : gi (sm_aI (sm_aI Sx4_ 113 0 (i_or (64 * bg_) (Sx4_.1 3 dd_ 5)).toNat (-1)) 115 0 (0 : Int).toNat (i_or (64 * bg_) (Sx4_.1 3 dd_ 5))) := gi_aI hIx11_ (show 0 ≤ (i_or (64 * bg_) (Sx4_.1 3 dd_ 5)) ∧ (i_or (64 * bg_) (Sx4_.1 3 dd_ 5)) ≤ 4095 from ⟨by omega, by omega⟩)
  have hFx14_ : ai_fr (sx_W vw_276d) S0_ (sm_aI (sm_aI Sx4_ 113 0 (i_or (64 * bg_) (Sx4_.1 3 dd_ 5)).toNat (-1)) 115 0 (0 : Int).toNat (i_or (64 * bg_) (Sx4_.1 3 dd_ 5))) := ai_fr_tr hFx12_ (ai_fr_aI rfl)
  refine sm_T_go 4 (c1 := (53, [some (.inr (.inr (some (12, 0)))), some (.inr (.inr (some (47, (0 + d1_))))), some (.inl bg_), some (.inr (.inr (some (3, dd_)))), some (.inl mk_), some (.inl (S0_.1 3 dd_ 1)), some (.inl (i_or (64 * bg_) (Sx4_.1 3 dd_ 5))), some (.inl 1), some (.inl 0), none, none, none, none, none, none, none], [], sm_aI (sm_aI Sx4_ 113 0 (i_or (64 * bg_) (Sx4_.1 3 dd_ 5)).toNat (-1)) 115 0 (0 : Int).toNat (i_or (64 * bg_) (Sx4_.1 3 dd_ 5)))) rfl ?_
  refine sm_T_wk [some (.inr (.inr (some (12, 0)))), some (.inr (.inr (some (47, (0 + d1_))))), some (.inl bg_), some (.inr (.inr (some (3, dd_)))), some (.inl mk_), some (.inl (S0_.1 3 dd_ 1)), none, some (.inl 1), some (.inl 0), none, none, none, none, none, none, none] (by exact ⟨rfl, rfl, rfl, rfl, rfl, rfl, rfl, rfl, trivial⟩) ?_
  refine (vl_276d bg_ mk_ d1_ dd_ R1_ S0_ hd_ hb_ hr_ ht_ _).1 (S0_.1 3 dd_ 1) 1 0 (sm_aI (sm_aI Sx4_ 113 0 (i_or (64 * bg_) (Sx4_.1 3 dd_ 5)).toNat (-1)) 115 0 (0 : Int).toNat (i_or (64 * bg_) (Sx4_.1 3 dd_ 5))) hIx13_ hFx14_ ⟨?_, ?_, ?_, ?_, trivial⟩ (Nat.lt_succ_self _)
  · obtain ⟨FF_, hFF_⟩ : ∃ FF_, FF_ = i_or (64 * bg_) (Sx4_.1 3 dd_ 5) := ⟨_, rfl⟩
    have r1_ : ((sm_aI (sm_aI Sx4_ 113 0 (i_or (64 * bg_) (Sx4_.1 3 dd_ 5)).toNat (-1)) 115 0 (0 : Int).toNat (i_or (64 * bg_) (Sx4_.1 3 dd_ 5)))).2.2.1 115 0 0 = FF_ := by (rw [rd_eq, if_pos (by decide)]; exact hFF_.symm)
    have r2_ : ∀ j9_, ((sm_aI (sm_aI Sx4_ 113 0 (i_or (64 * bg_) (Sx4_.1 3 dd_ 5)).toNat (-1)) 115 0 (0 : Int).toNat (i_or (64 * bg_) (Sx4_.1 3 dd_ 5)))).2.2.1 113 0 j9_ = if j9_ = FF_.toNat then (-1) else Sx4_.2.2.1 113 0 j9_ := fun j9_ => by rw [rd_ne (by decide), rd_eq, hFF_]
    intro j9_ hj9_ w9_
    rw [r2_] at w9_ ⊢
    left
    by_cases z9_ : j9_ = FF_.toNat
    · rw [if_pos z9_]
    · rw [if_neg z9_, e17_ j9_ hj9_] at w9_
      exact absurd rfl w9_
  · obtain ⟨FF_, hFF_⟩ : ∃ FF_, FF_ = i_or (64 * bg_) (Sx4_.1 3 dd_ 5) := ⟨_, rfl⟩
    have r1_ : ((sm_aI (sm_aI Sx4_ 113 0 (i_or (64 * bg_) (Sx4_.1 3 dd_ 5)).toNat (-1)) 115 0 (0 : Int).toNat (i_or (64 * bg_) (Sx4_.1 3 dd_ 5)))).2.2.1 115 0 0 = FF_ := by (rw [rd_eq, if_pos (by decide)]; exact hFF_.symm)
    have r2_ : ∀ j9_, ((sm_aI (sm_aI Sx4_ 113 0 (i_or (64 * bg_) (Sx4_.1 3 dd_ 5)).toNat (-1)) 115 0 (0 : Int).toNat (i_or (64 * bg_) (Sx4_.1 3 dd_ 5)))).2.2.1 113 0 j9_ = if j9_ = FF_.toNat then (-1) else Sx4_.2.2.1 113 0 j9_ := fun j9_ => by rw [rd_ne (by decide), rd_eq, hFF_]
    intro j9_ hj9_
    have z9_ : j9_ = 0 := by omega
    rw [z9_, r1_, r2_, if_pos rfl]
    exact ⟨by decide, by omega, by omega⟩
  · obtain ⟨FF_, hFF_⟩ : ∃ FF_, FF_ = i_or (64 * bg_) (Sx4_.1 3 dd_ 5) := ⟨_, rfl⟩
    have r1_ : ((sm_aI (sm_aI Sx4_ 113 0 (i_or (64 * bg_) (Sx4_.1 3 dd_ 5)).toNat (-1)) 115 0 (0 : Int).toNat (i_or (64 * bg_) (Sx4_.1 3 dd_ 5)))).2.2.1 115 0 0 = FF_ := by (rw [rd_eq, if_pos (by decide)]; exact hFF_.symm)
    have r2_ : ∀ j9_, ((sm_aI (sm_aI Sx4_ 113 0 (i_or (64 * bg_) (Sx4_.1 3 dd_ 5)).toNat (-1)) 115 0 (0 : Int).toNat (i_or (64 * bg_) (Sx4_.1 3 dd_ 5)))).2.2.1 113 0 j9_ = if j9_ = FF_.toNat then (-1) else Sx4_.2.2.1 113 0 j9_ := fun j9_ => by rw [rd_ne (by decide), rd_eq, hFF_]
    rw [cn1_cg (g := fun k9_ : Nat => if k9_ = FF_.toNat then (1 : Int) else 0) (fun k9_ hk9_ => ?_), cn1_one (j := FF_.toNat) (fun k9_ => ?_) 4096, if_pos (by omega)]
    · rfl
    · constructor
      · intro y9_; by_cases y8_ : k9_ = FF_.toNat; exact y8_; (rw [if_neg y8_] at y9_; exact absurd y9_ (by decide))
      · intro y9_; exact if_pos y9_
    · unfold pn2
      rw [r2_]
      by_cases y9_ : k9_ = FF_.toNat
      · rw [if_pos y9_, if_pos y9_]; rfl
      · rw [if_neg y9_, if_neg y9_, e17_ k9_ hk9_]; rfl
  · omega
end
/-! 99.zj6 -/
section
/-! how many places of a row hold a value -/
def cne (f : Nat → Int) (c : Int) : Nat → Nat
  | 0 => 0
  | n + 1 => cne f c n + if f n = c then 1 else 0
theorem cne_s (f : Nat → Int) (c : Int) (n : Nat) : cne f c (n + 1) = cne f c n + if f n = c then 1 else 0 := rfl
theorem cne_le (f : Nat → Int) (c : Int) : ∀ n, cne f c n ≤ n
  | 0 => Nat.le_refl _
  | n + 1 => by
    have := cne_le f c n
    rw [cne_s]
    split <;> omega
theorem cne_mo {f : Nat → Int} {c : Int} {n : Nat} : ∀ {m : Nat}, n ≤ m → cne f c n ≤ cne f c m
  | 0, h => by rw [show n = 0 by omega]; exact Nat.le_refl _
  | m + 1, h => by
    by_cases z : n = m + 1
    · rw [z]; exact Nat.le_refl _
    · have := cne_mo (f := f) (c := c) (n := n) (m := m) (by omega)
      rw [cne_s]
      exact Nat.le_trans this (Nat.le_add_right _ _)
theorem cne_cg {f g : Nat → Int} {c : Int} : ∀ {n : Nat}, (∀ k, k < n → f k = g k) → cne f c n = cne g c n
  | 0, _ => rfl
  | n + 1, h => by
    rw [cne_s, cne_s, cne_cg (fun k hk => h k (by omega)), h n (by omega)]
theorem cne_up {f g : Nat → Int} {c : Int} {j : Nat} (h0 : f j ≠ c) (h1 : g j = c) (hg : ∀ k, k ≠ j → g k = f k) : ∀ {n : Nat}, j < n → cne g c n = cne f c n + 1
  | 0, h => absurd h (Nat.not_lt_zero _)
  | n + 1, h => by
    rw [cne_s, cne_s]
    by_cases z : j = n
    · subst z
      rw [cne_cg (g := f) (fun k hk => hg k (by omega)), if_pos h1, if_neg h0]
    · rw [cne_up h0 h1 hg (n := n) (by omega), hg n (fun e => z e.symm)]
      omega
theorem cne_ot {f g : Nat → Int} {c : Int} {j : Nat} (h0 : f j ≠ c) (h1 : g j ≠ c) (hg : ∀ k, k ≠ j → g k = f k) : ∀ {n : Nat}, cne g c n = cne f c n
  | 0 => rfl
  | n + 1 => by
    rw [cne_s, cne_s, cne_ot h0 h1 hg (n := n)]
    by_cases z : n = j
    · rw [z, if_neg h1, if_neg h0]
    · rw [hg n z]
theorem cne_lt {f : Nat → Int} {c : Int} {j : Nat} (h0 : f j ≠ c) : ∀ {n : Nat}, j < n → cne f c n < n
  | 0, h => absurd h (Nat.not_lt_zero _)
  | n + 1, h => by
    rw [cne_s]
    by_cases z : j = n
    · subst z
      have := cne_le f c j
      rw [if_neg h0]
      omega
    · have := cne_lt h0 (n := n) (by omega)
      split <;> omega
theorem cne_st {f : Nat → Int} {c : Int} {j : Nat} (h1 : f j = c) {n : Nat} (h : j < n) : cne f c j < cne f c n := by
  have q := cne_mo (f := f) (c := c) (n := j + 1) (m := n) h
  rw [cne_s] at q
  rw [if_pos h1] at q
  omega
theorem cne_0 {f : Nat → Int} {c : Int} : ∀ {n : Nat}, (∀ k, k < n → f k ≠ c) → cne f c n = 0
  | 0, _ => rfl
  | n + 1, h => by
    rw [cne_s, cne_0 (fun k hk => h k (by omega)), if_neg (h n (by omega))]
/-- the places of all values below m -/
def scn (f : Nat → Int) (n : Nat) : Nat → Nat
  | 0 => 0
  | m + 1 => scn f n m + cne f (m : Int) n
theorem scn_s {f : Nat → Int} {n : Nat} : ∀ (m : Nat), scn f (n + 1) m = scn f n m + if 0 ≤ f n ∧ f n < (m : Int) then 1 else 0
  | 0 => by
    show 0 = 0 + _
    rw [if_neg (by omega)]
  | m + 1 => by
    show scn f (n + 1) m + cne f (m : Int) (n + 1) = scn f n m + cne f (m : Int) n + _
    rw [scn_s m]
    rw [cne_s]
    by_cases z : f n = (m : Int)
    · rw [if_pos z, if_neg (by omega), if_pos (by omega)]
      omega
    · rw [if_neg z]
      by_cases y : 0 ≤ f n ∧ f n < (m : Int)
      · rw [if_pos y, if_pos (by omega)]; omega
      · rw [if_neg y, if_neg (by omega)]; omega
theorem scn_0 {f : Nat → Int} : ∀ (m : Nat), scn f 0 m = 0
  | 0 => rfl
  | m + 1 => by
    show scn f 0 m + 0 = 0
    rw [scn_0 m]
theorem scn_le {f : Nat → Int} (m : Nat) : ∀ (n : Nat), scn f n m ≤ n
  | 0 => by rw [scn_0]; exact Nat.le_refl _
  | n + 1 => by
    have := scn_le (f := f) m n
    rw [scn_s]
    split <;> omega
theorem scn_mo {f : Nat → Int} {n a : Nat} : ∀ {b : Nat}, a < b → scn f n a + cne f (a : Int) n ≤ scn f n b
  | 0, h => absurd h (Nat.not_lt_zero _)
  | b + 1, h => by
    show _ ≤ scn f n b + cne f (b : Int) n
    by_cases z : a = b
    · rw [z]; exact Nat.le_refl _
    · have := scn_mo (f := f) (n := n) (a := a) (b := b) (by omega)
      omega
end
/-! 99.zj7a -/
section
/-! pins of a board; written by wip/p55/gen/vg -/

/-! pins of_ a_ board -/
/-- each net's pins are_ counted -/
def bcn (ii_ : Nat) (S_ : sm_S) : Prop := ∀ c_ : Nat, c_ < 162 → S_.2.2.1 20 (0 + ii_) c_ = (cne (S_.2.2.1 17 (0 + ii_)) (c_ : Int) 652 : Int)
/-- the_ pins stand by their nets -/
def bpn (ii_ : Nat) (S_ : sm_S) : Prop := ∀ c_ : Nat, c_ < 162 → S_.2.2.1 19 (0 + ii_) c_ + S_.2.2.1 20 (0 + ii_) c_ ≤ 652 ∧ ∀ k_ : Nat, (k_ : Int) < S_.2.2.1 20 (0 + ii_) c_ → S_.2.2.1 17 (0 + ii_) (S_.2.2.1 18 (0 + ii_) ((S_.2.2.1 19 (0 + ii_) c_).toNat + k_)).toNat = (c_ : Int)
theorem bcn_set {ii_ : Nat} {S_ : sm_S} {x_ v_ : Int} (h_ : bcn ii_ S_) (h1_ : 0 ≤ x_ ∧ x_ ≤ 651) (h2_ : 0 ≤ v_ ∧ v_ ≤ 161) (hf_ : S_.2.2.1 17 (0 + ii_) x_.toNat = -1) : bcn ii_ (sm_aI (sm_aI S_ 17 (0 + ii_) x_.toNat v_) 20 (0 + ii_) v_.toNat (S_.2.2.1 20 (0 + ii_) v_.toNat + 1)) ∧ ∀ j_, (sm_aI (sm_aI S_ 17 (0 + ii_) x_.toNat v_) 20 (0 + ii_) v_.toNat (S_.2.2.1 20 (0 + ii_) v_.toNat + 1)).2.2.1 17 (0 + ii_) j_ = if 0 ≤ v_ ∧ j_ = x_.toNat then v_ else S_.2.2.1 17 (0 + ii_) j_ := by
  have r1_ : ∀ j_, (sm_aI (sm_aI S_ 17 (0 + ii_) x_.toNat v_) 20 (0 + ii_) v_.toNat (S_.2.2.1 20 (0 + ii_) v_.toNat + 1)).2.2.1 17 (0 + ii_) j_ = if 0 ≤ v_ ∧ j_ = x_.toNat then v_ else S_.2.2.1 17 (0 + ii_) j_ := by
    intro j_
    rw [rd_ne (by decide), rd_eq]
    by_cases z_ : j_ = x_.toNat
    · rw [if_pos z_, if_pos ⟨h2_.1, z_⟩]
    · rw [if_neg z_, if_neg (fun q_ => z_ q_.2)]
  refine ⟨fun c_ hc_ => ?_, r1_⟩
  rw [rd_eq]
  by_cases z_ : c_ = v_.toNat
  · rw [if_pos z_, cne_up (f := S_.2.2.1 17 (0 + ii_)) (j := x_.toNat) (by omega) (by rw [r1_, if_pos ⟨h2_.1, rfl⟩]; omega) (fun k_ hk_ => by rw [r1_, if_neg (fun q_ => hk_ q_.2)]) (n := 652) (by omega)]
    have w_ := h_ c_ hc_
    rw [z_] at w_ ⊢
    push_cast
    omega
  · rw [if_neg z_, rd_ne (by decide), h_ c_ hc_]
    exact congrArg _ (cne_ot (f := S_.2.2.1 17 (0 + ii_)) (g := (sm_aI (sm_aI S_ 17 (0 + ii_) x_.toNat v_) 20 (0 + ii_) v_.toNat (S_.2.2.1 20 (0 + ii_) v_.toNat + 1)).2.2.1 17 (0 + ii_)) (j := x_.toNat) (by omega) (by rw [r1_, if_pos ⟨h2_.1, rfl⟩]; omega) (fun k_ hk_ => by rw [r1_, if_neg (fun q_ => hk_ q_.2)]) (n := 652)).symm
/-! Board.setPin -/
def vw_12 : sx_Wl := ([], [17, 20], [])
def vq_12 (a1_ : Int) (a2_ : Int) (ii_ : Nat) (S0_ : sm_S) (u_ : Option sm_V) (S1_ : sm_S) : Prop := u_ = none ∧ gi S1_ ∧ ai_fr (sx_W vw_12) S0_ S1_ ∧ (cdf ii_ S0_ S1_ ∧ (bcn ii_ S1_ ∧ ∀ j_, S1_.2.2.1 17 (0 + ii_) j_ = if 0 ≤ a2_ ∧ j_ = a1_.toNat then a2_ else S0_.2.2.1 17 (0 + ii_) j_))
set_option maxHeartbeats 400000 in
theorem vc_12 {sc_ : Nat × (Nat → Int)} (a1_ : Int) (a2_ : Int) (ii_ : Nat) (S0_ : sm_S) (hI_ : gi S0_) (h1_ : 0 ≤ a1_ ∧ a1_ ≤ 651) (h2_ : -2 ≤ a2_ ∧ a2_ ≤ 161) (hcn_ : bcn ii_ S0_) (hf_ : S0_.2.2.1 17 (0 + ii_) a1_.toNat = -1) : sm_T (mt_P sc_) 0 12 (0, [some (.inr (.inr (some (0, ii_)))), some (.inl a1_), some (.inl a2_)], [], S0_) (fun ro9_ => ∃ u_ S1_, ro9_ = (.inl u_, S1_, 0) ∧ vq_12 a1_ a2_ ii_ S0_ u_ S1_) := by
  have hF_ : ai_fr (sx_W vw_12) S0_ S0_ := ai_fr_rf
  have hC_ : cdf ii_ S0_ S0_ := cdf_rf
  refine sm_T_go 1 (c1 := (1, [some (.inr (.inr (some (0, ii_)))), some (.inl a1_), some (.inl a2_)], [.inl a2_], S0_)) rfl ?_
  refine sm_T_b0 (a := 2) (z := 20) rfl (fun cx1_ => ?_) (fun cx1_ => ?_)
  · have cx1_ : a2_ < 0 := of_decide_eq_true cx1_
    refine sm_T_rv rfl ⟨_, _, rfl, rfl, hI_, hF_, ?_⟩
    refine ⟨hC_, ?_⟩
    first | exact ⟨hcn_, fun j_ => by rw [if_neg (by omega)]⟩ | exact bcn_set hcn_ (by omega) (by omega) hf_
  · have cx1_ : ¬ (a2_ < 0) := of_decide_eq_false cx1_
    have ct : (cne (S0_.2.2.1 17 (0 + ii_)) a2_ 652 : Int) < 652 := by have z_ := cne_lt (f := S0_.2.2.1 17 (0 + ii_)) (c := a2_) (j := a1_.toNat) (by omega) (n := 652) (by omega); omega
    have ce_ := hcn_ a2_.toNat (by omega)
    rw [show ((a2_.toNat : Nat) : Int) = a2_ by omega] at ce_
    refine sm_T_go 4 (c1 := (10, [some (.inr (.inr (some (0, ii_)))), some (.inl a1_), some (.inl a2_)], [.inl a2_, .inl a1_, .inr (.inr (some (17, (0 + ii_))))], S0_)) rfl ?_
    refine sm_T_iast (n := 652) rfl rfl (by omega) (by omega) ?_
    have hIx2_ : gi (sm_aI S0_ 17 (0 + ii_) a1_.toNat a2_) := gi_aI hI_ (show (-1) ≤ a2_ ∧ a2_ ≤ 161 from ⟨by omega, by omega⟩)
    have hFx3_ : ai_fr (sx_W vw_12) S0_ (sm_aI S0_ 17 (0 + ii_) a1_.toNat a2_) := ai_fr_tr hF_ (ai_fr_aI rfl)
    have hCx4_ : cdf ii_ S0_ (sm_aI S0_ 17 (0 + ii_) a1_.toNat a2_) := cdf_aI hC_ (Or.inr (by rw [show cof 17 = 0 from rfl] <;> omega))
    refine sm_T_go 4 (c1 := (17, [some (.inr (.inr (some (0, ii_)))), some (.inl a1_), some (.inl a2_)], [.inl a2_, .inr (.inr (some (20, (0 + ii_)))), .inl a2_, .inr (.inr (some (20, (0 + ii_))))], sm_aI S0_ 17 (0 + ii_) a1_.toNat a2_)) rfl ?_
    refine sm_T_iald (n := 162) rfl rfl (by omega) (by omega) ?_
    have bx5_ : 0 ≤ S0_.2.2.1 20 (0 + ii_) a2_.toNat ∧ S0_.2.2.1 20 (0 + ii_) a2_.toNat ≤ 652 := hI_.2 20 (0 + ii_) _
    refine sm_T_go 1 (c1 := (19, [some (.inr (.inr (some (0, ii_)))), some (.inl a1_), some (.inl a2_)], [.inl 1, .inl (S0_.2.2.1 20 (0 + ii_) a2_.toNat), .inl a2_, .inr (.inr (some (20, (0 + ii_))))], sm_aI S0_ 17 (0 + ii_) a1_.toNat a2_)) rfl ?_
    refine sm_T_bin (w := (S0_.2.2.1 20 (0 + ii_) a2_.toNat) + 1) rfl (bi_add (by omega) (by omega) (by omega)) ?_ -- pc_ 19
    refine sm_T_iast (n := 162) rfl rfl (by omega) (by omega) ?_
    have hIx6_ : gi (sm_aI (sm_aI S0_ 17 (0 + ii_) a1_.toNat a2_) 20 (0 + ii_) a2_.toNat ((S0_.2.2.1 20 (0 + ii_) a2_.toNat) + 1)) := gi_aI hIx2_ (show 0 ≤ (S0_.2.2.1 20 (0 + ii_) a2_.toNat) + 1 ∧ (S0_.2.2.1 20 (0 + ii_) a2_.toNat) + 1 ≤ 652 from ⟨by omega, by omega⟩)
    have hFx7_ : ai_fr (sx_W vw_12) S0_ (sm_aI (sm_aI S0_ 17 (0 + ii_) a1_.toNat a2_) 20 (0 + ii_) a2_.toNat ((S0_.2.2.1 20 (0 + ii_) a2_.toNat) + 1)) := ai_fr_tr hFx3_ (ai_fr_aI rfl)
    have hCx8_ : cdf ii_ S0_ (sm_aI (sm_aI S0_ 17 (0 + ii_) a1_.toNat a2_) 20 (0 + ii_) a2_.toNat ((S0_.2.2.1 20 (0 + ii_) a2_.toNat) + 1)) := cdf_aI hCx4_ (Or.inr (by rw [show cof 20 = 0 from rfl] <;> omega))
    refine sm_T_rv rfl ⟨_, _, rfl, rfl, hIx6_, hFx7_, ?_⟩
    refine ⟨hCx8_, ?_⟩
    first | exact ⟨hcn_, fun j_ => by rw [if_neg (by omega)]⟩ | exact bcn_set hcn_ (by omega) (by omega) hf_
end
