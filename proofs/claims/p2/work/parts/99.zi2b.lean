/-! M_.sweep -/
def vw_354 : sx_Wl := ([], [172], [])
def vq_354 (F_ : Nat) (S0_ : sm_S) (u_ : Option sm_V) (S1_ : sm_S) : Prop := u_ = none ∧ gi S1_ ∧ ai_fr (sx_W vw_354) S0_ S1_ ∧ (rsw F_ S1_)
set_option maxHeartbeats 3000000 in
theorem vl_354 {sc_ : Nat × (Nat → Int)} (F_ : Nat) (S0_ : sm_S) (hg_ : rgr F_ S0_) (hfn_ : ∀ m9_ : Nat, (m9_ : Int) < S0_.1 13 0 37 → srw F_ m9_ 64 (-1) (S0_.2.2.1 140 0) (S0_.2.2.1 141 0) (S0_.2.2.2 171 0)) : ∀ nn_ : Nat, (∀ (n_ : Int) (S_ : sm_S), gi S_ → ai_fr (sx_W vw_354) S0_ S_ → ((0 ≤ n_ ∧ n_ ≤ S0_.1 13 0 37) ∧ (sw1 F_ 64 n_.toNat (-1) (S0_.2.2.1 140 0) (S0_.2.2.1 141 0) (S_.2.2.1 172 0) (S0_.2.2.2 171 0)) ∧ (0 < n_ → S_.2.2.1 172 0 0 = 0) ∧ True) → ((2000 * (1100 - n_) + 1500).toNat) < nn_ → sm_T (mt_P sc_) 1 354 (2, [some (.inr (.inr (some (13, 0)))), some (.inl n_), none, none, none], [], S_) (fun ro9_ => ∃ u_ S1_, ro9_ = (.inl u_, S1_, 0) ∧ vq_354 F_ S0_ u_ S1_)) ∧ (∀ (n_ : Int) (fd_ : Int) (m_ : Int) (S_ : sm_S), gi S_ → ai_fr (sx_W vw_354) S0_ S_ → ((0 ≤ n_ ∧ n_ < S0_.1 13 0 37 ∧ 0 ≤ m_ ∧ m_ ≤ n_) ∧ (sw1 F_ 64 n_.toNat (-1) (S0_.2.2.1 140 0) (S0_.2.2.1 141 0) (S_.2.2.1 172 0) (S0_.2.2.2 171 0)) ∧ (0 < n_ → S_.2.2.1 172 0 0 = 0) ∧ (rfn n_.toNat m_.toNat (S_.2.2.1 172 0) (S0_.2.2.2 171 0) fd_) ∧ True) → ((2000 * (1100 - n_) + 1400 - m_).toNat) < nn_ → sm_T (mt_P sc_) 1 354 (23, [some (.inr (.inr (some (13, 0)))), some (.inl n_), some (.inl fd_), some (.inl m_), none], [], S_) (fun ro9_ => ∃ u_ S1_, ro9_ = (.inl u_, S1_, 0) ∧ vq_354 F_ S0_ u_ S1_)) := by
  intro nn_
  induction nn_ with
  | zero => exact ⟨fun _ _ _ _ _ h_ => absurd h_ (Nat.not_lt_zero _), fun _ _ _ _ _ _ _ h_ => absurd h_ (Nat.not_lt_zero _)⟩
  | succ nn_ ih_ =>
    refine ⟨?_, ?_⟩
    · rintro n_ S_ hI_ hF_ ⟨h0_, h1_, h2_, -⟩ hm_
      have g1_ := hg_.1
      have g2_ := hg_.2.1
      have e37_ : S_.1 13 0 37 = S0_.1 13 0 37 := hF_.1 13 0 37 rfl
      have f71_ : S_.2.2.2 171 0 = S0_.2.2.2 171 0 := fr_lon hF_ rfl
      have gl_ := glo_r hg_
      have bx1_ : 0 ≤ S_.1 13 0 37 ∧ S_.1 13 0 37 ≤ 1014 := hI_.1 13 0 37 rfl
      refine sm_T_go 3 (c1 := (7, [some (.inr (.inr (some (13, 0)))), some (.inl n_), none, none, none], [.inl (S_.1 13 0 37), .inl n_], S_)) rfl ?_
      refine sm_T_br (a := 3) (z := 98) rfl (fun cx2_ => ?_) (fun cx2_ => ?_)
      · have cx2_ : (S_.1 13 0 37) ≤ n_ := of_decide_eq_true cx2_
        refine sm_T_rv rfl ⟨_, _, rfl, rfl, hI_, hF_, ?_⟩
        refine ⟨h2_ (by omega), fun m9_ hm9_ => ?_⟩
        rw [fr_arr (t := 140) (i := 0) hF_ rfl, fr_arr (t := 141) (i := 0) hF_ rfl]
        exact (h1_ m9_ (by omega)).1
      · have cx2_ : ¬ ((S_.1 13 0 37) ≤ n_) := of_decide_eq_false cx2_
        refine sm_T_go 5 (c1 := (17, [some (.inr (.inr (some (13, 0)))), some (.inl n_), none, none, none], [.inl n_, .inl 2, .inl n_, .inr (.inr (some (172, 0)))], S_)) rfl ?_
        refine sm_T_bin (w := 2 * n_) rfl (bi_mul (by omega) (by omega) (by omega)) ?_
        refine sm_T_iast (n := 2048) rfl rfl (by omega) (by omega) ?_
        have hIx3_ : gi (sm_aI S_ 172 0 n_.toNat (2 * n_)) := gi_aI hI_ (show 0 ≤ 2 * n_ ∧ 2 * n_ ≤ 2025 from ⟨by omega, by omega⟩)
        have hFx4_ : ai_fr (sx_W vw_354) S0_ (sm_aI S_ 172 0 n_.toNat (2 * n_)) := ai_fr_tr hF_ (ai_fr_aI rfl)
        refine sm_T_go 4 (c1 := (23, [some (.inr (.inr (some (13, 0)))), some (.inl n_), some (.inl 0), some (.inl 0), none], [], sm_aI S_ 172 0 n_.toNat (2 * n_))) rfl ?_
        refine ih_.2 n_ 0 0 (sm_aI S_ 172 0 n_.toNat (2 * n_)) hIx3_ hFx4_ ⟨?_, ?_, ?_, ?_, trivial⟩ ?_
        · omega
        · exact sw1_sf gl_ (by omega) h1_ (fun k9_ hk9_ => by rw [rd_eq, if_neg (by omega)])
        · (intro z9_; rw [rd_eq, if_neg (by omega)]; exact h2_ z9_)
        · exact Or.inl ⟨rfl, by rw [rd_eq, if_pos rfl]; omega, fun p9_ hp9_ => absurd hp9_ (Nat.not_lt_zero _)⟩
        · omega
    · rintro n_ fd_ m_ S_ hI_ hF_ ⟨h0_, h1_, h2_, h3_, -⟩ hm_
      have g1_ := hg_.1
      have g2_ := hg_.2.1
      have e37_ : S_.1 13 0 37 = S0_.1 13 0 37 := hF_.1 13 0 37 rfl
      have f71_ : S_.2.2.2 171 0 = S0_.2.2.2 171 0 := fr_lon hF_ rfl
      have gl_ := glo_r hg_
      refine sm_T_go 2 (c1 := (25, [some (.inr (.inr (some (13, 0)))), some (.inl n_), some (.inl fd_), some (.inl m_), none], [.inl n_, .inl m_], S_)) rfl ?_
      refine sm_T_br (a := 3) (z := 74) rfl (fun cx1_ => ?_) (fun cx1_ => ?_)
      · have cx1_ : n_ ≤ m_ := of_decide_eq_true cx1_
        refine sm_T_inc (a := 1) (z := 1) (v := n_) (w := n_ + 1) rfl rfl (by omega) (by omega) (by omega) ?_
        refine sm_T_go 1 (c1 := (2, [some (.inr (.inr (some (13, 0)))), some (.inl (n_ + 1)), some (.inl fd_), some (.inl m_), none], [], S_)) rfl ?_
        refine sm_T_wk [some (.inr (.inr (some (13, 0)))), some (.inl (n_ + 1)), none, none, none] (by exact ⟨rfl, rfl, trivial⟩) ?_
        refine ih_.1 (n_ + 1) S_ hI_ hF_ ⟨?_, ?_, ?_, trivial⟩ ?_
        · (clear h3_; omega)
        · rw [show (n_ + 1).toNat = n_.toNat + 1 by omega]
          have h4_ : ∃ f9_, rfn n_.toNat n_.toNat (S_.2.2.1 172 0) (S0_.2.2.2 171 0) f9_ := by (rcases h3_ with z9_ | z9_; (refine ⟨0, Or.inl ⟨rfl, z9_.2.1, ?_⟩⟩; rw [show n_.toNat = m_.toNat by have := z9_.1; omega]; rw [show n_.toNat = m_.toNat by have := z9_.1; omega] at z9_; exact z9_.2.2); (exact ⟨1, Or.inr ⟨rfl, z9_.2⟩⟩))
          obtain ⟨f9_, h5_⟩ := h4_
          exact sw_rf gl_ g1_.2.1 (by omega) h1_ (fun z9_ => h2_ (by omega)) (fun m9_ hm9_ => hfn_ m9_ (by omega)) h5_
        · intro z9_
          by_cases n0_ : n_ = 0
          · have b9_ := rfn_b h3_; rcases h3_ with y9_ | ⟨-, p9_, t9_, y1_, -⟩; (have := y9_.2.1; rw [show n_.toNat = 0 by omega] at this; omega); (have := y1_.1; omega)
          · exact h2_ (by omega)
        · (clear h3_; omega)
      · have cx1_ : ¬ (n_ ≤ m_) := of_decide_eq_false cx1_
        refine sm_T_go 1 (c1 := (29, [some (.inr (.inr (some (13, 0)))), some (.inl n_), some (.inl fd_), some (.inl m_), none], [.inl fd_], S_)) rfl ?_
        refine sm_T_b0 (a := 1) (z := 70) rfl (fun cx2_ => ?_) (fun cx2_ => ?_)
        · have cx2_ : fd_ ≠ 0 := of_decide_eq_true cx2_
          refine sm_T_inc (a := 1) (z := 1) (v := n_) (w := n_ + 1) rfl rfl (by omega) (by omega) (by omega) ?_
          refine sm_T_go 1 (c1 := (2, [some (.inr (.inr (some (13, 0)))), some (.inl (n_ + 1)), some (.inl fd_), some (.inl m_), none], [], S_)) rfl ?_
          refine sm_T_wk [some (.inr (.inr (some (13, 0)))), some (.inl (n_ + 1)), none, none, none] (by exact ⟨rfl, rfl, trivial⟩) ?_
          refine ih_.1 (n_ + 1) S_ hI_ hF_ ⟨?_, ?_, ?_, trivial⟩ ?_
          · (clear h3_; omega)
          · rw [show (n_ + 1).toNat = n_.toNat + 1 by omega]
            have h4_ : ∃ f9_, rfn n_.toNat n_.toNat (S_.2.2.1 172 0) (S0_.2.2.2 171 0) f9_ := by (rcases h3_ with z9_ | z9_; (refine ⟨0, Or.inl ⟨rfl, z9_.2.1, ?_⟩⟩; rw [show n_.toNat = m_.toNat by have := z9_.1; omega]; rw [show n_.toNat = m_.toNat by have := z9_.1; omega] at z9_; exact z9_.2.2); (exact ⟨1, Or.inr ⟨rfl, z9_.2⟩⟩))
            obtain ⟨f9_, h5_⟩ := h4_
            exact sw_rf gl_ g1_.2.1 (by omega) h1_ (fun z9_ => h2_ (by omega)) (fun m9_ hm9_ => hfn_ m9_ (by omega)) h5_
          · intro z9_
            by_cases n0_ : n_ = 0
            · have b9_ := rfn_b h3_; rcases h3_ with y9_ | ⟨-, p9_, t9_, y1_, -⟩; (have := y9_.2.1; rw [show n_.toNat = 0 by omega] at this; omega); (have := y1_.1; omega)
            · exact h2_ (by omega)
          · (clear h3_; omega)
        · have cx2_ : ¬ (fd_ ≠ 0) := of_decide_eq_false cx2_
          have f0_ : fd_ = 0 := by omega
          obtain ⟨y1_, y2_⟩ : S_.2.2.1 172 0 n_.toNat = 2 * ((n_.toNat : Nat) : Int) ∧ ∀ p_, p_ < m_.toNat → sPn (S_.2.2.1 172 0) n_.toNat p_ → ∀ t_, tmk (-1) t_ → ¬ lik 64 (S0_.2.2.2 171 0) n_.toNat p_ t_ := by rcases h3_ with z9_ | z9_; exact z9_.2; (exfalso; have := z9_.1; omega)
          have sfb_ : 0 ≤ S_.2.2.1 172 0 n_.toNat ∧ S_.2.2.1 172 0 n_.toNat ≤ 2025 := by omega
          refine sm_T_go 3 (c1 := (37, [some (.inr (.inr (some (13, 0)))), some (.inl n_), some (.inl fd_), some (.inl m_), none], [.inl m_, .inr (.inr (some (172, 0)))], S_)) rfl ?_
          refine sm_T_iald (n := 2048) rfl rfl (by omega) (by omega) ?_
          have bx3_ : 0 ≤ S_.2.2.1 172 0 m_.toNat ∧ S_.2.2.1 172 0 m_.toNat ≤ 2025 := hI_.2 172 0 _
          refine sm_T_go 2 (c1 := (40, [some (.inr (.inr (some (13, 0)))), some (.inl n_), some (.inl fd_), some (.inl m_), none], [.inl m_, .inl 2, .inl (S_.2.2.1 172 0 m_.toNat)], S_)) rfl ?_
          refine sm_T_bin (w := 2 * m_) rfl (bi_mul (by omega) (by omega) (by omega)) ?_
          refine sm_T_br (a := 1) (z := 12) rfl (fun cx4_ => ?_) (fun cx4_ => ?_)
          · have cx4_ : (S_.2.2.1 172 0 m_.toNat) ≠ 2 * m_ := of_decide_eq_true cx4_
            refine sm_T_go 15 (c1 := (91, [some (.inr (.inr (some (13, 0)))), some (.inl n_), some (.inl 0), some (.inl m_), some (.inl 2)], [.inl n_, .inr (.inr (some (172, 0))), .inl n_, .inr (.inr (some (172, 0)))], S_)) rfl ?_
            refine sm_T_iald (n := 2048) rfl rfl (by omega) (by omega) ?_
            have bx5_ : 0 ≤ S_.2.2.1 172 0 n_.toNat ∧ S_.2.2.1 172 0 n_.toNat ≤ 2025 := hI_.2 172 0 _
            refine sm_T_iast (n := 2048) rfl rfl (by omega) (by omega) ?_
            have hIx6_ : gi (sm_aI S_ 172 0 n_.toNat (S_.2.2.1 172 0 n_.toNat)) := gi_aI hI_ (show 0 ≤ (S_.2.2.1 172 0 n_.toNat) ∧ (S_.2.2.1 172 0 n_.toNat) ≤ 2025 from ⟨by omega, by omega⟩)
            have hFx7_ : ai_fr (sx_W vw_354) S0_ (sm_aI S_ 172 0 n_.toNat (S_.2.2.1 172 0 n_.toNat)) := ai_fr_tr hF_ (ai_fr_aI rfl)
            refine sm_T_inc (a := 3) (z := 1) (v := m_) (w := m_ + 1) rfl rfl (by omega) (by omega) (by omega) ?_
            refine sm_T_go 1 (c1 := (23, [some (.inr (.inr (some (13, 0)))), some (.inl n_), some (.inl 0), some (.inl (m_ + 1)), some (.inl 2)], [], sm_aI S_ 172 0 n_.toNat (S_.2.2.1 172 0 n_.toNat))) rfl ?_
            refine sm_T_wk [some (.inr (.inr (some (13, 0)))), some (.inl n_), some (.inl 0), some (.inl (m_ + 1)), none] (by exact ⟨rfl, rfl, rfl, rfl, trivial⟩) ?_
            refine ih_.2 n_ 0 (m_ + 1) (sm_aI S_ 172 0 n_.toNat (S_.2.2.1 172 0 n_.toNat)) hIx6_ hFx7_ ⟨?_, ?_, ?_, ?_, trivial⟩ ?_
            · (clear h3_; omega)
            · exact sw1_sf gl_ (by omega) h1_ (fun k9_ hk9_ => by rw [rd_eq, if_neg (by omega)])
            · (intro z9_; rw [rd_eq, if_neg (by omega)]; exact h2_ z9_)
            · have cg_ : ∀ k9_, k9_ < n_.toNat → ((sm_aI S_ 172 0 n_.toNat (S_.2.2.1 172 0 n_.toNat))).2.2.1 172 0 k9_ = S_.2.2.1 172 0 k9_ := fun k9_ hk9_ => by rw [rd_eq, if_neg (by omega)]
              have cn_ : ∀ w9_, w9_ < 64 → lcn (S0_.2.2.2 171 0 (64 * n_.toNat + w9_)) := rok_c (m_ := -1) (fun j9_ hj9_ => (hfn_ n_.toNat (by omega) j9_ hj9_).1)
              first   | (have c9_ : S_.2.2.1 172 0 m_.toNat ≠ 2 * m_ := (by omega); refine Or.inl ⟨rfl, by rw [rd_eq, if_pos rfl]; exact y1_, fun p9_ hp9_ hs9_ => ?_⟩; rw [sPn_sf cg_] at hs9_; by_cases z9_ : p9_ = m_.toNat; (exfalso; have := hs9_.2; rw [z9_] at this; omega); exact y2_ p9_ (by omega) hs9_)   | (rcases e47_ with ⟨a9_, b9_⟩ | ⟨a9_, b9_⟩ | ⟨a9_, b9_, d9_⟩; (first | (exfalso; omega) | (refine Or.inr ⟨rfl, m_.toNat, 0, (sPn_sf cg_).mpr ⟨by omega, by omega⟩, Or.inl rfl, lik_sy cn_ b9_, ?_⟩; rw [rd_eq, if_pos rfl, if_pos rfl]; omega)); (first | (exfalso; omega) | (refine Or.inr ⟨rfl, m_.toNat, -1, (sPn_sf cg_).mpr ⟨by omega, by omega⟩, Or.inr rfl, lik_sy cn_ b9_, ?_⟩; rw [rd_eq, if_pos rfl, if_neg (by decide)]; omega)); (first | (exfalso; omega) | (refine Or.inl ⟨rfl, by rw [rd_eq, if_pos rfl]; exact y1_, fun p9_ hp9_ hs9_ => ?_⟩; rw [sPn_sf cg_] at hs9_; by_cases z9_ : p9_ = m_.toNat; (intro t9_ u9_ v9_; rw [z9_] at v9_; have w9_ := lik_sy (rok_c (m_ := -1) (fun j9_ hj9_ => (hfn_ m_.toNat (by omega) j9_ hj9_).1)) v9_; rcases u9_ with q9_ | q9_; (rw [q9_] at w9_; exact b9_ w9_); (rw [q9_] at w9_; exact d9_ w9_)); exact y2_ p9_ (by omega) hs9_)))
            · (clear h3_; omega)
          · have cx4_ : ¬ ((S_.2.2.1 172 0 m_.toNat) ≠ 2 * m_) := of_decide_eq_false cx4_
            refine sm_T_go 3 (c1 := (47, [some (.inr (.inr (some (13, 0)))), some (.inl n_), some (.inl fd_), some (.inl m_), none], [.inl n_, .inl m_, .inr (.inr (some (13, 0)))], S_)) rfl ?_
            refine sm_T_cal (d1 := 0) (Q1 := vq_353 m_ n_ m_.toNat n_.toNat S_) rfl rfl (by decide) (vc_353 m_ n_ m_.toNat n_.toNat S_ hI_ (by omega) (by omega) (by (rw [f71_]; exact fun j9_ hj9_ => (hfn_ n_.toNat (by omega) j9_ hj9_).1))) (fun u_ Sx8_ px11_ => ?_)
            obtain ⟨rfl, vx13_, rfl, px11_⟩ := px11_
            have e47_ := px11_
            rw [f71_] at e47_
            refine sm_T_go 4 (c1 := (59, [some (.inr (.inr (some (13, 0)))), some (.inl n_), some (.inl fd_), some (.inl m_), some (.inl vx13_)], [.inl 2, .inl vx13_], S_)) rfl ?_
            refine sm_T_br (a := 3) (z := 7) rfl (fun cx14_ => ?_) (fun cx14_ => ?_)
            · have cx14_ : 2 ≤ vx13_ := of_decide_eq_true cx14_
              refine sm_T_go 10 (c1 := (91, [some (.inr (.inr (some (13, 0)))), some (.inl n_), some (.inl 0), some (.inl m_), some (.inl vx13_)], [.inl n_, .inr (.inr (some (172, 0))), .inl n_, .inr (.inr (some (172, 0)))], S_)) rfl ?_
              refine sm_T_iald (n := 2048) rfl rfl (by omega) (by omega) ?_
              have bx15_ : 0 ≤ S_.2.2.1 172 0 n_.toNat ∧ S_.2.2.1 172 0 n_.toNat ≤ 2025 := hI_.2 172 0 _
              refine sm_T_iast (n := 2048) rfl rfl (by omega) (by omega) ?_
              have hIx16_ : gi (sm_aI S_ 172 0 n_.toNat (S_.2.2.1 172 0 n_.toNat)) := gi_aI hI_ (show 0 ≤ (S_.2.2.1 172 0 n_.toNat) ∧ (S_.2.2.1 172 0 n_.toNat) ≤ 2025 from ⟨by omega, by omega⟩)
              have hFx17_ : ai_fr (sx_W vw_354) S0_ (sm_aI S_ 172 0 n_.toNat (S_.2.2.1 172 0 n_.toNat)) := ai_fr_tr hF_ (ai_fr_aI rfl)
              refine sm_T_inc (a := 3) (z := 1) (v := m_) (w := m_ + 1) rfl rfl (by omega) (by omega) (by omega) ?_
              refine sm_T_go 1 (c1 := (23, [some (.inr (.inr (some (13, 0)))), some (.inl n_), some (.inl 0), some (.inl (m_ + 1)), some (.inl vx13_)], [], sm_aI S_ 172 0 n_.toNat (S_.2.2.1 172 0 n_.toNat))) rfl ?_
              refine sm_T_wk [some (.inr (.inr (some (13, 0)))), some (.inl n_), some (.inl 0), some (.inl (m_ + 1)), none] (by exact ⟨rfl, rfl, rfl, rfl, trivial⟩) ?_
              refine ih_.2 n_ 0 (m_ + 1) (sm_aI S_ 172 0 n_.toNat (S_.2.2.1 172 0 n_.toNat)) hIx16_ hFx17_ ⟨?_, ?_, ?_, ?_, trivial⟩ ?_
              · (clear h3_; omega)
              · exact sw1_sf gl_ (by omega) h1_ (fun k9_ hk9_ => by rw [rd_eq, if_neg (by omega)])
              · (intro z9_; rw [rd_eq, if_neg (by omega)]; exact h2_ z9_)
              · have cg_ : ∀ k9_, k9_ < n_.toNat → ((sm_aI S_ 172 0 n_.toNat (S_.2.2.1 172 0 n_.toNat))).2.2.1 172 0 k9_ = S_.2.2.1 172 0 k9_ := fun k9_ hk9_ => by rw [rd_eq, if_neg (by omega)]
                have cn_ : ∀ w9_, w9_ < 64 → lcn (S0_.2.2.2 171 0 (64 * n_.toNat + w9_)) := rok_c (m_ := -1) (fun j9_ hj9_ => (hfn_ n_.toNat (by omega) j9_ hj9_).1)
                first   | (have c9_ : S_.2.2.1 172 0 m_.toNat ≠ 2 * m_ := (by omega); refine Or.inl ⟨rfl, by rw [rd_eq, if_pos rfl]; exact y1_, fun p9_ hp9_ hs9_ => ?_⟩; rw [sPn_sf cg_] at hs9_; by_cases z9_ : p9_ = m_.toNat; (exfalso; have := hs9_.2; rw [z9_] at this; omega); exact y2_ p9_ (by omega) hs9_)   | (rcases e47_ with ⟨a9_, b9_⟩ | ⟨a9_, b9_⟩ | ⟨a9_, b9_, d9_⟩; (first | (exfalso; omega) | (refine Or.inr ⟨rfl, m_.toNat, 0, (sPn_sf cg_).mpr ⟨by omega, by omega⟩, Or.inl rfl, lik_sy cn_ b9_, ?_⟩; rw [rd_eq, if_pos rfl, if_pos rfl]; omega)); (first | (exfalso; omega) | (refine Or.inr ⟨rfl, m_.toNat, -1, (sPn_sf cg_).mpr ⟨by omega, by omega⟩, Or.inr rfl, lik_sy cn_ b9_, ?_⟩; rw [rd_eq, if_pos rfl, if_neg (by decide)]; omega)); (first | (exfalso; omega) | (refine Or.inl ⟨rfl, by rw [rd_eq, if_pos rfl]; exact y1_, fun p9_ hp9_ hs9_ => ?_⟩; rw [sPn_sf cg_] at hs9_; by_cases z9_ : p9_ = m_.toNat; (intro t9_ u9_ v9_; rw [z9_] at v9_; have w9_ := lik_sy (rok_c (m_ := -1) (fun j9_ hj9_ => (hfn_ m_.toNat (by omega) j9_ hj9_).1)) v9_; rcases u9_ with q9_ | q9_; (rw [q9_] at w9_; exact b9_ w9_); (rw [q9_] at w9_; exact d9_ w9_)); exact y2_ p9_ (by omega) hs9_)))
              · (clear h3_; omega)
            · have cx14_ : ¬ (2 ≤ vx13_) := of_decide_eq_false cx14_
              refine sm_T_go 10 (c1 := (79, [some (.inr (.inr (some (13, 0)))), some (.inl n_), some (.inl 1), some (.inl m_), some (.inl vx13_)], [.inl m_, .inl 2, .inl n_, .inr (.inr (some (172, 0)))], S_)) rfl ?_
              refine sm_T_bin (w := 2 * m_) rfl (bi_mul (by omega) (by omega) (by omega)) ?_
              refine sm_T_go 1 (c1 := (82, [some (.inr (.inr (some (13, 0)))), some (.inl n_), some (.inl 1), some (.inl m_), some (.inl vx13_)], [.inl vx13_, .inl (2 * m_), .inl n_, .inr (.inr (some (172, 0)))], S_)) rfl ?_
              refine sm_T_bin (w := 2 * m_ + vx13_) rfl (bi_add (by omega) (by omega) (by omega)) ?_
              refine sm_T_go 1 (c1 := (92, [some (.inr (.inr (some (13, 0)))), some (.inl n_), some (.inl 1), some (.inl m_), some (.inl vx13_)], [.inl (2 * m_ + vx13_), .inl n_, .inr (.inr (some (172, 0)))], S_)) rfl ?_
              refine sm_T_iast (n := 2048) rfl rfl (by omega) (by omega) ?_
              have hIx18_ : gi (sm_aI S_ 172 0 n_.toNat (2 * m_ + vx13_)) := gi_aI hI_ (show 0 ≤ 2 * m_ + vx13_ ∧ 2 * m_ + vx13_ ≤ 2025 from ⟨by omega, by omega⟩)
              have hFx19_ : ai_fr (sx_W vw_354) S0_ (sm_aI S_ 172 0 n_.toNat (2 * m_ + vx13_)) := ai_fr_tr hF_ (ai_fr_aI rfl)
              refine sm_T_inc (a := 3) (z := 1) (v := m_) (w := m_ + 1) rfl rfl (by omega) (by omega) (by omega) ?_
              refine sm_T_go 1 (c1 := (23, [some (.inr (.inr (some (13, 0)))), some (.inl n_), some (.inl 1), some (.inl (m_ + 1)), some (.inl vx13_)], [], sm_aI S_ 172 0 n_.toNat (2 * m_ + vx13_))) rfl ?_
              refine sm_T_wk [some (.inr (.inr (some (13, 0)))), some (.inl n_), some (.inl 1), some (.inl (m_ + 1)), none] (by exact ⟨rfl, rfl, rfl, rfl, trivial⟩) ?_
              refine ih_.2 n_ 1 (m_ + 1) (sm_aI S_ 172 0 n_.toNat (2 * m_ + vx13_)) hIx18_ hFx19_ ⟨?_, ?_, ?_, ?_, trivial⟩ ?_
              · (clear h3_; omega)
              · exact sw1_sf gl_ (by omega) h1_ (fun k9_ hk9_ => by rw [rd_eq, if_neg (by omega)])
              · (intro z9_; rw [rd_eq, if_neg (by omega)]; exact h2_ z9_)
              · have cg_ : ∀ k9_, k9_ < n_.toNat → ((sm_aI S_ 172 0 n_.toNat (2 * m_ + vx13_))).2.2.1 172 0 k9_ = S_.2.2.1 172 0 k9_ := fun k9_ hk9_ => by rw [rd_eq, if_neg (by omega)]
                have cn_ : ∀ w9_, w9_ < 64 → lcn (S0_.2.2.2 171 0 (64 * n_.toNat + w9_)) := rok_c (m_ := -1) (fun j9_ hj9_ => (hfn_ n_.toNat (by omega) j9_ hj9_).1)
                first   | (have c9_ : S_.2.2.1 172 0 m_.toNat ≠ 2 * m_ := (by omega); refine Or.inl ⟨rfl, by rw [rd_eq, if_pos rfl]; exact y1_, fun p9_ hp9_ hs9_ => ?_⟩; rw [sPn_sf cg_] at hs9_; by_cases z9_ : p9_ = m_.toNat; (exfalso; have := hs9_.2; rw [z9_] at this; omega); exact y2_ p9_ (by omega) hs9_)   | (rcases e47_ with ⟨a9_, b9_⟩ | ⟨a9_, b9_⟩ | ⟨a9_, b9_, d9_⟩; (first | (exfalso; omega) | (refine Or.inr ⟨rfl, m_.toNat, 0, (sPn_sf cg_).mpr ⟨by omega, by omega⟩, Or.inl rfl, lik_sy cn_ b9_, ?_⟩; rw [rd_eq, if_pos rfl, if_pos rfl]; omega)); (first | (exfalso; omega) | (refine Or.inr ⟨rfl, m_.toNat, -1, (sPn_sf cg_).mpr ⟨by omega, by omega⟩, Or.inr rfl, lik_sy cn_ b9_, ?_⟩; rw [rd_eq, if_pos rfl, if_neg (by decide)]; omega)); (first | (exfalso; omega) | (refine Or.inl ⟨rfl, by rw [rd_eq, if_pos rfl]; exact y1_, fun p9_ hp9_ hs9_ => ?_⟩; rw [sPn_sf cg_] at hs9_; by_cases z9_ : p9_ = m_.toNat; (intro t9_ u9_ v9_; rw [z9_] at v9_; have w9_ := lik_sy (rok_c (m_ := -1) (fun j9_ hj9_ => (hfn_ m_.toNat (by omega) j9_ hj9_).1)) v9_; rcases u9_ with q9_ | q9_; (rw [q9_] at w9_; exact b9_ w9_); (rw [q9_] at w9_; exact d9_ w9_)); exact y2_ p9_ (by omega) hs9_)))
              · (clear h3_; omega)
set_option maxHeartbeats 3000000 in
theorem vc_354 {sc_ : Nat × (Nat → Int)} (F_ : Nat) (S0_ : sm_S) (hI_ : gi S0_) (hg_ : rgr F_ S0_) (hfn_ : ∀ m9_ : Nat, (m9_ : Int) < S0_.1 13 0 37 → srw F_ m9_ 64 (-1) (S0_.2.2.1 140 0) (S0_.2.2.1 141 0) (S0_.2.2.2 171 0)) : sm_T (mt_P sc_) 1 354 (0, [some (.inr (.inr (some (13, 0)))), none, none, none, none], [], S0_) (fun ro9_ => ∃ u_ S1_, ro9_ = (.inl u_, S1_, 0) ∧ vq_354 F_ S0_ u_ S1_) := by
  have hF_ : ai_fr (sx_W vw_354) S0_ S0_ := ai_fr_rf
  refine sm_T_go 2 (c1 := (2, [some (.inr (.inr (some (13, 0)))), some (.inl 0), none, none, none], [], S0_)) rfl ?_
  refine (vl_354 F_ S0_ hg_ hfn_ _).1 0 S0_ hI_ hF_ ⟨?_, ?_, ?_, trivial⟩ (Nat.lt_succ_self _)
  · (have g1_ := hg_.1; have g2_ := hg_.2.1; omega)
  · (intro m9_ hm9_; exact absurd hm9_ (Nat.not_lt_zero _))
  · (intro z9_; exact absurd z9_ (by decide))
