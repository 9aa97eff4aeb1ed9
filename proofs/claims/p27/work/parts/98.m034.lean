/-! 99.ztZ -/
section
/-! what design keeps: the class; written by wip/p55/gen/vg -/
/-! Builder.takeOutputs -/
def vw_45n : sx_Wl := ([], [45], [])
def vq_45n (m_ : Int) (tb_ : Nat → Int) (tn_ : Nat) (A_ : pA) (mm_ : Nat) (dd_ : Nat) (e_ : gE) (N_ : Nat) (S0_ : sm_S) (u_ : Option sm_V) (S1_ : sm_S) : Prop := u_ = none ∧ gi S1_ ∧ ai_fr (sx_W vw_45n) S0_ S1_ ∧ (idf dd_ S0_ S1_ ∧ ((∀ k9_ : Nat, (k9_ : Int) < su (t_in A_ 1 mm_) (A_.1 mm_) → 0 ≤ S1_.2.2.1 45 (0 + dd_) k9_ ∧ S1_.2.2.1 45 (0 + dd_) k9_ < 2 * (N_ : Int)) ∧ otr A_ mm_ (A_.1 mm_) e_ (S1_.2.2.1 45 (0 + dd_))))
set_option maxHeartbeats 1000000 in
theorem vl_45n {sc_ : Nat × (Nat → Int)} (m_ : Int) (tb_ : Nat → Int) (tn_ : Nat) (A_ : pA) (mm_ : Nat) (dd_ : Nat) (e_ : gE) (N_ : Nat) (S0_ : sm_S) (hd_ : S0_.2.1 1 0 1 = some dd_) (hm1_ : m_ = (mm_ : Int) ∧ mm_ ≤ 15) (her_ : er1 tb_ tn_ A_ mm_ S0_) (hA_ : a_ok tb_ tn_ A_ mm_) (hsu_ : su (t_in A_ 1 mm_) (A_.1 mm_) ≤ 16) (hE_ : ∀ s9_, s9_ < 40 → rwv (S0_.2.2.1 26 0) (8 * s9_) (e_ s9_)) (hln_ : ∀ s9_, s9_ < A_.1 mm_ → A_.2.2.1 (40 * mm_ + s9_) ≠ 5 → ((e_ s9_).length : Int) = A_.2.2.2.1 (40 * mm_ + s9_)) (hlw_ : ∀ s9_, lwl N_ (e_ s9_)) : ∀ nn_ : Nat, (∀ (md_ : Int) (s_ : Int) (S_ : sm_S), gi S_ → ai_fr (sx_W vw_45n) S0_ S_ → ((0 ≤ s_ ∧ s_ ≤ (A_.1 mm_ : Int) ∧ md_ = su (t_in A_ 1 mm_) s_.toNat) ∧ (∀ k9_ : Nat, (k9_ : Int) < md_ → 0 ≤ S_.2.2.1 45 (0 + dd_) k9_ ∧ S_.2.2.1 45 (0 + dd_) k9_ < 2 * (N_ : Int)) ∧ (otr A_ mm_ s_.toNat e_ (S_.2.2.1 45 (0 + dd_))) ∧ (idf dd_ S0_ S_) ∧ True) → (((A_.1 mm_ : Int) - s_).toNat) < nn_ → sm_T (mt_P sc_) 1 45 (4, [some (.inr (.inr (some (1, 0)))), some (.inl m_), some (.inl md_), some (.inl s_), none], [], S_) (fun ro9_ => ∃ u_ S1_, ro9_ = (.inl u_, S1_, 0) ∧ vq_45n m_ tb_ tn_ A_ mm_ dd_ e_ N_ S0_ u_ S1_)) := by
  intro nn_
  induction nn_ with
  | zero => exact fun _ _ _ _ _ _ h_ => absurd h_ (Nat.not_lt_zero _)
  | succ nn_ ih_ =>
    rintro md_ s_ S_ hI_ hF_ ⟨h0_, h1_, h2_, hD_, -⟩ hm_
    have A40_ := (hA_.2 mm_ (Nat.le_refl _)).1
    have cn_ : S_.2.2.1 77 0 m_.toNat = (A_.1 mm_ : Int) := by rw [fr_arr (t := 77) (i := 0) hF_ rfl, show m_.toNat = mm_ by omega]; exact her_.1
    have cb_ := su_el (f_ := t_in A_ 1 mm_) (k_ := A_.1 mm_) (fun j_ hj_ => by have z_ := ((hA_.2 mm_ (Nat.le_refl _)).2 j_ hj_).2.2.1; unfold t_in; split <;> omega)
    have sv_ : s_ < (A_.1 mm_ : Int) → S_.2.2.1 79 0 (40 * m_ + s_).toNat = A_.2.2.1 (40 * mm_ + s_.toNat) ∧ S_.2.2.1 80 0 (40 * m_ + s_).toNat = A_.2.2.2.1 (40 * mm_ + s_.toNat) := by intro z_; rw [fr_arr (t := 79) (i := 0) hF_ rfl, fr_arr (t := 80) (i := 0) hF_ rfl, show (40 * m_ + s_).toNat = 40 * mm_ + s_.toNat by omega]; exact ⟨(her_.2 s_.toNat (by omega)).2.1, (her_.2 s_.toNat (by omega)).2.2.1⟩
    have s1_ : s_ < (A_.1 mm_ : Int) → su (t_in A_ 1 mm_) (s_.toNat + 1) = su (t_in A_ 1 mm_) s_.toNat + t_in A_ 1 mm_ s_.toNat ∧ su (t_in A_ 1 mm_) (s_.toNat + 1) ≤ su (t_in A_ 1 mm_) (A_.1 mm_) ∧ 0 ≤ su (t_in A_ 1 mm_) s_.toNat := fun z_ => ⟨rfl, (cb_.2.2 (s_.toNat + 1) (by omega)).2, (cb_.2.2 s_.toNat (by omega)).1⟩
    refine sm_T_go 5 (c1 := (13, [some (.inr (.inr (some (1, 0)))), some (.inl m_), some (.inl md_), some (.inl s_), none], [.inl m_, .inr (.inr (some (77, 0))), .inl s_], S_)) rfl ?_
    refine sm_T_iald (n := 17) rfl rfl (by omega) (by omega) ?_
    have bx1_ : 0 ≤ S_.2.2.1 77 0 m_.toNat ∧ S_.2.2.1 77 0 m_.toNat ≤ 40 := hI_.2 77 0 _
    refine sm_T_br (a := 3) (z := 70) rfl (fun cx2_ => ?_) (fun cx2_ => ?_)
    · have cx2_ : (S_.2.2.1 77 0 m_.toNat) ≤ s_ := of_decide_eq_true cx2_
      refine sm_T_rv rfl ⟨_, _, rfl, rfl, hI_, hF_, ?_⟩
      refine ⟨hD_, ?_⟩
      refine ⟨fun k9_ hk9_ => h1_ k9_ (by rw [show (A_.1 mm_) = s_.toNat by omega] at hk9_; omega), ?_⟩
      rw [show (A_.1 mm_) = s_.toNat by omega]
      exact h2_
    · have cx2_ : ¬ ((S_.2.2.1 77 0 m_.toNat) ≤ s_) := of_decide_eq_false cx2_
      obtain ⟨sv1_, sv2_⟩ := sv_ (by omega)
      have s2_ := s1_ (by omega)
      have wb := ((hA_.2 mm_ (Nat.le_refl _)).2 s_.toNat (by omega)).2.2.1
      refine sm_T_go 5 (c1 := (27, [some (.inr (.inr (some (1, 0)))), some (.inl m_), some (.inl md_), some (.inl s_), none], [.inl 40, .inl m_, .inr (.inr (some (79, 0)))], S_)) rfl ?_
      refine sm_T_bin (w := 40 * m_) rfl (bi_mul (by omega) (by omega) (by omega)) ?_
      refine sm_T_go 1 (c1 := (29, [some (.inr (.inr (some (1, 0)))), some (.inl m_), some (.inl md_), some (.inl s_), none], [.inl s_, .inl (40 * m_), .inr (.inr (some (79, 0)))], S_)) rfl ?_
      refine sm_T_bin (w := 40 * m_ + s_) rfl (bi_add (by omega) (by omega) (by omega)) ?_
      refine sm_T_iald (n := 640) rfl rfl (by omega) (by omega) ?_
      have bx3_ : 0 ≤ S_.2.2.1 79 0 (40 * m_ + s_).toNat ∧ S_.2.2.1 79 0 (40 * m_ + s_).toNat ≤ 5 := hI_.2 79 0 _
      refine sm_T_go 1 (c1 := (32, [some (.inr (.inr (some (1, 0)))), some (.inl m_), some (.inl md_), some (.inl s_), none], [.inl 1, .inl (S_.2.2.1 79 0 (40 * m_ + s_).toNat)], S_)) rfl ?_
      refine sm_T_br (a := 1) (z := 46) rfl (fun cx4_ => ?_) (fun cx4_ => ?_)
      · have cx4_ : (S_.2.2.1 79 0 (40 * m_ + s_).toNat) ≠ 1 := of_decide_eq_true cx4_
        have t9_ : t_in A_ 1 mm_ s_.toNat = 0 := by unfold t_in; rw [if_neg (by omega)]
        refine sm_T_inc (a := 3) (z := 1) (v := s_) (w := s_ + 1) rfl rfl (by omega) (by omega) (by omega) ?_
        refine sm_T_go 1 (c1 := (4, [some (.inr (.inr (some (1, 0)))), some (.inl m_), some (.inl md_), some (.inl (s_ + 1)), none], [], S_)) rfl ?_
        refine ih_ md_ (s_ + 1) S_ hI_ hF_ ⟨?_, ?_, ?_, ?_, trivial⟩ ?_
        · (rw [show (s_ + 1).toNat = s_.toNat + 1 by omega]; omega)
        · exact fun k9_ hk9_ => h1_ k9_ (by omega)
        · rw [show (s_ + 1).toNat = s_.toNat + 1 by omega]
          exact otr_s (k_ := 0) h2_ (fun q9_ => by omega)
        · exact hD_
        · omega
      · have cx4_ : ¬ ((S_.2.2.1 79 0 (40 * m_ + s_).toNat) ≠ 1) := of_decide_eq_false cx4_
        have t9_ : t_in A_ 1 mm_ s_.toNat = A_.2.2.2.1 (40 * mm_ + s_.toNat) := by unfold t_in; rw [if_pos (by omega)]
        refine sm_T_go 5 (c1 := (45, [some (.inr (.inr (some (1, 0)))), some (.inl m_), some (.inl md_), some (.inl s_), none], [.inl 40, .inl m_, .inr (.inr (some (80, 0)))], S_)) rfl ?_
        refine sm_T_bin (w := 40 * m_) rfl (bi_mul (by omega) (by omega) (by omega)) ?_
        refine sm_T_go 1 (c1 := (47, [some (.inr (.inr (some (1, 0)))), some (.inl m_), some (.inl md_), some (.inl s_), none], [.inl s_, .inl (40 * m_), .inr (.inr (some (80, 0)))], S_)) rfl ?_
        refine sm_T_bin (w := 40 * m_ + s_) rfl (bi_add (by omega) (by omega) (by omega)) ?_
        refine sm_T_iald (n := 640) rfl rfl (by omega) (by omega) ?_
        have bx5_ : 0 ≤ S_.2.2.1 80 0 (40 * m_ + s_).toNat ∧ S_.2.2.1 80 0 (40 * m_ + s_).toNat ≤ 8 := hI_.2 80 0 _
        refine sm_T_go 5 (c1 := (57, [some (.inr (.inr (some (1, 0)))), some (.inl m_), some (.inl md_), some (.inl s_), some (.inl (S_.2.2.1 80 0 (40 * m_ + s_).toNat))], [.inl s_, .inl 0, .inr (.inr (some (26, 0)))], S_)) rfl ?_
        refine sm_T_cal (d1 := 0) (Q1 := vq_35 0 s_ S_) rfl rfl (by decide) (vc_35 0 s_ S_ hI_ (by decide) (by omega)) (fun u_ Sx6_ px9_ => ?_)
        obtain ⟨rfl, vx11_, rfl, px9_⟩ := px9_
        have e57_ := px9_
        refine sm_T_go 1 (c1 := (61, [some (.inr (.inr (some (1, 0)))), some (.inl m_), some (.inl md_), some (.inl s_), some (.inl (S_.2.2.1 80 0 (40 * m_ + s_).toNat))], [.inr (.inr (some (1, 0))), .inl vx11_, .inr (.inr (some (26, 0)))], S_)) rfl ?_
        refine sm_T_gr rfl rfl ((hF_.2.1 1 0 1 rfl).trans hd_) ?_
        refine sm_T_go 3 (c1 := (70, [some (.inr (.inr (some (1, 0)))), some (.inl m_), some (.inl md_), some (.inl s_), some (.inl (S_.2.2.1 80 0 (40 * m_ + s_).toNat))], [.inl (S_.2.2.1 80 0 (40 * m_ + s_).toNat), .inl md_, .inr (.inr (some (45, (0 + dd_)))), .inl vx11_, .inr (.inr (some (26, 0)))], S_)) rfl ?_
        refine sm_T_nt (u := none) (S1 := sm_acI S_ 26 0 45 (0 + dd_) vx11_.toNat md_.toNat (S_.2.2.1 80 0 (40 * m_ + s_).toNat).toNat) rfl rfl (nt_acI (sc := sc_) (t := 26) (i := 0) (t' := 45) (i' := (0 + dd_)) (x := vx11_) (y := md_) (m := (S_.2.2.1 80 0 (40 * m_ + s_).toNat)) (n := 64320) (n1 := 16) rfl rfl (by omega) (by omega) (by omega) (by omega) (by omega)) ?_
        have hIx12_ : gi (sm_acI S_ 26 0 45 (0 + dd_) vx11_.toNat md_.toNat (S_.2.2.1 80 0 (40 * m_ + s_).toNat).toNat) := gi_ac hI_ (by decide) (by decide)
        have hFx13_ : ai_fr (sx_W vw_45n) S0_ (sm_acI S_ 26 0 45 (0 + dd_) vx11_.toNat md_.toNat (S_.2.2.1 80 0 (40 * m_ + s_).toNat).toNat) := ai_fr_tr hF_ (fr_ac rfl)
        have hDx14_ : idf dd_ S0_ (sm_acI S_ 26 0 45 (0 + dd_) vx11_.toNat md_.toNat (S_.2.2.1 80 0 (40 * m_ + s_).toNat).toNat) := idf_ac hD_ (Or.inr rfl)
        refine sm_T_go 2 (c1 := (76, [some (.inr (.inr (some (1, 0)))), some (.inl m_), some (.inl md_), some (.inl s_), some (.inl (S_.2.2.1 80 0 (40 * m_ + s_).toNat))], [.inl (S_.2.2.1 80 0 (40 * m_ + s_).toNat), .inl md_], sm_acI S_ 26 0 45 (0 + dd_) vx11_.toNat md_.toNat (S_.2.2.1 80 0 (40 * m_ + s_).toNat).toNat)) rfl ?_
        refine sm_T_bin (w := md_ + (S_.2.2.1 80 0 (40 * m_ + s_).toNat)) rfl (bi_add (by omega) (by omega) (by omega)) ?_
        refine sm_T_go 1 (c1 := (78, [some (.inr (.inr (some (1, 0)))), some (.inl m_), some (.inl (md_ + (S_.2.2.1 80 0 (40 * m_ + s_).toNat))), some (.inl s_), some (.inl (S_.2.2.1 80 0 (40 * m_ + s_).toNat))], [], sm_acI S_ 26 0 45 (0 + dd_) vx11_.toNat md_.toNat (S_.2.2.1 80 0 (40 * m_ + s_).toNat).toNat)) rfl ?_
        refine sm_T_inc (a := 3) (z := 1) (v := s_) (w := s_ + 1) rfl rfl (by omega) (by omega) (by omega) ?_
        refine sm_T_go 1 (c1 := (4, [some (.inr (.inr (some (1, 0)))), some (.inl m_), some (.inl (md_ + (S_.2.2.1 80 0 (40 * m_ + s_).toNat))), some (.inl (s_ + 1)), some (.inl (S_.2.2.1 80 0 (40 * m_ + s_).toNat))], [], sm_acI S_ 26 0 45 (0 + dd_) vx11_.toNat md_.toNat (S_.2.2.1 80 0 (40 * m_ + s_).toNat).toNat)) rfl ?_
        refine sm_T_wk [some (.inr (.inr (some (1, 0)))), some (.inl m_), some (.inl (md_ + (S_.2.2.1 80 0 (40 * m_ + s_).toNat))), some (.inl (s_ + 1)), none] (by exact ⟨rfl, rfl, rfl, rfl, trivial⟩) ?_
        refine ih_ (md_ + (S_.2.2.1 80 0 (40 * m_ + s_).toNat)) (s_ + 1) (sm_acI S_ 26 0 45 (0 + dd_) vx11_.toNat md_.toNat (S_.2.2.1 80 0 (40 * m_ + s_).toNat).toNat) hIx12_ hFx13_ ⟨?_, ?_, ?_, ?_, trivial⟩ ?_
        · (rw [show (s_ + 1).toNat = s_.toNat + 1 by omega]; omega)
        · intro k9_ hk9_
          rw [sm_acI_at]
          unfold sm_cp
          have hl9_ := hln_ s_.toNat (by omega) (by omega)
          split
          · rename_i w9_
            have e9_ := rwv_lz (hE_ s_.toNat (by omega)) (hlw_ s_.toNat) (k_ := k9_ - md_.toNat) (by omega)
            rw [fr_arr (t := 26) (i := 0) hF_ rfl, show (_ : Int).toNat + (k9_ - md_.toNat) = 8 * s_.toNat + (k9_ - md_.toNat) from by omega]
            exact e9_
          · exact h1_ k9_ (by omega)
        · rw [show (s_ + 1).toNat = s_.toNat + 1 by omega, sm_acI_at]
          have hl9_ := hln_ s_.toNat (by omega) (by omega)
          refine otr_s (k_ := (A_.2.2.2.1 (40 * mm_ + s_.toNat)).toNat) (otr_cg hA_ (by omega) hln_ h2_ (fun j9_ hj9_ => sm_cp_o (by omega))) (fun q9_ => ⟨by omega, fun j9_ z9_ h9_ e9_ => ?_⟩)
          unfold sm_cp
          have v9_ := hE_ s_.toNat (by omega) j9_ z9_ e9_
          rw [if_pos (by omega), fr_arr (t := 26) (i := 0) hF_ rfl, show (_ : Int).toNat + ((su (t_in A_ 1 mm_) s_.toNat).toNat + j9_ - md_.toNat) = 8 * s_.toNat + j9_ from by omega]
          exact v9_
        · exact hDx14_
        · omega
set_option maxHeartbeats 1000000 in
theorem vc_45n {sc_ : Nat × (Nat → Int)} (m_ : Int) (tb_ : Nat → Int) (tn_ : Nat) (A_ : pA) (mm_ : Nat) (dd_ : Nat) (e_ : gE) (N_ : Nat) (S0_ : sm_S) (hI_ : gi S0_) (hd_ : S0_.2.1 1 0 1 = some dd_) (hm1_ : m_ = (mm_ : Int) ∧ mm_ ≤ 15) (her_ : er1 tb_ tn_ A_ mm_ S0_) (hA_ : a_ok tb_ tn_ A_ mm_) (hsu_ : su (t_in A_ 1 mm_) (A_.1 mm_) ≤ 16) (hE_ : ∀ s9_, s9_ < 40 → rwv (S0_.2.2.1 26 0) (8 * s9_) (e_ s9_)) (hln_ : ∀ s9_, s9_ < A_.1 mm_ → A_.2.2.1 (40 * mm_ + s9_) ≠ 5 → ((e_ s9_).length : Int) = A_.2.2.2.1 (40 * mm_ + s9_)) (hlw_ : ∀ s9_, lwl N_ (e_ s9_)) : sm_T (mt_P sc_) 1 45 (0, [some (.inr (.inr (some (1, 0)))), some (.inl m_), none, none, none], [], S0_) (fun ro9_ => ∃ u_ S1_, ro9_ = (.inl u_, S1_, 0) ∧ vq_45n m_ tb_ tn_ A_ mm_ dd_ e_ N_ S0_ u_ S1_) := by
  have hF_ : ai_fr (sx_W vw_45n) S0_ S0_ := ai_fr_rf
  have hD_ : idf dd_ S0_ S0_ := idf_rf
  refine sm_T_go 4 (c1 := (4, [some (.inr (.inr (some (1, 0)))), some (.inl m_), some (.inl 0), some (.inl 0), none], [], S0_)) rfl ?_
  refine (vl_45n m_ tb_ tn_ A_ mm_ dd_ e_ N_ S0_ hd_ hm1_ her_ hA_ hsu_ hE_ hln_ hlw_ _) 0 0 S0_ hI_ hF_ ⟨?_, ?_, ?_, ?_, trivial⟩ (Nat.lt_succ_self _)
  · exact ⟨by decide, by omega, rfl⟩
  · (intro k9_ hk9_; omega)
  · (intro s9_ hs9_; exact absurd hs9_ (Nat.not_lt_zero _))
  · exact hD_

/-- the_ class keeps outputs, next values and beginning of_ a_ text -/
def dcn (dd_ : Nat) (r_ : pD) (z_ : gQ × gE) (S_ : sm_S) : Prop := S_.1 3 dd_ 5 = (dnx r_).2 ∧ (∀ i_, i_ < d_R r_ → S_.2.2.1 46 (0 + dd_) i_ = (dnx r_).1 i_) ∧ otr r_.1 (d_tp r_) (r_.1.1 (d_tp r_)) z_.2 (S_.2.2.1 45 (0 + dd_))
theorem dcn_fr {w_ : sx_Wl} {dd_ : Nat} {r_ : pD} {z_ : gQ × gE} {S_ S'_ : sm_S} (h_ : dcn dd_ r_ z_ S_) (g_ : ai_fr (sx_W w_) S_ S'_) (h1_ : (sx_W w_).1 3 5 = false := by rfl) (h2_ : (sx_W w_).2.1 46 = false := by rfl) (h3_ : (sx_W w_).2.1 45 = false := by rfl) : dcn dd_ r_ z_ S'_ := by
  unfold dcn
  rw [g_.1 3 dd_ 5 h1_, fr_arr (t := 46) g_ h2_, fr_arr (t := 45) g_ h3_]
  exact h_
/-- whom the_ nodes of_ the_ class's design stand for_ -/
def dcs (dd_ F_ : Nat) (S_ : sm_S) : Prop := glo F_ (S_.1 3 dd_ 4).toNat (S_.2.2.1 42 (0 + dd_)) (S_.2.2.1 43 (0 + dd_)) ∧ swd F_ (S_.1 3 dd_ 4).toNat (S_.2.2.1 42 (0 + dd_)) (S_.2.2.1 43 (0 + dd_)) (S_.2.2.1 44 (0 + dd_)) ∧ drt dd_ S_
theorem dcs_fr {w_ : sx_Wl} {dd_ F_ : Nat} {S_ S'_ : sm_S} (h_ : dcs dd_ F_ S_) (g_ : ai_fr (sx_W w_) S_ S'_) (h1_ : (sx_W w_).1 3 4 = false := by rfl) (h2_ : (sx_W w_).2.1 42 = false := by rfl) (h3_ : (sx_W w_).2.1 43 = false := by rfl) (h4_ : (sx_W w_).2.1 44 = false := by rfl) (h5_ : (sx_W w_).1 3 3 = false := by rfl) (h6_ : (sx_W w_).1 3 2 = false := by rfl) (h7_ : (sx_W w_).2.1 45 = false := by rfl) (h8_ : (sx_W w_).2.1 46 = false := by rfl) : dcs dd_ F_ S'_ := by
  obtain ⟨a1_, a2_, a3_⟩ := h_
  refine ⟨?_, ?_, drt_fr a3_ g_ h5_ h6_ h1_ h7_ h8_⟩
  · rw [g_.1 3 dd_ 4 h1_, fr_arr (t := 42) g_ h2_, fr_arr (t := 43) g_ h3_]; exact a1_
  · rw [g_.1 3 dd_ 4 h1_, fr_arr (t := 42) g_ h2_, fr_arr (t := 43) g_ h3_, fr_arr (t := 44) g_ h4_]; exact a2_
theorem cxn_0 {dd_ F_ I_ f_ fc_ : Nat} {G_ : pGr} {k_ : Nat} {E_ : gE} {O_ : gO} {V_ : gV} {S_ : sm_S} (h_ : cxs dd_ F_ I_ f_ fc_ ((G_, 0, k_), E_, O_, V_) S_) : cxn dd_ 0 nx0 S_ := by
  have q_ := h_.2.2.2.2.2.2.2.2.2.1
  have q1_ : S_.1 3 dd_ 5 < 2 ^ 0 := q_.2
  have q2_ : (2 : Int) ^ 0 = 1 := rfl
  refine ⟨?_, fun i_ hi_ => absurd hi_ (Nat.not_lt_zero _)⟩
  show S_.1 3 dd_ 5 = 0
  omega

/-! Builder.build -/
def vw_31n : sx_Wl := ([(1, 3), (1, 6), (1, 8), (1, 9), (1, 13), (3, 0), (3, 1), (3, 2), (3, 3), (3, 4), (3, 5), (3, 6), (3, 7), (3, 8), (3, 9), (10, 6), (10, 7)], [26, 27, 28, 29, 30, 31, 32, 33, 42, 43, 44, 45, 46, 47], [(1, 1)])
def vq_31n (b_ : Nat → Int) (n_ : Nat) (r_ : pD) (dd_ : Nat) (S0_ : sm_S) (u_ : Option sm_V) (S1_ : sm_S) : Prop := u_ = none ∧ gi S1_ ∧ ai_fr (sx_W vw_31n) S0_ S1_ ∧ (idf dd_ S0_ S1_ ∧ (d_lm r_ = 0 ∧ (∃ z_, d_gr r_ z_ ∧ z_.1.1.length ≤ 1000 ∧ dgx dd_ r_ z_ S1_ ∧ dcn dd_ r_ z_ S1_ ∧ S1_.1 3 dd_ 6 = (dnx r_).2 ∧ dcs dd_ (1 + d_I r_ + d_R r_) S1_ ∧ dct dd_ (1 + d_I r_ + d_R r_) S1_) ∧ S1_.1 3 dd_ 0 = 1 ∧ dOk dd_ S1_))
def vx_31n (b_ : Nat → Int) (n_ : Nat) (r_ : pD) (dd_ : Nat) (S0_ : sm_S) (S1_ : sm_S) : Prop := gi S1_ ∧ ai_fr (sx_W vw_31n) S0_ S1_ ∧ (idf dd_ S0_ S1_ ∧ (∃ e_, dfl r_ e_ ∧ ter S1_ e_) ∧ S1_.1 3 dd_ 0 = S0_.1 3 dd_ 0)
set_option maxHeartbeats 4000000 in
theorem vc_31n {sc_ : Nat × (Nat → Int)} (b_ : Nat → Int) (n_ : Nat) (r_ : pD) (dd_ : Nat) (S0_ : sm_S) (hI_ : gi S0_) (hr_ : p_de b_ n_ = .inr r_) (hb_ : br b_ n_ r_.1 r_.2.1 r_.2.2.1 r_.2.2.2.2 S0_) (hmc_ : ∀ k_ : Nat, k_ ≤ r_.2.2.1 → S0_.2.2.1 76 0 k_ = (r_.2.2.2.1 k_ : Int)) (h1_ : 1 ≤ r_.2.2.1) (hn_ : n_ ≤ 1280) : sm_T (mt_P sc_) 27 31 (0, [some (.inr (.inr (some (1, 0)))), some (.inr (.inr (some (3, dd_)))), none, none, none], [], S0_) (fun ro9_ => (∃ u_ S1_, ro9_ = (.inl u_, S1_, 0) ∧ vq_31n b_ n_ r_ dd_ S0_ u_ S1_) ∨ ∃ S1_, ro9_ = (.inr 2, S1_, 1) ∧ vx_31n b_ n_ r_ dd_ S0_ S1_) := by
  have hF_ : ai_fr (sx_W vw_31n) S0_ S0_ := ai_fr_rf
  have hD_ : idf dd_ S0_ S0_ := idf_rf
  obtain ⟨b1_, b2_, ba_, b4_, b5_⟩ := hb_
  have tp9_ : d_tp r_ + 1 = r_.2.2.1 := by unfold d_tp; omega
  have tn9_ : (d_tp r_ : Int) = S0_.1 7 0 3 - 1 := by omega
  have nm9_ := b4_.2 (d_tp r_) (by omega)
  have nm8_ : S0_.2.2.1 75 0 (S0_.1 7 0 3 - 1).toNat = ((16 * r_.2.1 (d_tp r_) + lx_sz b_ n_ (r_.2.1 (d_tp r_)) : Nat) : Int) := by rw [show (S0_.1 7 0 3 - 1).toNat = d_tp r_ by omega]; exact nm9_.1
  have nm7_ := nm9_.2.1
  have nm6_ := nmp_sz nm9_.2
  have cc0_ := ccd_of hn_ hr_ b5_ hI_ hmc_
  clear nm9_
  have hIx1_ : gi (sm_pR S0_ 1 0 1 (some dd_)) := gi_pR hI_
  have hFx2_ : ai_fr (sx_W vw_31n) S0_ (sm_pR S0_ 1 0 1 (some dd_)) := ai_fr_tr hF_ (ai_fr_pR rfl)
  have tx3_ : (sm_pR S0_ 1 0 1 (some dd_)).2.1 1 0 1 = some dd_ := (sm_up_self (f := S0_.2.1) (t := 1) (i := 0) (k := 1) (v := some dd_))
  have hDx4_ : idf dd_ S0_ (sm_pR S0_ 1 0 1 (some dd_)) := idf_pR hD_
  have bx5_ : 0 ≤ S0_.1 7 0 3 ∧ S0_.1 7 0 3 ≤ 16 := hI_.1 7 0 3 rfl
  refine sm_T_go 7 (c1 := (13, [some (.inr (.inr (some (1, 0)))), some (.inr (.inr (some (3, dd_)))), none, none, none], [.inl 1, .inl (S0_.1 7 0 3)], sm_pR S0_ 1 0 1 (some dd_))) rfl ?_
  refine sm_T_bin (w := (S0_.1 7 0 3) - 1) rfl (bi_sub (by omega) (by omega) (by omega)) ?_
  refine sm_T_go 2 (c1 := (16, [some (.inr (.inr (some (1, 0)))), some (.inr (.inr (some (3, dd_)))), some (.inl ((S0_.1 7 0 3) - 1)), none, none], [.inl ((S0_.1 7 0 3) - 1)], sm_pR S0_ 1 0 1 (some dd_))) rfl ?_
  refine sm_T_b0 (a := 3) (z := 4) rfl (fun cx6_ => ?_) (fun cx6_ => ?_)
  · have cx6_ : 0 ≤ (S0_.1 7 0 3) - 1 := of_decide_eq_true cx6_
    refine sm_T_go 4 (c1 := (28, [some (.inr (.inr (some (1, 0)))), some (.inr (.inr (some (3, dd_)))), some (.inl ((S0_.1 7 0 3) - 1)), none, none], [.inl ((S0_.1 7 0 3) - 1), .inr (.inr (some (75, 0)))], sm_pR S0_ 1 0 1 (some dd_))) rfl ?_
    refine sm_T_iald (n := 16) rfl rfl (by omega) (by omega) ?_
    have bx7_ : 0 ≤ S0_.2.2.1 75 0 ((S0_.1 7 0 3) - 1).toNat ∧ S0_.2.2.1 75 0 ((S0_.1 7 0 3) - 1).toNat ≤ 65535 := hI_.2 75 0 _
    refine sm_T_go 1 (c1 := (30, [some (.inr (.inr (some (1, 0)))), some (.inr (.inr (some (3, dd_)))), some (.inl ((S0_.1 7 0 3) - 1)), none, none], [.inl 4, .inl (S0_.2.2.1 75 0 ((S0_.1 7 0 3) - 1).toNat)], sm_pR S0_ 1 0 1 (some dd_))) rfl ?_
    refine sm_T_bin (w := ((S0_.2.2.1 75 0 ((S0_.1 7 0 3) - 1).toNat) / 16)) rfl (bi_shr (k := 4) (by decide) (by omega) (by omega)) ?_
    refine sm_T_go 3 (c1 := (34, [some (.inr (.inr (some (1, 0)))), some (.inr (.inr (some (3, dd_)))), some (.inl ((S0_.1 7 0 3) - 1)), some (.inl ((S0_.2.2.1 75 0 ((S0_.1 7 0 3) - 1).toNat) / 16)), none], [.inl ((S0_.1 7 0 3) - 1), .inr (.inr (some (1, 0)))], sm_pR S0_ 1 0 1 (some dd_))) rfl ?_
    refine sm_T_cal (d1 := 1) (Q1 := vq_32d ((S0_.1 7 0 3) - 1) b_ n_ r_.1 (d_tp r_) dd_ (sm_pR S0_ 1 0 1 (some dd_))) rfl rfl (by decide) (vc_32d ((S0_.1 7 0 3) - 1) b_ n_ r_.1 (d_tp r_) dd_ (sm_pR S0_ 1 0 1 (some dd_)) hIx1_ (by omega) (by (intro k9_ h9_; exact er1_fr (ba_ k9_ (by omega)).2 (ai_fr_pR (W_ := sx_W ([], [], [(1, 1)])) rfl) rfl rfl rfl rfl rfl)) (by exact (ba_ _ (by omega)).1) (by exact tx3_)) (fun u_ Sx8_ px11_ => ?_)
    obtain ⟨vx13_, rfl, hIx9_, hFx10_, px11_⟩ := px11_
    have hFx12_ : ai_fr (sx_W vw_31n) S0_ Sx8_ := ai_fr_tr hFx2_ (fr_le hFx10_ rfl)
    obtain ⟨dx15_, px11_⟩ := px11_
    have hDx14_ : idf dd_ S0_ Sx8_ := idf_tr hDx4_ dx15_
    have tx16_ : Sx8_.2.1 1 0 1 = some dd_ := (hFx10_.2.1 1 0 1 rfl).trans tx3_
    have e34_ := px11_
    have us34_ : Sx8_.1 3 dd_ 0 = S0_.1 3 dd_ 0 := hFx10_.1 3 dd_ 0 rfl
    have gu_ := g_uq (fun m9_ h9_ => (ba_ m9_ h9_).1) (r_ := Sx8_.2.2.1 31 0) (i_ := Sx8_.2.2.1 30 0) (fun m9_ h9_ => ⟨(e34_.2.1 m9_ (by omega)).2, (e34_.2.1 m9_ (by omega)).1⟩) (d_tp r_ + 1) (d_tp r_) (by omega) (by omega)
    have lm_ : vx13_ = d_lm r_ := by rw [e34_.1, gu_.1, gu_.2]; rfl
    have e34c := e34_.2.2
    have er34_ : ∀ k9_, k9_ ≤ d_tp r_ → er1 b_ n_ r_.1 k9_ Sx8_ := fun k9_ h9_ => er1_fr (ba_ k9_ (by omega)).2 hFx12_ rfl rfl rfl rfl rfl
    have lmb_ : 0 ≤ vx13_ ∧ vx13_ ≤ 22 := by rw [lm_]; exact lm_b
    clear e34_
    refine sm_T_go 2 (c1 := (41, [some (.inr (.inr (some (1, 0)))), some (.inr (.inr (some (3, dd_)))), some (.inl ((S0_.1 7 0 3) - 1)), some (.inl ((S0_.2.2.1 75 0 ((S0_.1 7 0 3) - 1).toNat) / 16)), some (.inl vx13_)], [.inl vx13_], Sx8_)) rfl ?_
    refine sm_T_b0 (a := 0) (z := 16) rfl (fun cx17_ => ?_) (fun cx17_ => ?_)
    · have cx17_ : vx13_ = 0 := of_decide_eq_true cx17_
      have l0_ : d_lm r_ = 0 := by omega
      obtain ⟨z_, hz_, zR_, zl_⟩ := d_zz hn_ hr_ l0_
      have l9_ := lm_0 l0_
      obtain ⟨i1_, i2_, i3_, i4_, i5_⟩ := d_in hn_ hr_
      obtain ⟨a1_, a2_, a3_⟩ := e34c (by omega)
      have a2b := a2_.trans gu_.1
      refine sm_T_go 2 (c1 := (59, [some (.inr (.inr (some (1, 0)))), some (.inr (.inr (some (3, dd_)))), some (.inl ((S0_.1 7 0 3) - 1)), some (.inl ((S0_.2.2.1 75 0 ((S0_.1 7 0 3) - 1).toNat) / 16)), some (.inl vx13_)], [.inl ((S0_.1 7 0 3) - 1), .inr (.inr (some (1, 0)))], Sx8_)) rfl ?_
      refine sm_T_cal (d1 := 1) (Q1 := vq_34 ((S0_.1 7 0 3) - 1) b_ n_ r_.1 (d_tp r_) dd_ (1 + d_I r_ + d_R r_) (d_I r_) Sx8_) rfl rfl (by decide) (vc_34 ((S0_.1 7 0 3) - 1) b_ n_ r_.1 (d_tp r_) dd_ (1 + d_I r_ + d_R r_) (d_I r_) Sx8_ hIx9_ (by exact tx16_) (by omega) (by omega) (by omega) (by exact er34_ _ (Nat.le_refl _)) (by exact (ba_ _ (by omega)).1) (by omega)) (fun u_ Sx18_ px21_ => ?_)
      obtain ⟨rfl, hIx19_, hFx20_, px21_⟩ := px21_
      have hFx22_ : ai_fr (sx_W vw_31n) S0_ Sx18_ := ai_fr_tr hFx12_ (fr_le hFx20_ rfl)
      obtain ⟨dx24_, px21_⟩ := px21_
      have hDx23_ : idf dd_ S0_ Sx18_ := idf_tr hDx14_ dx24_
      have tx25_ : Sx18_.2.1 1 0 1 = some dd_ := (hFx20_.2.1 1 0 1 rfl).trans tx16_
      have e59_ := px21_
      have us59_ : Sx18_.1 3 dd_ 0 = S0_.1 3 dd_ 0 := (hFx20_.1 3 dd_ 0 rfl).trans us34_
      have er59_ : ∀ k9_, k9_ ≤ d_tp r_ → er1 b_ n_ r_.1 k9_ Sx18_ := fun k9_ h9_ => er1_fr (ba_ k9_ (by omega)).2 hFx22_ rfl rfl rfl rfl rfl
      have cc59_ : ccd (dC r_) (d_tp r_) Sx18_ := ccd_fr cc0_ (Nat.le_refl _) hFx22_ rfl rfl
      have n59_ := hFx20_.1 3 dd_ 3 rfl
      have m59_ := hFx20_.1 3 dd_ 2 rfl
      have o59_ := hFx20_.1 3 dd_ 1 rfl
      refine sm_T_go 4 (c1 := (66, [some (.inr (.inr (some (1, 0)))), some (.inr (.inr (some (3, dd_)))), some (.inl ((S0_.1 7 0 3) - 1)), some (.inl ((S0_.2.2.1 75 0 ((S0_.1 7 0 3) - 1).toNat) / 16)), some (.inl vx13_)], [.inl 0, .inl 0, .inl ((S0_.1 7 0 3) - 1), .inr (.inr (some (1, 0)))], Sx18_)) rfl ?_
      refine sm_T_cal (d1 := 26) (Q1 := vq_36n ((S0_.1 7 0 3) - 1) 0 0 b_ n_ r_.1 (dC r_) (d_tp r_) 0 dd_ (1 + d_I r_ + d_R r_) (d_I r_) ([], 0, 1) (ein r_.1 (d_tp r_)) z_ nx0 (dnx r_) 0 Sx18_) rfl rfl (by decide) (vc_36nx 16 ((S0_.1 7 0 3) - 1) 0 0 b_ n_ r_.1 (dC r_) (d_tp r_) 0 dd_ (1 + d_I r_ + d_R r_) (d_I r_) ([], 0, 1) (ein r_.1 (d_tp r_)) z_ nx0 (dnx r_) 0 Sx18_ hIx19_ (by exact hIx19_) (by exact tx25_) (by omega) (by rfl) (by omega) (by exact er59_) (by exact (ba_ _ (by omega)).1) (by exact cc59_) (by exact e59_) (by decide) (by (rw [zR_]; omega)) (by exact ⟨by omega, fun k9_ x9_ y9_ q9_ => by simp at q9_⟩) (by exact fun a9_ => ein_w (ba_ _ (by omega)).1 (by omega) (Nat.le_refl _) a9_) (by exact cxn_0 e59_) (by exact hz_) (by exact rfl)) (fun u_ Sx26_ px29_ => ?_)
      obtain ⟨rfl, hIx27_, hFx28_, px29_⟩ := px29_
      have hFx30_ : ai_fr (sx_W vw_31n) S0_ Sx26_ := ai_fr_tr hFx22_ (fr_le hFx28_ rfl)
      obtain ⟨dx32_, px29_⟩ := px29_
      have hDx31_ : idf dd_ S0_ Sx26_ := idf_tr hDx23_ dx32_
      have tx33_ : Sx26_.2.1 1 0 1 = some dd_ := (hFx28_.2.1 1 0 1 rfl).trans tx25_
      have e66_ := px29_
      have us66_ : Sx26_.1 3 dd_ 0 = S0_.1 3 dd_ 0 := (hFx28_.1 3 dd_ 0 rfl).trans us59_
      have cf66_ := cgl_f e66_.1
      have n66_ := hFx28_.1 3 dd_ 3 rfl
      have m66_ := hFx28_.1 3 dd_ 2 rfl
      have o66_ := hFx28_.1 3 dd_ 1 rfl
      have er66_ := er1_fr (er59_ (d_tp r_) (Nat.le_refl _)) hFx28_ rfl rfl rfl rfl rfl
      have bx34_ : 0 ≤ Sx26_.1 1 0 8 ∧ Sx26_.1 1 0 8 ≤ 1 := hIx27_.1 1 0 8 rfl
      refine sm_T_go 2 (c1 := (73, [some (.inr (.inr (some (1, 0)))), some (.inr (.inr (some (3, dd_)))), some (.inl ((S0_.1 7 0 3) - 1)), some (.inl ((S0_.2.2.1 75 0 ((S0_.1 7 0 3) - 1).toNat) / 16)), some (.inl vx13_)], [.inl (Sx26_.1 1 0 8)], Sx26_)) rfl ?_
      refine sm_T_b0 (a := 0) (z := 16) rfl (fun cx35_ => ?_) (fun cx35_ => ?_)
      · have cx35_ : (Sx26_.1 1 0 8) = 0 := of_decide_eq_true cx35_
        have zk_ : z_.1.1.length ≤ 1000 := cf66_.1.mp (by omega)
        obtain ⟨o1_, -, xn_⟩ := e66_.2 zk_
        have ww_ := (exm_w 16 _ _ _ _ hz_).2.2 (by omega) (by omega) ⟨by omega, fun k9_ x9_ y9_ q9_ => by simp at q9_⟩ (fun a9_ => ein_w (ba_ _ (by omega)).1 (by omega) (Nat.le_refl _) a9_)
        have nd_ := cgl_n e66_.1 zk_
        have cn66_ : cxn dd_ (d_R r_) (dnx r_) Sx26_ := by rw [← zR_]; exact xn_
        have gx_ : dgx dd_ r_ z_ Sx26_ := ⟨⟨by omega, by omega, by omega, nd_⟩, (cgl_x e66_.1 zk_).2.2.2.2.2.1⟩
        have dg : dgr dd_ (1 + d_I r_ + d_R r_) Sx26_ := cgx_dgr (cgl_x e66_.1 zk_) ww_.1 (by omega) (by omega)
        refine sm_T_go 2 (c1 := (91, [some (.inr (.inr (some (1, 0)))), some (.inr (.inr (some (3, dd_)))), some (.inl ((S0_.1 7 0 3) - 1)), some (.inl ((S0_.2.2.1 75 0 ((S0_.1 7 0 3) - 1).toNat) / 16)), some (.inl vx13_)], [.inl ((S0_.1 7 0 3) - 1), .inr (.inr (some (1, 0)))], Sx26_)) rfl ?_
        refine sm_T_cal (d1 := 1) (Q1 := vq_45n ((S0_.1 7 0 3) - 1) b_ n_ r_.1 (d_tp r_) dd_ z_.2 ((1 + d_I r_ + d_R r_) + z_.1.1.length) Sx26_) rfl rfl (by decide) (vc_45n ((S0_.1 7 0 3) - 1) b_ n_ r_.1 (d_tp r_) dd_ z_.2 ((1 + d_I r_ + d_R r_) + z_.1.1.length) Sx26_ hIx27_ (by exact tx33_) (by omega) (by exact er66_) (by exact (ba_ _ (by omega)).1) (by omega) (by (intro s9_ h9_; have w9_ := (o1_.2.2.2.2.2.2 s9_ h9_).1; rw [show 8 * (40 * 0 + s9_) = 8 * s9_ by omega] at w9_; exact w9_)) (by exact zl_) (by exact ww_.2)) (fun u_ Sx36_ px39_ => ?_)
        obtain ⟨rfl, hIx37_, hFx38_, px39_⟩ := px39_
        have hFx40_ : ai_fr (sx_W vw_31n) S0_ Sx36_ := ai_fr_tr hFx30_ (fr_le hFx38_ rfl)
        obtain ⟨dx42_, px39_⟩ := px39_
        have hDx41_ : idf dd_ S0_ Sx36_ := idf_tr hDx31_ dx42_
        have tx43_ : Sx36_.2.1 1 0 1 = some dd_ := (hFx38_.2.1 1 0 1 rfl).trans tx33_
        have ex44_ : Sx36_.1 1 0 8 = Sx26_.1 1 0 8 := hFx38_.1 1 0 8 rfl
        have e91_ := (px39_).1
        have xn91_ := cxn_fr cn66_ hFx38_
        have cy91_ : dcn dd_ r_ z_ Sx36_ := ⟨xn91_.1, xn91_.2, (px39_).2⟩
        have n91_ := hFx38_.1 3 dd_ 3 rfl
        have m91_ := hFx38_.1 3 dd_ 2 rfl
        have nd91_ := hFx38_.1 3 dd_ 4 rfl
        have gx91_ := dgx_fr gx_ hFx38_ rfl rfl rfl rfl rfl rfl
        have dg91_ := dgr_fr dg hFx38_ rfl rfl rfl rfl rfl
        have dr91_ : drt dd_ Sx36_ := ⟨by omega, fun k9_ h9_ => by rw [nd91_, nd_]; exact e91_ k9_ (by omega), fun k9_ h9_ => by rw [nd91_, fr_arr (t := 46) hFx38_ rfl]; exact o1_.1.2 k9_ (by rw [zR_]; omega)⟩
        have bg91_ : 0 ≤ Sx36_.1 3 dd_ 5 ∧ Sx36_.1 3 dd_ 5 < 2 ^ (Sx36_.1 3 dd_ 2).toNat := by rw [hFx38_.1 3 dd_ 5 rfl, show (Sx36_.1 3 dd_ 2).toNat = z_.1.2.1 by rw [zR_]; omega]; exact o1_.1.1
        refine sm_T_go 1 (c1 := (95, [some (.inr (.inr (some (1, 0)))), some (.inr (.inr (some (3, dd_)))), some (.inl ((S0_.1 7 0 3) - 1)), some (.inl ((S0_.2.2.1 75 0 ((S0_.1 7 0 3) - 1).toNat) / 16)), some (.inl vx13_)], [.inr (.inr (some (1, 0)))], Sx36_)) rfl ?_
        refine sm_T_cal (d1 := 1) (Q1 := vq_46 dd_ (1 + d_I r_ + d_R r_) Sx36_) rfl rfl (by decide) (vc_46 dd_ (1 + d_I r_ + d_R r_) Sx36_ hIx37_ (by exact tx43_) (by exact dg91_) (by exact dr91_)) (fun u_ Sx45_ px48_ => ?_)
        obtain ⟨rfl, hIx46_, hFx47_, px48_⟩ := px48_
        have hFx49_ : ai_fr (sx_W vw_31n) S0_ Sx45_ := ai_fr_tr hFx40_ (fr_le hFx47_ rfl)
        obtain ⟨dx51_, px48_⟩ := px48_
        have hDx50_ : idf dd_ S0_ Sx45_ := idf_tr hDx41_ dx51_
        have tx52_ : Sx45_.2.1 1 0 1 = some dd_ := (hFx47_.2.1 1 0 1 rfl).trans tx43_
        have cy95_ := dcn_fr cy91_ hFx47_
        have gx95_ := dgx_fr gx91_ hFx47_ rfl rfl rfl rfl rfl rfl
        have dg95_ := dgr_fr dg91_ hFx47_ rfl rfl rfl rfl rfl
        have dr95_ := drt_fr dr91_ hFx47_ rfl rfl rfl rfl rfl
        have bg95_ : 0 ≤ Sx45_.1 3 dd_ 5 ∧ Sx45_.1 3 dd_ 5 < 2 ^ (Sx45_.1 3 dd_ 2).toNat := by rw [hFx47_.1 3 dd_ 5 rfl, hFx47_.1 3 dd_ 2 rfl]; exact bg91_
        refine sm_T_go 1 (c1 := (99, [some (.inr (.inr (some (1, 0)))), some (.inr (.inr (some (3, dd_)))), some (.inl ((S0_.1 7 0 3) - 1)), some (.inl ((S0_.2.2.1 75 0 ((S0_.1 7 0 3) - 1).toNat) / 16)), some (.inl vx13_)], [.inr (.inr (some (1, 0)))], Sx45_)) rfl ?_
        refine sm_T_cal (d1 := 1) (Q1 := vq_47n dd_ (1 + d_I r_ + d_R r_) Sx45_) rfl rfl (by decide) (vc_47n dd_ (1 + d_I r_ + d_R r_) Sx45_ hIx46_ (by exact tx52_) (by exact dg95_)) (fun u_ Sx53_ px56_ => ?_)
        obtain ⟨rfl, hIx54_, hFx55_, px56_⟩ := px56_
        have hFx57_ : ai_fr (sx_W vw_31n) S0_ Sx53_ := ai_fr_tr hFx49_ (fr_le hFx55_ rfl)
        obtain ⟨dx59_, px56_⟩ := px56_
        have hDx58_ : idf dd_ S0_ Sx53_ := idf_tr hDx50_ dx59_
        have tx60_ : Sx53_.2.1 1 0 1 = some dd_ := (hFx55_.2.1 1 0 1 rfl).trans tx52_
        have sw99_ := (px56_).1
        have sr99_ := (px56_).2
        have sq99_ := swq_d (by omega) sr99_
        have cy99_ := dcn_fr cy95_ hFx55_
        have gx99_ := dgx_fr gx95_ hFx55_ rfl rfl rfl rfl rfl rfl
        have dg99_ := dgr_fr dg95_ hFx55_ rfl rfl rfl rfl rfl
        have cs99_ : dcs dd_ (1 + d_I r_ + d_R r_) Sx53_ := ⟨glo_of dg99_ (by have g9_ := dg99_.2.1; omega), sq99_, drt_fr dr95_ hFx55_ rfl rfl rfl rfl rfl⟩
        have dr99_ := drt_fr dr95_ hFx55_ rfl rfl rfl rfl rfl
        have bg99_ : 0 ≤ Sx53_.1 3 dd_ 5 ∧ Sx53_.1 3 dd_ 5 < 2 ^ (Sx53_.1 3 dd_ 2).toNat := by rw [hFx55_.1 3 dd_ 5 rfl, hFx55_.1 3 dd_ 2 rfl]; exact bg95_
        refine sm_T_go 1 (c1 := (103, [some (.inr (.inr (some (1, 0)))), some (.inr (.inr (some (3, dd_)))), some (.inl ((S0_.1 7 0 3) - 1)), some (.inl ((S0_.2.2.1 75 0 ((S0_.1 7 0 3) - 1).toNat) / 16)), some (.inl vx13_)], [.inr (.inr (some (1, 0)))], Sx53_)) rfl ?_
        refine sm_T_cal (d1 := 1) (Q1 := vq_51n dd_ (1 + d_I r_ + d_R r_) Sx53_) rfl rfl (by decide) (vc_51n dd_ (1 + d_I r_ + d_R r_) Sx53_ hIx54_ (by exact tx60_) (by exact dg99_) (by exact dr99_)) (fun u_ Sx61_ px64_ => ?_)
        obtain ⟨rfl, hIx62_, hFx63_, px64_⟩ := px64_
        have hFx65_ : ai_fr (sx_W vw_31n) S0_ Sx61_ := ai_fr_tr hFx57_ (fr_le hFx63_ rfl)
        obtain ⟨dx67_, px64_⟩ := px64_
        have hDx66_ : idf dd_ S0_ Sx61_ := idf_tr hDx58_ dx67_
        have tx68_ : Sx61_.2.1 1 0 1 = some dd_ := (hFx63_.2.1 1 0 1 rfl).trans tx60_
        have tb103_ := (px64_).1
        have ct103_ : dct dd_ (1 + d_I r_ + d_R r_) Sx61_ := dct_of (by omega) (by have g9_ := dg99_.1.1; omega) (by have g9_ := dg99_.1; omega) (by have g9_ := dr99_.1; omega) sr99_ hFx63_ (px64_).2
        have sw103_ := swp_fr sw99_ hFx63_ rfl rfl rfl rfl
        have cy103_ := dcn_fr cy99_ hFx63_
        have gx103_ := dgx_fr gx99_ hFx63_ rfl rfl rfl rfl rfl rfl
        have cs103_ := dcs_fr cs99_ hFx63_
        have dg103_ := dgr_fr dg99_ hFx63_ rfl rfl rfl rfl rfl
        have dr103_ := drt_fr dr99_ hFx63_ rfl rfl rfl rfl rfl
        have bg103_ : 0 ≤ Sx61_.1 3 dd_ 5 ∧ Sx61_.1 3 dd_ 5 < 2 ^ (Sx61_.1 3 dd_ 2).toNat := by rw [hFx63_.1 3 dd_ 5 rfl, hFx63_.1 3 dd_ 2 rfl]; exact bg99_
        refine sm_T_go 1 (c1 := (107, [some (.inr (.inr (some (1, 0)))), some (.inr (.inr (some (3, dd_)))), some (.inl ((S0_.1 7 0 3) - 1)), some (.inl ((S0_.2.2.1 75 0 ((S0_.1 7 0 3) - 1).toNat) / 16)), some (.inl vx13_)], [.inr (.inr (some (1, 0)))], Sx61_)) rfl ?_
        refine sm_T_gr rfl rfl tx68_ ?_
        refine sm_T_go 1 (c1 := (111, [some (.inr (.inr (some (1, 0)))), some (.inr (.inr (some (3, dd_)))), some (.inl ((S0_.1 7 0 3) - 1)), some (.inl ((S0_.2.2.1 75 0 ((S0_.1 7 0 3) - 1).toNat) / 16)), some (.inl vx13_)], [.inr (.inr (some (1, 0))), .inr (.inr (some (3, dd_)))], Sx61_)) rfl ?_
        refine sm_T_gr rfl rfl tx68_ ?_
        refine sm_T_go 2 (c1 := (118, [some (.inr (.inr (some (1, 0)))), some (.inr (.inr (some (3, dd_)))), some (.inl ((S0_.1 7 0 3) - 1)), some (.inl ((S0_.2.2.1 75 0 ((S0_.1 7 0 3) - 1).toNat) / 16)), some (.inl vx13_)], [.inr (.inr (some (33, 0))), .inr (.inr (some (3, dd_))), .inr (.inr (some (3, dd_)))], Sx61_)) rfl ?_
        refine sm_T_cal (d1 := 1) (Q1 := vq_67s dd_ (1 + d_I r_ + d_R r_) Sx61_) rfl rfl (by decide) (vc_67s dd_ (1 + d_I r_ + d_R r_) Sx61_ hIx62_ (by exact dg103_) (by exact dr103_) (by exact sw103_)) (fun u_ Sx69_ px72_ => ?_)
        obtain ⟨vx74_, rfl, hIx70_, hFx71_, px72_⟩ := px72_
        have hFx73_ : ai_fr (sx_W vw_31n) S0_ Sx69_ := ai_fr_tr hFx65_ (fr_le hFx71_ rfl)
        have hDx75_ : idf dd_ S0_ Sx69_ := idf_tr hDx66_ (idf_fr hFx71_ (by decide) (by decide))
        have tx76_ : Sx69_.2.1 1 0 1 = some dd_ := (hFx71_.2.1 1 0 1 rfl).trans tx68_
        have e118_ := (px72_).1
        have tb118_ := dtb_fr tb103_ hFx71_ rfl rfl
        have sw118_ := swp_fr sw103_ hFx71_ rfl rfl rfl rfl
        have cy118_ := dcn_fr cy103_ hFx71_
        have gx118_ := dgx_fr gx103_ hFx71_ rfl rfl rfl rfl rfl rfl
        have cs118_ := dcs_fr cs103_ hFx71_
        have ct118_ := dct_fr ct103_ hFx71_
        have dg118_ := dgr_fr dg103_ hFx71_ rfl rfl rfl rfl rfl
        have dr118_ := drt_fr dr103_ hFx71_ rfl rfl rfl rfl rfl
        have bg118_ : 0 ≤ Sx69_.1 3 dd_ 5 ∧ Sx69_.1 3 dd_ 5 < 2 ^ (Sx69_.1 3 dd_ 2).toNat := by rw [hFx71_.1 3 dd_ 5 rfl, hFx71_.1 3 dd_ 2 rfl]; exact bg103_
        have hIx77_ : gi (sm_pI Sx69_ 3 dd_ 8 vx74_) := gi_pI hIx70_ (show 0 ≤ vx74_ ∧ vx74_ ≤ 1000 from ⟨by omega, by omega⟩)
        have hFx78_ : ai_fr (sx_W vw_31n) S0_ (sm_pI Sx69_ 3 dd_ 8 vx74_) := ai_fr_tr hFx73_ (ai_fr_pI rfl)
        have hDx79_ : idf dd_ S0_ (sm_pI Sx69_ 3 dd_ 8 vx74_) := idf_pI hDx75_ (Or.inr rfl)
        refine sm_T_go 2 (c1 := (125, [some (.inr (.inr (some (1, 0)))), some (.inr (.inr (some (3, dd_)))), some (.inl ((S0_.1 7 0 3) - 1)), some (.inl ((S0_.2.2.1 75 0 ((S0_.1 7 0 3) - 1).toNat) / 16)), some (.inl vx13_)], [.inr (.inr (some (1, 0)))], sm_pI Sx69_ 3 dd_ 8 vx74_)) rfl ?_
        refine sm_T_gr rfl rfl tx76_ ?_
        refine sm_T_go 1 (c1 := (129, [some (.inr (.inr (some (1, 0)))), some (.inr (.inr (some (3, dd_)))), some (.inl ((S0_.1 7 0 3) - 1)), some (.inl ((S0_.2.2.1 75 0 ((S0_.1 7 0 3) - 1).toNat) / 16)), some (.inl vx13_)], [.inr (.inr (some (1, 0))), .inr (.inr (some (3, dd_)))], sm_pI Sx69_ 3 dd_ 8 vx74_)) rfl ?_
        refine sm_T_cal (d1 := 1) (Q1 := vq_52 dd_ (1 + d_I r_ + d_R r_) (sm_pI Sx69_ 3 dd_ 8 vx74_)) rfl rfl (by decide) (vc_52 dd_ (1 + d_I r_ + d_R r_) (sm_pI Sx69_ 3 dd_ 8 vx74_) hIx77_ (by exact tx76_) (by exact dgr_fr (w_ := ([(3, 8)], [], [])) dg118_ (ai_fr_pI rfl) rfl rfl rfl rfl rfl) (by exact (drt_fr (w_ := ([(3, 8)], [], [])) dr118_ (ai_fr_pI rfl) rfl rfl rfl rfl rfl).1.2.2.2) (by exact dtb_fr (w_ := ([(3, 8)], [], [])) tb118_ (ai_fr_pI rfl) rfl rfl) (by (rw [rf_nk (by decide), rf_nk (by decide)]; exact bg118_))) (fun u_ Sx80_ px83_ => ?_)
        obtain ⟨vx85_, rfl, hIx81_, hFx82_, px83_⟩ := px83_
        have hFx84_ : ai_fr (sx_W vw_31n) S0_ Sx80_ := ai_fr_tr hFx78_ (fr_le hFx82_ rfl)
        obtain ⟨dx87_, px83_⟩ := px83_
        have hDx86_ : idf dd_ S0_ Sx80_ := idf_tr hDx79_ dx87_
        have tx88_ : Sx80_.2.1 1 0 1 = some dd_ := (hFx82_.2.1 1 0 1 rfl).trans tx76_
        have e129_ := px83_
        have f129_ := ai_fr_tr (ai_fr_pI (W := sx_W ([(3, 0), (3, 6), (3, 8), (3, 9)], [33], [])) (t := 3) (i := dd_) (k := 8) rfl) (fr_le hFx82_ rfl)
        have bg129_ : 0 ≤ Sx80_.1 3 dd_ 5 ∧ Sx80_.1 3 dd_ 5 < 2 ^ (Sx80_.1 3 dd_ 2).toNat := by rw [f129_.1 3 dd_ 5 rfl, f129_.1 3 dd_ 2 rfl]; exact bg118_
        have hIx89_ : gi (sm_pI Sx80_ 3 dd_ 9 vx85_) := gi_pI hIx81_ (show 0 ≤ vx85_ ∧ vx85_ ≤ 64 from ⟨by omega, by omega⟩)
        have hFx90_ : ai_fr (sx_W vw_31n) S0_ (sm_pI Sx80_ 3 dd_ 9 vx85_) := ai_fr_tr hFx84_ (ai_fr_pI rfl)
        have hDx91_ : idf dd_ S0_ (sm_pI Sx80_ 3 dd_ 9 vx85_) := idf_pI hDx86_ (Or.inr rfl)
        refine sm_T_go 2 (c1 := (136, [some (.inr (.inr (some (1, 0)))), some (.inr (.inr (some (3, dd_)))), some (.inl ((S0_.1 7 0 3) - 1)), some (.inl ((S0_.2.2.1 75 0 ((S0_.1 7 0 3) - 1).toNat) / 16)), some (.inl vx13_)], [.inr (.inr (some (1, 0)))], sm_pI Sx80_ 3 dd_ 9 vx85_)) rfl ?_
        refine sm_T_gr rfl rfl tx88_ ?_
        refine sm_T_go 1 (c1 := (140, [some (.inr (.inr (some (1, 0)))), some (.inr (.inr (some (3, dd_)))), some (.inl ((S0_.1 7 0 3) - 1)), some (.inl ((S0_.2.2.1 75 0 ((S0_.1 7 0 3) - 1).toNat) / 16)), some (.inl vx13_)], [.inr (.inr (some (1, 0))), .inr (.inr (some (3, dd_)))], sm_pI Sx80_ 3 dd_ 9 vx85_)) rfl ?_
        refine sm_T_gr rfl rfl tx88_ ?_
        have bx92_ : 0 ≤ Sx80_.1 3 dd_ 5 ∧ Sx80_.1 3 dd_ 5 ≤ 63 := hIx81_.1 3 dd_ 5 rfl
        have ex93_ : (sm_pI Sx80_ 3 dd_ 9 vx85_).1 3 dd_ 5 = (Sx80_.1 3 dd_ 5) := by (try simp only [rf_eq, rf_nk, rf_nt, rd_fa, rd_af, ne_eq, Nat.reduceEqDiff, not_false_eq_true])
        have hIx94_ : gi (sm_pI (sm_pI Sx80_ 3 dd_ 9 vx85_) 3 dd_ 6 ((sm_pI Sx80_ 3 dd_ 9 vx85_).1 3 dd_ 5)) := gi_pI hIx89_ (show 0 ≤ ((sm_pI Sx80_ 3 dd_ 9 vx85_).1 3 dd_ 5) ∧ ((sm_pI Sx80_ 3 dd_ 9 vx85_).1 3 dd_ 5) ≤ 63 from ⟨by omega, by omega⟩)
        have hFx95_ : ai_fr (sx_W vw_31n) S0_ (sm_pI (sm_pI Sx80_ 3 dd_ 9 vx85_) 3 dd_ 6 ((sm_pI Sx80_ 3 dd_ 9 vx85_).1 3 dd_ 5)) := ai_fr_tr hFx90_ (ai_fr_pI rfl)
        have hDx96_ : idf dd_ S0_ (sm_pI (sm_pI Sx80_ 3 dd_ 9 vx85_) 3 dd_ 6 ((sm_pI Sx80_ 3 dd_ 9 vx85_).1 3 dd_ 5)) := idf_pI hDx91_ (Or.inr rfl)
        refine sm_T_go 3 (c1 := (150, [some (.inr (.inr (some (1, 0)))), some (.inr (.inr (some (3, dd_)))), some (.inl ((S0_.1 7 0 3) - 1)), some (.inl ((S0_.2.2.1 75 0 ((S0_.1 7 0 3) - 1).toNat) / 16)), some (.inl vx13_)], [.inr (.inr (some (1, 0)))], sm_pI (sm_pI Sx80_ 3 dd_ 9 vx85_) 3 dd_ 6 ((sm_pI Sx80_ 3 dd_ 9 vx85_).1 3 dd_ 5))) rfl ?_
        refine sm_T_gr rfl rfl tx88_ ?_
        have hIx97_ : gi (sm_pI (sm_pI (sm_pI Sx80_ 3 dd_ 9 vx85_) 3 dd_ 6 ((sm_pI Sx80_ 3 dd_ 9 vx85_).1 3 dd_ 5)) 3 dd_ 0 1) := gi_pI hIx94_ (show 0 ≤ 1 ∧ 1 ≤ 1 from ⟨by omega, by omega⟩)
        have hFx98_ : ai_fr (sx_W vw_31n) S0_ (sm_pI (sm_pI (sm_pI Sx80_ 3 dd_ 9 vx85_) 3 dd_ 6 ((sm_pI Sx80_ 3 dd_ 9 vx85_).1 3 dd_ 5)) 3 dd_ 0 1) := ai_fr_tr hFx95_ (ai_fr_pI rfl)
        have hDx99_ : idf dd_ S0_ (sm_pI (sm_pI (sm_pI Sx80_ 3 dd_ 9 vx85_) 3 dd_ 6 ((sm_pI Sx80_ 3 dd_ 9 vx85_).1 3 dd_ 5)) 3 dd_ 0 1) := idf_pI hDx96_ (Or.inr rfl)
        refine sm_T_go 2 (c1 := (157, [some (.inr (.inr (some (1, 0)))), some (.inr (.inr (some (3, dd_)))), some (.inl ((S0_.1 7 0 3) - 1)), some (.inl ((S0_.2.2.1 75 0 ((S0_.1 7 0 3) - 1).toNat) / 16)), some (.inl vx13_)], [], sm_pI (sm_pI (sm_pI Sx80_ 3 dd_ 9 vx85_) 3 dd_ 6 ((sm_pI Sx80_ 3 dd_ 9 vx85_).1 3 dd_ 5)) 3 dd_ 0 1)) rfl ?_
        refine sm_T_rv rfl (Or.inl ⟨_, _, rfl, rfl, hIx97_, hFx98_, ?_⟩)
        refine ⟨hDx99_, ?_⟩
        have fz_ : ai_fr (sx_W ([(3, 0), (3, 6), (3, 8), (3, 9)], [33], [])) _ ((sm_pI (sm_pI (sm_pI Sx80_ 3 dd_ 9 vx85_) 3 dd_ 6 ((sm_pI Sx80_ 3 dd_ 9 vx85_).1 3 dd_ 5)) 3 dd_ 0 1)) := ai_fr_tr (ai_fr_tr (ai_fr_tr f129_ (ai_fr_pI rfl)) (ai_fr_pI rfl)) (ai_fr_pI rfl)
        refine ⟨l0_, ⟨z_, hz_, zk_, dgx_fr gx118_ fz_ rfl rfl rfl rfl rfl rfl, dcn_fr cy118_ fz_, by ((try simp only [rd_eq, rd_ne, rf_eq, rf_nk, rf_nt, rd_fa, rd_af, rd_fl, rd_al, rd_lf, rd_la, rd_leq, rd_lne, rd_fr, rd_ar, ne_eq, Nat.reduceEqDiff, not_false_eq_true]); exact (f129_.1 3 dd_ 5 rfl).trans cy118_.1), dcs_fr cs118_ fz_, dct_fr ct118_ fz_⟩, rf_eq, (1 + d_I r_ + d_R r_), dgr_fr dg118_ fz_ rfl rfl rfl rfl rfl, drt_fr dr118_ fz_ rfl rfl rfl rfl rfl, swp_fr sw118_ fz_ rfl rfl rfl rfl, dtb_fr tb118_ fz_ rfl rfl, ?_, ?_⟩
        · rw [fz_.1 3 dd_ 5 rfl, fz_.1 3 dd_ 2 rfl]; exact bg118_
        · rw [fz_.1 3 dd_ 2 rfl]; (try simp only [rd_eq, rd_ne, rf_eq, rf_nk, rf_nt, rd_fa, rd_af, rd_fl, rd_al, rd_lf, rd_la, rd_leq, rd_lne, rd_fr, rd_ar, ne_eq, Nat.reduceEqDiff, not_false_eq_true]); rw [f129_.1 3 dd_ 2 rfl] at bg129_; exact bg129_
      · have cx35_ : ¬ ((Sx26_.1 1 0 8) = 0) := of_decide_eq_false cx35_
        refine sm_T_go 5 (c1 := (86, [some (.inr (.inr (some (1, 0)))), some (.inr (.inr (some (3, dd_)))), some (.inl ((S0_.1 7 0 3) - 1)), some (.inl ((S0_.2.2.1 75 0 ((S0_.1 7 0 3) - 1).toNat) / 16)), some (.inl vx13_)], [.inl ((S0_.2.2.1 75 0 ((S0_.1 7 0 3) - 1).toNat) / 16), .inl 23, .inr (.inr (some (10, 0)))], Sx26_)) rfl ?_
        refine sm_T_calx (d1 := 0) (Q1 := vq_187 23 ((S0_.2.2.1 75 0 ((S0_.1 7 0 3) - 1).toNat) / 16) Sx26_) (Q2 := vx_187 23 ((S0_.2.2.1 75 0 ((S0_.1 7 0 3) - 1).toNat) / 16) Sx26_) rfl rfl (by decide) (vc_187 23 ((S0_.2.2.1 75 0 ((S0_.1 7 0 3) - 1).toNat) / 16) Sx26_ hIx27_ (by omega) (by omega)) rfl (fun Sx100_ px103_ => ?_) (fun u_ Sx100_ px103_ => ?_)
        · obtain ⟨hIx101_, hFx102_, px103_⟩ := px103_
          refine Or.inr ⟨_, rfl, hIx101_, ai_fr_tr hFx30_ (fr_le hFx102_ rfl), ?_⟩
          have y9_ := px103_
          refine ⟨idf_tr hDx31_ (idf_fr hFx102_ (by decide) (by decide)), ⟨(23, r_.2.1 (d_tp r_)), ⟨rfl, Or.inr ⟨l0_, ⟨z_, hz_, by have := cf66_.1; omega⟩, rfl⟩⟩, ⟨y9_.1, ?_⟩⟩, ?_⟩
          · show _ = ((r_.2.1 (d_tp r_) : Nat) : Int); have y8_ := y9_.2; omega
          · exact (hFx102_.1 3 dd_ 0 rfl).trans us66_
        · exact (px103_.2.2.2).elim
    · have cx17_ : ¬ (vx13_ = 0) := of_decide_eq_false cx17_
      refine sm_T_go 5 (c1 := (54, [some (.inr (.inr (some (1, 0)))), some (.inr (.inr (some (3, dd_)))), some (.inl ((S0_.1 7 0 3) - 1)), some (.inl ((S0_.2.2.1 75 0 ((S0_.1 7 0 3) - 1).toNat) / 16)), some (.inl vx13_)], [.inl ((S0_.2.2.1 75 0 ((S0_.1 7 0 3) - 1).toNat) / 16), .inl vx13_, .inr (.inr (some (10, 0)))], Sx8_)) rfl ?_
      refine sm_T_calx (d1 := 0) (Q1 := vq_187 vx13_ ((S0_.2.2.1 75 0 ((S0_.1 7 0 3) - 1).toNat) / 16) Sx8_) (Q2 := vx_187 vx13_ ((S0_.2.2.1 75 0 ((S0_.1 7 0 3) - 1).toNat) / 16) Sx8_) rfl rfl (by decide) (vc_187 vx13_ ((S0_.2.2.1 75 0 ((S0_.1 7 0 3) - 1).toNat) / 16) Sx8_ hIx9_ (by omega) (by omega)) rfl (fun Sx105_ px108_ => ?_) (fun u_ Sx105_ px108_ => ?_)
      · obtain ⟨hIx106_, hFx107_, px108_⟩ := px108_
        refine Or.inr ⟨_, rfl, hIx106_, ai_fr_tr hFx12_ (fr_le hFx107_ rfl), ?_⟩
        have y9_ := px108_
        refine ⟨idf_tr hDx14_ (idf_fr hFx107_ (by decide) (by decide)), ⟨(d_lm r_, r_.2.1 (d_tp r_)), ⟨rfl, Or.inl ⟨by rw [← lm_]; omega, rfl⟩⟩, ⟨y9_.1.trans lm_, ?_⟩⟩, ?_⟩
        · show _ = ((r_.2.1 (d_tp r_) : Nat) : Int); have y8_ := y9_.2; omega
        · exact (hFx107_.1 3 dd_ 0 rfl).trans us34_
      · exact (px108_.2.2.2).elim
  · have cx6_ : ¬ (0 ≤ (S0_.1 7 0 3) - 1) := of_decide_eq_false cx6_
    exfalso; omega
/-! ChipFlow.design -/
def vw_213n : sx_Wl := ([(1, 3), (1, 6), (1, 8), (1, 9), (1, 13), (3, 0), (3, 1), (3, 2), (3, 3), (3, 4), (3, 5), (3, 6), (3, 7), (3, 8), (3, 9), (7, 2), (7, 3), (7, 14), (7, 16), (7, 17), (10, 1), (10, 2), (10, 3), (10, 4), (10, 5), (10, 6), (10, 7), (10, 8), (12, 10)], [26, 27, 28, 29, 30, 31, 32, 33, 42, 43, 44, 45, 46, 47, 74, 75, 76, 77, 78, 79, 80, 81, 82, 83, 84], [(1, 1), (7, 11)])
def vq_213n (b_ : Nat → Int) (n_ : Nat) (S0_ : sm_S) (u_ : Option sm_V) (S1_ : sm_S) : Prop := ∃ v_ : Int, u_ = some (.inl v_) ∧ gi S1_ ∧ ai_fr (sx_W vw_213n) S0_ S1_ ∧ (∃ sl_ : Nat, sl_ < 6 ∧ S0_.1 3 sl_ 0 = 0 ∧ (∀ j_ : Nat, j_ < sl_ → S0_.1 3 j_ 0 = 1) ∧ (S1_.1 10 0 1) = 0 ∧ idf sl_ S0_ S1_ ∧ (((∃ r_ z_, dok b_ n_ r_ z_ ∧ dgx sl_ r_ z_ S1_ ∧ dcn sl_ r_ z_ S1_ ∧ S1_.1 3 sl_ 6 = (dnx r_).2 ∧ dcs sl_ (1 + d_I r_ + d_R r_) S1_ ∧ dct sl_ (1 + d_I r_ + d_R r_) S1_) ∧ S1_.1 3 sl_ 0 = 1 ∧ dOk sl_ S1_ ∧ v_ = (sl_ : Int) ∧ S1_.1 12 0 10 = 0) ∨ (¬ dacc b_ n_ ∧ S1_.1 3 sl_ 0 = 0 ∧ ∃ e_, dfe b_ n_ e_ ∧ v_ = -1 - (e_.2 : Int) ∧ S1_.1 12 0 10 = e_.1)))
def vx_213n (b_ : Nat → Int) (n_ : Nat) (S0_ : sm_S) (S1_ : sm_S) : Prop := gi S1_ ∧ ai_fr (sx_W vw_213n) S0_ S1_ ∧ ((∀ j_ : Nat, j_ < 6 → S0_.1 3 j_ 0 = 1) ∧ S1_ = S0_)
set_option maxHeartbeats 2000000 in
theorem vc_213n {sc_ : Nat × (Nat → Int)} (b_ : Nat → Int) (n_ : Nat) (S0_ : sm_S) (hI_ : gi S0_) (hb_ : S0_.2.2.1 98 0 = b_) (hn_ : (S0_.1 10 0 1) = (n_ : Int)) (hn1_ : n_ ≤ 1280) : sm_T (mt_P sc_) 28 213 (0, [some (.inr (.inr (some (12, 0)))), none, none, none], [], S0_) (fun ro9_ => (∃ u_ S1_ k9_, ro9_ = (.inl u_, S1_, k9_) ∧ k9_ ≤ 1 ∧ vq_213n b_ n_ S0_ u_ S1_) ∨ ∃ S1_, ro9_ = (.inr 3, S1_, 1) ∧ vx_213n b_ n_ S0_ S1_) := by
  have hF_ : ai_fr (sx_W vw_213n) S0_ S0_ := ai_fr_rf
  refine sm_T_go 1 (c1 := (1, [some (.inr (.inr (some (12, 0)))), none, none, none], [.inr (.inr (some (12, 0)))], S0_)) rfl ?_
  refine sm_T_cal (d1 := 0) (Q1 := vq_273  S0_) rfl rfl (by decide) (vc_273  S0_ hI_ ) (fun u_ Sx1_ px4_ => ?_)
  obtain ⟨rfl, vx6_, rfl, px4_⟩ := px4_
  obtain ⟨sl_, hsl_⟩ : ∃ sl_ : Nat, (vx6_ = -1 ∧ ∀ j_ : Nat, j_ < 6 → S0_.1 3 j_ 0 = 1) ∨ (vx6_ = (sl_ : Int) ∧ sl_ < 6 ∧ S0_.1 3 sl_ 0 = 0 ∧ ∀ j_ : Nat, j_ < sl_ → S0_.1 3 j_ 0 = 1) := by rcases px4_ with z_ | ⟨u_, z_⟩; exact ⟨0, Or.inl z_⟩; exact ⟨u_, Or.inr z_⟩
  clear px4_
  obtain ⟨sv_, hsv_⟩ : ∃ sv_, sv_ = vx6_ := ⟨_, rfl⟩
  rw [← hsv_] at hsl_
  refine sm_T_go 3 (c1 := (7, [some (.inr (.inr (some (12, 0)))), some (.inl vx6_), none, none], [.inl (-1), .inl vx6_], S0_)) rfl ?_
  refine sm_T_br (a := 0) (z := 7) rfl (fun cx7_ => ?_) (fun cx7_ => ?_)
  · have cx7_ : vx6_ = (-1) := of_decide_eq_true cx7_
    have ha0_ : ∀ j_ : Nat, j_ < 6 → S0_.1 3 j_ 0 = 1 := by rcases hsl_ with z_ | z_; exact z_.2; (exfalso; have := z_.1; omega)
    refine sm_T_go 1 (c1 := (15, [some (.inr (.inr (some (12, 0)))), some (.inl vx6_), none, none], [.inl 0], S0_)) rfl ?_
    refine sm_T_calg (d1_ := 0) (ex_ := 3) (Q1_ := vq_268 0 S0_) (Q2_ := vx_268 0 S0_) rfl rfl (by decide) (vc_268 0 S0_ hI_ ) rfl rfl (fun Sx8_ px11_ => ?_) (fun u_ Sx8_ px11_ => ?_)
    · obtain ⟨hIx9_, hFx10_, px11_⟩ := px11_
      refine Or.inr ⟨_, rfl, hIx9_, ai_fr_tr hF_ (fr_le hFx10_ rfl), ?_⟩
      obtain ⟨z1_, z2_⟩ := px11_
      first | (exact absurd z1_ (by decide)) | (exact ⟨ha0_, z2_⟩)
    obtain ⟨rfl, hIx9_, hFx10_, px11_⟩ := px11_
    have hFx12_ : ai_fr (sx_W vw_213n) S0_ Sx8_ := ai_fr_tr hF_ (fr_le hFx10_ rfl)
    have e15_ := px11_
    obtain ⟨hs1_, hs2_, hs3_, hs4_⟩ : sv_ = (sl_ : Int) ∧ sl_ < 6 ∧ S0_.1 3 sl_ 0 = 0 ∧ ∀ j_ : Nat, j_ < sl_ → S0_.1 3 j_ 0 = 1 := by first | (exact absurd rfl e15_) | (rcases hsl_ with z_ | z_; (exact absurd z_.1 nv_); exact z_)
    clear hsl_
    have hb15_ := (fr_arr (t := 98) (i := 0) hFx10_ rfl).trans hb_
    have hn15_ := (hFx10_.1 10 0 1 rfl).trans hn_
    have d15_ : idf sl_ S0_ Sx8_ := idf_fr hFx10_ (by decide) (by decide)
    have u15_ : Sx8_.1 3 sl_ 0 = S0_.1 3 sl_ 0 := hFx10_.1 3 sl_ 0 rfl
    have hIx13_ : gi (sm_pI Sx8_ 12 0 10 0) := gi_pI hIx9_ (show 0 ≤ 0 ∧ 0 ≤ 23 from ⟨by omega, by omega⟩)
    have hFx14_ : ai_fr (sx_W vw_213n) S0_ (sm_pI Sx8_ 12 0 10 0) := ai_fr_tr hFx12_ (ai_fr_pI rfl)
    refine sm_T_go 7 (c1 := (29, [some (.inr (.inr (some (12, 0)))), some (.inl vx6_), some (.inl vx6_), none], [.inr (.inr (some (7, 0)))], sm_pI Sx8_ 12 0 10 0)) rfl ?_
    refine sm_T_calh (d1_ := 7) (ex_ := 2) (Q1_ := vq_115 b_ n_ (sm_pI Sx8_ 12 0 10 0)) (Q2_ := vx_115 b_ n_ (sm_pI Sx8_ 12 0 10 0)) rfl rfl (by decide) (vc_115 b_ n_ (sm_pI Sx8_ 12 0 10 0) hIx13_ (by exact hb15_) (by exact hn15_) (by exact hn1_)) rfl rfl (Nat.le_of_ble_eq_true rfl) (fun Sx15_ px18_ => ?_) (fun u_ Sx15_ px18_ => ?_)
    · obtain ⟨hIx16_, hFx17_, px18_⟩ := px18_
      have hFx19_ : ai_fr (sx_W vw_213n) S0_ Sx15_ := ai_fr_tr hFx14_ (fr_le hFx17_ rfl)
      obtain ⟨e9_, w1_, te_⟩ := px18_
      have na_ := dacc_l w1_
      have de9_ : dfe b_ n_ e9_ := Or.inl w1_
      have dz_ : idf sl_ S0_ Sx15_ := idf_tr (idf_pI d15_ (Or.inl (by decide))) (idf_fr hFx17_ (by decide) (by decide))
      have uz_ : Sx15_.1 3 sl_ 0 = 0 := ((hFx17_.1 3 sl_ 0 rfl).trans (rf_nt (by decide))).trans (u15_.trans hs3_)
      refine sm_T_go 0 (c1 := (49, [some (.inr (.inr (some (12, 0)))), some (.inl vx6_), some (.inl vx6_), none], [], Sx15_)) rfl ?_
      have bx20_ : 0 ≤ Sx15_.1 10 0 6 ∧ Sx15_.1 10 0 6 ≤ 23 := hIx16_.1 10 0 6 rfl
      have hIx21_ : gi (sm_pI Sx15_ 12 0 10 (Sx15_.1 10 0 6)) := gi_pI hIx16_ (show 0 ≤ (Sx15_.1 10 0 6) ∧ (Sx15_.1 10 0 6) ≤ 23 from ⟨by omega, by omega⟩)
      have hFx22_ : ai_fr (sx_W vw_213n) S0_ (sm_pI Sx15_ 12 0 10 (Sx15_.1 10 0 6)) := ai_fr_tr hFx19_ (ai_fr_pI rfl)
      have bx23_ : 0 ≤ Sx15_.1 10 0 7 ∧ Sx15_.1 10 0 7 ≤ 4095 := hIx16_.1 10 0 7 rfl
      refine sm_T_go 9 (c1 := (68, [some (.inr (.inr (some (12, 0)))), some (.inl vx6_), some (.inl vx6_), none], [.inl (Sx15_.1 10 0 7), .inl (-1)], sm_pI Sx15_ 12 0 10 (Sx15_.1 10 0 6))) rfl ?_
      refine sm_T_bin (w := -(Sx15_.1 10 0 7) - 1) rfl (bi_sub (by omega) (by omega) (by omega)) ?_
      have hIx24_ : gi (sm_pI (sm_pI Sx15_ 12 0 10 (Sx15_.1 10 0 6)) 10 0 1 0) := gi_pI hIx21_ (show 0 ≤ 0 ∧ 0 ≤ 1280 from ⟨by omega, by omega⟩)
      have hFx25_ : ai_fr (sx_W vw_213n) S0_ (sm_pI (sm_pI Sx15_ 12 0 10 (Sx15_.1 10 0 6)) 10 0 1 0) := ai_fr_tr hFx22_ (ai_fr_pI rfl)
      refine sm_T_go 6 (c1 := (79, [some (.inr (.inr (some (12, 0)))), some (.inl vx6_), some (.inl (-(Sx15_.1 10 0 7) - 1)), none], [.inl (-(Sx15_.1 10 0 7) - 1)], sm_pI (sm_pI Sx15_ 12 0 10 (Sx15_.1 10 0 6)) 10 0 1 0)) rfl ?_
      refine sm_T_ri rfl (Or.inl ⟨_, _, _, rfl, Nat.le_of_ble_eq_true rfl, _, rfl, hIx24_, hFx25_, ?_⟩)
      first | (exact absurd rfl e15_) | (refine ⟨sl_, hs2_, hs3_, hs4_, rf_eq, idf_pI d42_ (Or.inl (by decide)), Or.inl ⟨⟨r9_, z9_, ac_, dgx_fr (w_ := ([(10, 1)], [], [])) x6_ (ai_fr_pI rfl) rfl rfl rfl rfl rfl rfl, dcn_fr (w_ := ([(10, 1)], [], [])) x7_ (ai_fr_pI rfl), (rf_nt (by decide)).trans x8_, dcs_fr (w_ := ([(10, 1)], [], [])) xs (ai_fr_pI rfl), dct_fr (w_ := ([(10, 1)], [], [])) xt_ (ai_fr_pI rfl)⟩, (rf_nt (by decide)).trans x4_, ?_, by omega, (rf_nt (by decide)).trans lf42_⟩⟩; obtain ⟨F9_, y1_, y2_, y3_, y4_, y5_⟩ := x5_; have fz_ : ai_fr (sx_W ([(10, 1)], [], [])) _ ((sm_pI (sm_pI Sx15_ 12 0 10 (Sx15_.1 10 0 6)) 10 0 1 0)) := ai_fr_pI rfl; refine ⟨F9_, dgr_fr y1_ fz_ rfl rfl rfl rfl rfl, drt_fr y2_ fz_ rfl rfl rfl rfl rfl, swp_fr y3_ fz_ rfl rfl rfl rfl, dtb_fr y4_ fz_ rfl rfl, ?_⟩; rw [fz_.1 3 sl_ 5 rfl, fz_.1 3 sl_ 6 rfl, fz_.1 3 sl_ 2 rfl]; exact y5_) | (refine ⟨sl_, hs2_, hs3_, hs4_, rf_eq, idf_pI (idf_pI dz_ (Or.inl (by decide))) (Or.inl (by decide)), Or.inr ⟨na_, ?_, e9_, de9_, ?_, ?_⟩⟩; exact (rf_nt (by decide)).trans ((rf_nt (by decide)).trans uz_); (have t9_ := te_.2; omega); exact (rf_nt (by decide)).trans (rf_eq.trans te_.1))
    obtain ⟨rfl, hIx16_, hFx17_, px18_⟩ := px18_
    have hFx19_ : ai_fr (sx_W vw_213n) S0_ Sx15_ := ai_fr_tr hFx14_ (fr_le hFx17_ rfl)
    obtain ⟨r9_, w1_, w2_, w3_, w4_⟩ := px18_
    have lf29_ : Sx15_.1 12 0 10 = 0 := (hFx17_.1 12 0 10 rfl).trans rf_eq
    have d29_ : idf sl_ S0_ Sx15_ := idf_tr (idf_pI d15_ (Or.inl (by decide))) (idf_fr hFx17_ (by decide) (by decide))
    have u29_ : Sx15_.1 3 sl_ 0 = 0 := ((hFx17_.1 3 sl_ 0 rfl).trans (rf_nt (by decide))).trans (u15_.trans hs3_)
    refine sm_T_go 5 (c1 := (41, [some (.inr (.inr (some (12, 0)))), some (.inl vx6_), some (.inl vx6_), none], [.inl vx6_, .inr (.inr (some (110, 0))), .inr (.inr (some (1, 0)))], Sx15_)) rfl ?_
    refine sm_T_aald (t0 := 4) (n := 6) rfl rfl (by omega) (by omega) ?_
    refine sm_T_calh (d1_ := 27) (ex_ := 2) (Q1_ := vq_31n b_ n_ r9_ (vx6_.toNat) Sx15_) (Q2_ := vx_31n b_ n_ r9_ (vx6_.toNat) Sx15_) rfl rfl (by decide) (vc_31n b_ n_ r9_ (vx6_.toNat) Sx15_ hIx16_ (by exact w1_) (by exact w2_) (by exact w3_) (by exact w4_) (by exact hn1_)) rfl rfl (Nat.le_of_ble_eq_true rfl) (fun Sx26_ px29_ => ?_) (fun u_ Sx26_ px29_ => ?_)
    · obtain ⟨hIx27_, hFx28_, px29_⟩ := px29_
      have hFx30_ : ai_fr (sx_W vw_213n) S0_ Sx26_ := ai_fr_tr hFx19_ (fr_le hFx28_ rfl)
      obtain ⟨q1_, ⟨e9_, q2_, te_⟩, q3_⟩ := px29_
      rw [← hsv_, hs1_, Int.toNat_natCast] at q1_ q3_
      have na_ := dfl_na w1_ q2_
      have de9_ : dfe b_ n_ e9_ := Or.inr ⟨r9_, w1_, q2_⟩
      have dz_ : idf sl_ S0_ Sx26_ := idf_tr d29_ q1_
      have uz_ : Sx26_.1 3 sl_ 0 = 0 := q3_.trans u29_
      refine sm_T_go 0 (c1 := (49, [some (.inr (.inr (some (12, 0)))), some (.inl vx6_), some (.inl vx6_), none], [], Sx26_)) rfl ?_
      have bx31_ : 0 ≤ Sx26_.1 10 0 6 ∧ Sx26_.1 10 0 6 ≤ 23 := hIx27_.1 10 0 6 rfl
      have hIx32_ : gi (sm_pI Sx26_ 12 0 10 (Sx26_.1 10 0 6)) := gi_pI hIx27_ (show 0 ≤ (Sx26_.1 10 0 6) ∧ (Sx26_.1 10 0 6) ≤ 23 from ⟨by omega, by omega⟩)
      have hFx33_ : ai_fr (sx_W vw_213n) S0_ (sm_pI Sx26_ 12 0 10 (Sx26_.1 10 0 6)) := ai_fr_tr hFx30_ (ai_fr_pI rfl)
      have bx34_ : 0 ≤ Sx26_.1 10 0 7 ∧ Sx26_.1 10 0 7 ≤ 4095 := hIx27_.1 10 0 7 rfl
      refine sm_T_go 9 (c1 := (68, [some (.inr (.inr (some (12, 0)))), some (.inl vx6_), some (.inl vx6_), none], [.inl (Sx26_.1 10 0 7), .inl (-1)], sm_pI Sx26_ 12 0 10 (Sx26_.1 10 0 6))) rfl ?_
      refine sm_T_bin (w := -(Sx26_.1 10 0 7) - 1) rfl (bi_sub (by omega) (by omega) (by omega)) ?_
      have hIx35_ : gi (sm_pI (sm_pI Sx26_ 12 0 10 (Sx26_.1 10 0 6)) 10 0 1 0) := gi_pI hIx32_ (show 0 ≤ 0 ∧ 0 ≤ 1280 from ⟨by omega, by omega⟩)
      have hFx36_ : ai_fr (sx_W vw_213n) S0_ (sm_pI (sm_pI Sx26_ 12 0 10 (Sx26_.1 10 0 6)) 10 0 1 0) := ai_fr_tr hFx33_ (ai_fr_pI rfl)
      refine sm_T_go 6 (c1 := (79, [some (.inr (.inr (some (12, 0)))), some (.inl vx6_), some (.inl (-(Sx26_.1 10 0 7) - 1)), none], [.inl (-(Sx26_.1 10 0 7) - 1)], sm_pI (sm_pI Sx26_ 12 0 10 (Sx26_.1 10 0 6)) 10 0 1 0)) rfl ?_
      refine sm_T_ri rfl (Or.inl ⟨_, _, _, rfl, Nat.le_of_ble_eq_true rfl, _, rfl, hIx35_, hFx36_, ?_⟩)
      first | (exact absurd rfl e15_) | (refine ⟨sl_, hs2_, hs3_, hs4_, rf_eq, idf_pI d42_ (Or.inl (by decide)), Or.inl ⟨⟨r9_, z9_, ac_, dgx_fr (w_ := ([(10, 1)], [], [])) x6_ (ai_fr_pI rfl) rfl rfl rfl rfl rfl rfl, dcn_fr (w_ := ([(10, 1)], [], [])) x7_ (ai_fr_pI rfl), (rf_nt (by decide)).trans x8_, dcs_fr (w_ := ([(10, 1)], [], [])) xs (ai_fr_pI rfl), dct_fr (w_ := ([(10, 1)], [], [])) xt_ (ai_fr_pI rfl)⟩, (rf_nt (by decide)).trans x4_, ?_, by omega, (rf_nt (by decide)).trans lf42_⟩⟩; obtain ⟨F9_, y1_, y2_, y3_, y4_, y5_⟩ := x5_; have fz_ : ai_fr (sx_W ([(10, 1)], [], [])) _ ((sm_pI (sm_pI Sx26_ 12 0 10 (Sx26_.1 10 0 6)) 10 0 1 0)) := ai_fr_pI rfl; refine ⟨F9_, dgr_fr y1_ fz_ rfl rfl rfl rfl rfl, drt_fr y2_ fz_ rfl rfl rfl rfl rfl, swp_fr y3_ fz_ rfl rfl rfl rfl, dtb_fr y4_ fz_ rfl rfl, ?_⟩; rw [fz_.1 3 sl_ 5 rfl, fz_.1 3 sl_ 6 rfl, fz_.1 3 sl_ 2 rfl]; exact y5_) | (refine ⟨sl_, hs2_, hs3_, hs4_, rf_eq, idf_pI (idf_pI dz_ (Or.inl (by decide))) (Or.inl (by decide)), Or.inr ⟨na_, ?_, e9_, de9_, ?_, ?_⟩⟩; exact (rf_nt (by decide)).trans ((rf_nt (by decide)).trans uz_); (have t9_ := te_.2; omega); exact (rf_nt (by decide)).trans (rf_eq.trans te_.1))
    obtain ⟨rfl, hIx27_, hFx28_, px29_⟩ := px29_
    have hFx30_ : ai_fr (sx_W vw_213n) S0_ Sx26_ := ai_fr_tr hFx19_ (fr_le hFx28_ rfl)
    obtain ⟨dx37_, px29_⟩ := px29_
    have e42_ := px29_
    have k42_ := dx37_
    rw [← hsv_, hs1_, Int.toNat_natCast] at e42_ k42_
    have lf42_ : Sx26_.1 12 0 10 = 0 := (hFx28_.1 12 0 10 rfl).trans lf29_
    have d42_ : idf sl_ S0_ Sx26_ := idf_tr d29_ k42_
    obtain ⟨x1_, ⟨z9_, x2_, x3_, x6_, x7_, x8_, xs, xt_⟩, x4_, x5_⟩ := e42_
    have ac_ : dok b_ n_ r9_ z9_ := ⟨w1_, x1_, x2_, x3_⟩
    have hIx38_ : gi (sm_pI Sx26_ 10 0 1 0) := gi_pI hIx27_ (show 0 ≤ 0 ∧ 0 ≤ 1280 from ⟨by omega, by omega⟩)
    have hFx39_ : ai_fr (sx_W vw_213n) S0_ (sm_pI Sx26_ 10 0 1 0) := ai_fr_tr hFx30_ (ai_fr_pI rfl)
    refine sm_T_go 6 (c1 := (79, [some (.inr (.inr (some (12, 0)))), some (.inl vx6_), some (.inl vx6_), none], [.inl vx6_], sm_pI Sx26_ 10 0 1 0)) rfl ?_
    refine sm_T_ri rfl (Or.inl ⟨_, _, _, rfl, Nat.le_of_ble_eq_true rfl, _, rfl, hIx38_, hFx39_, ?_⟩)
    first | (exact absurd rfl e15_) | (refine ⟨sl_, hs2_, hs3_, hs4_, rf_eq, idf_pI d42_ (Or.inl (by decide)), Or.inl ⟨⟨r9_, z9_, ac_, dgx_fr (w_ := ([(10, 1)], [], [])) x6_ (ai_fr_pI rfl) rfl rfl rfl rfl rfl rfl, dcn_fr (w_ := ([(10, 1)], [], [])) x7_ (ai_fr_pI rfl), (rf_nt (by decide)).trans x8_, dcs_fr (w_ := ([(10, 1)], [], [])) xs (ai_fr_pI rfl), dct_fr (w_ := ([(10, 1)], [], [])) xt_ (ai_fr_pI rfl)⟩, (rf_nt (by decide)).trans x4_, ?_, by omega, (rf_nt (by decide)).trans lf42_⟩⟩; obtain ⟨F9_, y1_, y2_, y3_, y4_, y5_⟩ := x5_; have fz_ : ai_fr (sx_W ([(10, 1)], [], [])) _ ((sm_pI Sx26_ 10 0 1 0)) := ai_fr_pI rfl; refine ⟨F9_, dgr_fr y1_ fz_ rfl rfl rfl rfl rfl, drt_fr y2_ fz_ rfl rfl rfl rfl rfl, swp_fr y3_ fz_ rfl rfl rfl rfl, dtb_fr y4_ fz_ rfl rfl, ?_⟩; rw [fz_.1 3 sl_ 5 rfl, fz_.1 3 sl_ 6 rfl, fz_.1 3 sl_ 2 rfl]; exact y5_) | (refine ⟨sl_, hs2_, hs3_, hs4_, rf_eq, idf_pI (idf_pI dz_ (Or.inl (by decide))) (Or.inl (by decide)), Or.inr ⟨na_, ?_, e9_, de9_, ?_, ?_⟩⟩; exact (rf_nt (by decide)).trans ((rf_nt (by decide)).trans uz_); (have t9_ := te_.2; omega); exact (rf_nt (by decide)).trans (rf_eq.trans te_.1))
  · have cx7_ : ¬ (vx6_ = (-1)) := of_decide_eq_false cx7_
    have nv_ := cx7_
    rw [← hsv_] at nv_
    refine sm_T_go 2 (c1 := (15, [some (.inr (.inr (some (12, 0)))), some (.inl vx6_), none, none], [.inl 1], S0_)) rfl ?_
    refine sm_T_calg (d1_ := 0) (ex_ := 3) (Q1_ := vq_268 1 S0_) (Q2_ := vx_268 1 S0_) rfl rfl (by decide) (vc_268 1 S0_ hI_ ) rfl rfl (fun Sx40_ px43_ => ?_) (fun u_ Sx40_ px43_ => ?_)
    · obtain ⟨hIx41_, hFx42_, px43_⟩ := px43_
      refine Or.inr ⟨_, rfl, hIx41_, ai_fr_tr hF_ (fr_le hFx42_ rfl), ?_⟩
      obtain ⟨z1_, z2_⟩ := px43_
      first | (exact absurd z1_ (by decide)) | (exact ⟨ha0_, z2_⟩)
    obtain ⟨rfl, hIx41_, hFx42_, px43_⟩ := px43_
    have hFx44_ : ai_fr (sx_W vw_213n) S0_ Sx40_ := ai_fr_tr hF_ (fr_le hFx42_ rfl)
    have e15_ := px43_
    obtain ⟨hs1_, hs2_, hs3_, hs4_⟩ : sv_ = (sl_ : Int) ∧ sl_ < 6 ∧ S0_.1 3 sl_ 0 = 0 ∧ ∀ j_ : Nat, j_ < sl_ → S0_.1 3 j_ 0 = 1 := by first | (exact absurd rfl e15_) | (rcases hsl_ with z_ | z_; (exact absurd z_.1 nv_); exact z_)
    clear hsl_
    have hb15_ := (fr_arr (t := 98) (i := 0) hFx42_ rfl).trans hb_
    have hn15_ := (hFx42_.1 10 0 1 rfl).trans hn_
    have d15_ : idf sl_ S0_ Sx40_ := idf_fr hFx42_ (by decide) (by decide)
    have u15_ : Sx40_.1 3 sl_ 0 = S0_.1 3 sl_ 0 := hFx42_.1 3 sl_ 0 rfl
    have hIx45_ : gi (sm_pI Sx40_ 12 0 10 0) := gi_pI hIx41_ (show 0 ≤ 0 ∧ 0 ≤ 23 from ⟨by omega, by omega⟩)
    have hFx46_ : ai_fr (sx_W vw_213n) S0_ (sm_pI Sx40_ 12 0 10 0) := ai_fr_tr hFx44_ (ai_fr_pI rfl)
    refine sm_T_go 7 (c1 := (29, [some (.inr (.inr (some (12, 0)))), some (.inl vx6_), some (.inl vx6_), none], [.inr (.inr (some (7, 0)))], sm_pI Sx40_ 12 0 10 0)) rfl ?_
    refine sm_T_calh (d1_ := 7) (ex_ := 2) (Q1_ := vq_115 b_ n_ (sm_pI Sx40_ 12 0 10 0)) (Q2_ := vx_115 b_ n_ (sm_pI Sx40_ 12 0 10 0)) rfl rfl (by decide) (vc_115 b_ n_ (sm_pI Sx40_ 12 0 10 0) hIx45_ (by exact hb15_) (by exact hn15_) (by exact hn1_)) rfl rfl (Nat.le_of_ble_eq_true rfl) (fun Sx47_ px50_ => ?_) (fun u_ Sx47_ px50_ => ?_)
    · obtain ⟨hIx48_, hFx49_, px50_⟩ := px50_
      have hFx51_ : ai_fr (sx_W vw_213n) S0_ Sx47_ := ai_fr_tr hFx46_ (fr_le hFx49_ rfl)
      obtain ⟨e9_, w1_, te_⟩ := px50_
      have na_ := dacc_l w1_
      have de9_ : dfe b_ n_ e9_ := Or.inl w1_
      have dz_ : idf sl_ S0_ Sx47_ := idf_tr (idf_pI d15_ (Or.inl (by decide))) (idf_fr hFx49_ (by decide) (by decide))
      have uz_ : Sx47_.1 3 sl_ 0 = 0 := ((hFx49_.1 3 sl_ 0 rfl).trans (rf_nt (by decide))).trans (u15_.trans hs3_)
      refine sm_T_go 0 (c1 := (49, [some (.inr (.inr (some (12, 0)))), some (.inl vx6_), some (.inl vx6_), none], [], Sx47_)) rfl ?_
      have bx52_ : 0 ≤ Sx47_.1 10 0 6 ∧ Sx47_.1 10 0 6 ≤ 23 := hIx48_.1 10 0 6 rfl
      have hIx53_ : gi (sm_pI Sx47_ 12 0 10 (Sx47_.1 10 0 6)) := gi_pI hIx48_ (show 0 ≤ (Sx47_.1 10 0 6) ∧ (Sx47_.1 10 0 6) ≤ 23 from ⟨by omega, by omega⟩)
      have hFx54_ : ai_fr (sx_W vw_213n) S0_ (sm_pI Sx47_ 12 0 10 (Sx47_.1 10 0 6)) := ai_fr_tr hFx51_ (ai_fr_pI rfl)
      have bx55_ : 0 ≤ Sx47_.1 10 0 7 ∧ Sx47_.1 10 0 7 ≤ 4095 := hIx48_.1 10 0 7 rfl
      refine sm_T_go 9 (c1 := (68, [some (.inr (.inr (some (12, 0)))), some (.inl vx6_), some (.inl vx6_), none], [.inl (Sx47_.1 10 0 7), .inl (-1)], sm_pI Sx47_ 12 0 10 (Sx47_.1 10 0 6))) rfl ?_
      refine sm_T_bin (w := -(Sx47_.1 10 0 7) - 1) rfl (bi_sub (by omega) (by omega) (by omega)) ?_
      have hIx56_ : gi (sm_pI (sm_pI Sx47_ 12 0 10 (Sx47_.1 10 0 6)) 10 0 1 0) := gi_pI hIx53_ (show 0 ≤ 0 ∧ 0 ≤ 1280 from ⟨by omega, by omega⟩)
      have hFx57_ : ai_fr (sx_W vw_213n) S0_ (sm_pI (sm_pI Sx47_ 12 0 10 (Sx47_.1 10 0 6)) 10 0 1 0) := ai_fr_tr hFx54_ (ai_fr_pI rfl)
      refine sm_T_go 6 (c1 := (79, [some (.inr (.inr (some (12, 0)))), some (.inl vx6_), some (.inl (-(Sx47_.1 10 0 7) - 1)), none], [.inl (-(Sx47_.1 10 0 7) - 1)], sm_pI (sm_pI Sx47_ 12 0 10 (Sx47_.1 10 0 6)) 10 0 1 0)) rfl ?_
      refine sm_T_ri rfl (Or.inl ⟨_, _, _, rfl, Nat.le_of_ble_eq_true rfl, _, rfl, hIx56_, hFx57_, ?_⟩)
      first | (exact absurd rfl e15_) | (refine ⟨sl_, hs2_, hs3_, hs4_, rf_eq, idf_pI d42_ (Or.inl (by decide)), Or.inl ⟨⟨r9_, z9_, ac_, dgx_fr (w_ := ([(10, 1)], [], [])) x6_ (ai_fr_pI rfl) rfl rfl rfl rfl rfl rfl, dcn_fr (w_ := ([(10, 1)], [], [])) x7_ (ai_fr_pI rfl), (rf_nt (by decide)).trans x8_, dcs_fr (w_ := ([(10, 1)], [], [])) xs (ai_fr_pI rfl), dct_fr (w_ := ([(10, 1)], [], [])) xt_ (ai_fr_pI rfl)⟩, (rf_nt (by decide)).trans x4_, ?_, by omega, (rf_nt (by decide)).trans lf42_⟩⟩; obtain ⟨F9_, y1_, y2_, y3_, y4_, y5_⟩ := x5_; have fz_ : ai_fr (sx_W ([(10, 1)], [], [])) _ ((sm_pI (sm_pI Sx47_ 12 0 10 (Sx47_.1 10 0 6)) 10 0 1 0)) := ai_fr_pI rfl; refine ⟨F9_, dgr_fr y1_ fz_ rfl rfl rfl rfl rfl, drt_fr y2_ fz_ rfl rfl rfl rfl rfl, swp_fr y3_ fz_ rfl rfl rfl rfl, dtb_fr y4_ fz_ rfl rfl, ?_⟩; rw [fz_.1 3 sl_ 5 rfl, fz_.1 3 sl_ 6 rfl, fz_.1 3 sl_ 2 rfl]; exact y5_) | (refine ⟨sl_, hs2_, hs3_, hs4_, rf_eq, idf_pI (idf_pI dz_ (Or.inl (by decide))) (Or.inl (by decide)), Or.inr ⟨na_, ?_, e9_, de9_, ?_, ?_⟩⟩; exact (rf_nt (by decide)).trans ((rf_nt (by decide)).trans uz_); (have t9_ := te_.2; omega); exact (rf_nt (by decide)).trans (rf_eq.trans te_.1))
    obtain ⟨rfl, hIx48_, hFx49_, px50_⟩ := px50_
    have hFx51_ : ai_fr (sx_W vw_213n) S0_ Sx47_ := ai_fr_tr hFx46_ (fr_le hFx49_ rfl)
    obtain ⟨r9_, w1_, w2_, w3_, w4_⟩ := px50_
    have lf29_ : Sx47_.1 12 0 10 = 0 := (hFx49_.1 12 0 10 rfl).trans rf_eq
    have d29_ : idf sl_ S0_ Sx47_ := idf_tr (idf_pI d15_ (Or.inl (by decide))) (idf_fr hFx49_ (by decide) (by decide))
    have u29_ : Sx47_.1 3 sl_ 0 = 0 := ((hFx49_.1 3 sl_ 0 rfl).trans (rf_nt (by decide))).trans (u15_.trans hs3_)
    refine sm_T_go 5 (c1 := (41, [some (.inr (.inr (some (12, 0)))), some (.inl vx6_), some (.inl vx6_), none], [.inl vx6_, .inr (.inr (some (110, 0))), .inr (.inr (some (1, 0)))], Sx47_)) rfl ?_
    refine sm_T_aald (t0 := 4) (n := 6) rfl rfl (by omega) (by omega) ?_
    refine sm_T_calh (d1_ := 27) (ex_ := 2) (Q1_ := vq_31n b_ n_ r9_ (vx6_.toNat) Sx47_) (Q2_ := vx_31n b_ n_ r9_ (vx6_.toNat) Sx47_) rfl rfl (by decide) (vc_31n b_ n_ r9_ (vx6_.toNat) Sx47_ hIx48_ (by exact w1_) (by exact w2_) (by exact w3_) (by exact w4_) (by exact hn1_)) rfl rfl (Nat.le_of_ble_eq_true rfl) (fun Sx58_ px61_ => ?_) (fun u_ Sx58_ px61_ => ?_)
    · obtain ⟨hIx59_, hFx60_, px61_⟩ := px61_
      have hFx62_ : ai_fr (sx_W vw_213n) S0_ Sx58_ := ai_fr_tr hFx51_ (fr_le hFx60_ rfl)
      obtain ⟨q1_, ⟨e9_, q2_, te_⟩, q3_⟩ := px61_
      rw [← hsv_, hs1_, Int.toNat_natCast] at q1_ q3_
      have na_ := dfl_na w1_ q2_
      have de9_ : dfe b_ n_ e9_ := Or.inr ⟨r9_, w1_, q2_⟩
      have dz_ : idf sl_ S0_ Sx58_ := idf_tr d29_ q1_
      have uz_ : Sx58_.1 3 sl_ 0 = 0 := q3_.trans u29_
      refine sm_T_go 0 (c1 := (49, [some (.inr (.inr (some (12, 0)))), some (.inl vx6_), some (.inl vx6_), none], [], Sx58_)) rfl ?_
      have bx63_ : 0 ≤ Sx58_.1 10 0 6 ∧ Sx58_.1 10 0 6 ≤ 23 := hIx59_.1 10 0 6 rfl
      have hIx64_ : gi (sm_pI Sx58_ 12 0 10 (Sx58_.1 10 0 6)) := gi_pI hIx59_ (show 0 ≤ (Sx58_.1 10 0 6) ∧ (Sx58_.1 10 0 6) ≤ 23 from ⟨by omega, by omega⟩)
      have hFx65_ : ai_fr (sx_W vw_213n) S0_ (sm_pI Sx58_ 12 0 10 (Sx58_.1 10 0 6)) := ai_fr_tr hFx62_ (ai_fr_pI rfl)
      have bx66_ : 0 ≤ Sx58_.1 10 0 7 ∧ Sx58_.1 10 0 7 ≤ 4095 := hIx59_.1 10 0 7 rfl
      refine sm_T_go 9 (c1 := (68, [some (.inr (.inr (some (12, 0)))), some (.inl vx6_), some (.inl vx6_), none], [.inl (Sx58_.1 10 0 7), .inl (-1)], sm_pI Sx58_ 12 0 10 (Sx58_.1 10 0 6))) rfl ?_
      refine sm_T_bin (w := -(Sx58_.1 10 0 7) - 1) rfl (bi_sub (by omega) (by omega) (by omega)) ?_
      have hIx67_ : gi (sm_pI (sm_pI Sx58_ 12 0 10 (Sx58_.1 10 0 6)) 10 0 1 0) := gi_pI hIx64_ (show 0 ≤ 0 ∧ 0 ≤ 1280 from ⟨by omega, by omega⟩)
      have hFx68_ : ai_fr (sx_W vw_213n) S0_ (sm_pI (sm_pI Sx58_ 12 0 10 (Sx58_.1 10 0 6)) 10 0 1 0) := ai_fr_tr hFx65_ (ai_fr_pI rfl)
      refine sm_T_go 6 (c1 := (79, [some (.inr (.inr (some (12, 0)))), some (.inl vx6_), some (.inl (-(Sx58_.1 10 0 7) - 1)), none], [.inl (-(Sx58_.1 10 0 7) - 1)], sm_pI (sm_pI Sx58_ 12 0 10 (Sx58_.1 10 0 6)) 10 0 1 0)) rfl ?_
      refine sm_T_ri rfl (Or.inl ⟨_, _, _, rfl, Nat.le_of_ble_eq_true rfl, _, rfl, hIx67_, hFx68_, ?_⟩)
      first | (exact absurd rfl e15_) | (refine ⟨sl_, hs2_, hs3_, hs4_, rf_eq, idf_pI d42_ (Or.inl (by decide)), Or.inl ⟨⟨r9_, z9_, ac_, dgx_fr (w_ := ([(10, 1)], [], [])) x6_ (ai_fr_pI rfl) rfl rfl rfl rfl rfl rfl, dcn_fr (w_ := ([(10, 1)], [], [])) x7_ (ai_fr_pI rfl), (rf_nt (by decide)).trans x8_, dcs_fr (w_ := ([(10, 1)], [], [])) xs (ai_fr_pI rfl), dct_fr (w_ := ([(10, 1)], [], [])) xt_ (ai_fr_pI rfl)⟩, (rf_nt (by decide)).trans x4_, ?_, by omega, (rf_nt (by decide)).trans lf42_⟩⟩; obtain ⟨F9_, y1_, y2_, y3_, y4_, y5_⟩ := x5_; have fz_ : ai_fr (sx_W ([(10, 1)], [], [])) _ ((sm_pI (sm_pI Sx58_ 12 0 10 (Sx58_.1 10 0 6)) 10 0 1 0)) := ai_fr_pI rfl; refine ⟨F9_, dgr_fr y1_ fz_ rfl rfl rfl rfl rfl, drt_fr y2_ fz_ rfl rfl rfl rfl rfl, swp_fr y3_ fz_ rfl rfl rfl rfl, dtb_fr y4_ fz_ rfl rfl, ?_⟩; rw [fz_.1 3 sl_ 5 rfl, fz_.1 3 sl_ 6 rfl, fz_.1 3 sl_ 2 rfl]; exact y5_) | (refine ⟨sl_, hs2_, hs3_, hs4_, rf_eq, idf_pI (idf_pI dz_ (Or.inl (by decide))) (Or.inl (by decide)), Or.inr ⟨na_, ?_, e9_, de9_, ?_, ?_⟩⟩; exact (rf_nt (by decide)).trans ((rf_nt (by decide)).trans uz_); (have t9_ := te_.2; omega); exact (rf_nt (by decide)).trans (rf_eq.trans te_.1))
    obtain ⟨rfl, hIx59_, hFx60_, px61_⟩ := px61_
    have hFx62_ : ai_fr (sx_W vw_213n) S0_ Sx58_ := ai_fr_tr hFx51_ (fr_le hFx60_ rfl)
    obtain ⟨dx69_, px61_⟩ := px61_
    have e42_ := px61_
    have k42_ := dx69_
    rw [← hsv_, hs1_, Int.toNat_natCast] at e42_ k42_
    have lf42_ : Sx58_.1 12 0 10 = 0 := (hFx60_.1 12 0 10 rfl).trans lf29_
    have d42_ : idf sl_ S0_ Sx58_ := idf_tr d29_ k42_
    obtain ⟨x1_, ⟨z9_, x2_, x3_, x6_, x7_, x8_, xs, xt_⟩, x4_, x5_⟩ := e42_
    have ac_ : dok b_ n_ r9_ z9_ := ⟨w1_, x1_, x2_, x3_⟩
    have hIx70_ : gi (sm_pI Sx58_ 10 0 1 0) := gi_pI hIx59_ (show 0 ≤ 0 ∧ 0 ≤ 1280 from ⟨by omega, by omega⟩)
    have hFx71_ : ai_fr (sx_W vw_213n) S0_ (sm_pI Sx58_ 10 0 1 0) := ai_fr_tr hFx62_ (ai_fr_pI rfl)
    refine sm_T_go 6 (c1 := (79, [some (.inr (.inr (some (12, 0)))), some (.inl vx6_), some (.inl vx6_), none], [.inl vx6_], sm_pI Sx58_ 10 0 1 0)) rfl ?_
    refine sm_T_ri rfl (Or.inl ⟨_, _, _, rfl, Nat.le_of_ble_eq_true rfl, _, rfl, hIx70_, hFx71_, ?_⟩)
    first | (exact absurd rfl e15_) | (refine ⟨sl_, hs2_, hs3_, hs4_, rf_eq, idf_pI d42_ (Or.inl (by decide)), Or.inl ⟨⟨r9_, z9_, ac_, dgx_fr (w_ := ([(10, 1)], [], [])) x6_ (ai_fr_pI rfl) rfl rfl rfl rfl rfl rfl, dcn_fr (w_ := ([(10, 1)], [], [])) x7_ (ai_fr_pI rfl), (rf_nt (by decide)).trans x8_, dcs_fr (w_ := ([(10, 1)], [], [])) xs (ai_fr_pI rfl), dct_fr (w_ := ([(10, 1)], [], [])) xt_ (ai_fr_pI rfl)⟩, (rf_nt (by decide)).trans x4_, ?_, by omega, (rf_nt (by decide)).trans lf42_⟩⟩; obtain ⟨F9_, y1_, y2_, y3_, y4_, y5_⟩ := x5_; have fz_ : ai_fr (sx_W ([(10, 1)], [], [])) _ ((sm_pI Sx58_ 10 0 1 0)) := ai_fr_pI rfl; refine ⟨F9_, dgr_fr y1_ fz_ rfl rfl rfl rfl rfl, drt_fr y2_ fz_ rfl rfl rfl rfl rfl, swp_fr y3_ fz_ rfl rfl rfl rfl, dtb_fr y4_ fz_ rfl rfl, ?_⟩; rw [fz_.1 3 sl_ 5 rfl, fz_.1 3 sl_ 6 rfl, fz_.1 3 sl_ 2 rfl]; exact y5_) | (refine ⟨sl_, hs2_, hs3_, hs4_, rf_eq, idf_pI (idf_pI dz_ (Or.inl (by decide))) (Or.inl (by decide)), Or.inr ⟨na_, ?_, e9_, de9_, ?_, ?_⟩⟩; exact (rf_nt (by decide)).trans ((rf_nt (by decide)).trans uz_); (have t9_ := te_.2; omega); exact (rf_nt (by decide)).trans (rf_eq.trans te_.1))
end
/-! 99.ztZ1 -/
section
/-! two machines side by side; written by wip/p55/gen/vg -/

/-! two_ machines side by side -/
theorem bf_dm {k_ i_ I_ : Nat} (hi_ : i_ < 2 ^ I_) : (k_ * 2 ^ I_ + i_) / 2 ^ I_ = k_ ∧ (k_ * 2 ^ I_ + i_) % 2 ^ I_ = i_ := by
  refine ⟨?_, ?_⟩
  · rw [Nat.mul_comm, Nat.mul_add_div (Nat.two_pow_pos I_), Nat.div_eq_of_lt hi_, Nat.add_zero]
  · rw [Nat.mul_comm, Nat.mul_add_mod, Nat.mod_eq_of_lt hi_]
theorem bf_px {s_ i_ I_ R_ : Nat} (hs_ : s_ < 2 ^ R_) (hi_ : i_ < 2 ^ I_) : s_ * 2 ^ I_ + i_ < 2 ^ (I_ + R_) := by
  have a_ : (s_ + 1) * 2 ^ I_ ≤ 2 ^ R_ * 2 ^ I_ := Nat.mul_le_mul_right _ hs_
  have b_ : (s_ + 1) * 2 ^ I_ = s_ * 2 ^ I_ + 2 ^ I_ := Nat.succ_mul s_ (2 ^ I_)
  have c_ : 2 ^ (I_ + R_) = 2 ^ R_ * 2 ^ I_ := by rw [Nat.add_comm, Nat.pow_add]
  rw [c_]
  exact Nat.lt_of_lt_of_le (Nat.add_lt_add_left hi_ _) (by rw [← b_]; exact a_)
/-- is_ a_ pair met_ -/
def bfi (Q_ : List (Nat × Nat × Nat)) (a_ b_ : Nat) : Bool := Q_.any (fun y_ => y_.1 == a_ && y_.2.1 == b_)
theorem bfi_iff {Q_ : List (Nat × Nat × Nat)} {a_ b_ : Nat} : bfi Q_ a_ b_ = true ↔ ∃ j_ d_ : Nat, Q_[j_]? = some (a_, b_, d_) := by
  unfold bfi
  rw [List.any_eq_true]
  constructor
  · rintro ⟨⟨x_, y_, d_⟩, hm9_, hy_⟩
    obtain ⟨j_, hj_⟩ := List.getElem?_of_mem hm9_
    have hy_ : ((x_ == a_) && (y_ == b_)) = true := hy_
    rw [Bool.and_eq_true, beq_iff_eq, beq_iff_eq] at hy_
    obtain ⟨h1_, h2_⟩ := hy_
    subst h1_
    subst h2_
    exact ⟨j_, d_, hj_⟩
  · rintro ⟨j_, d_, hj_⟩
    refine ⟨(a_, b_, d_), List.mem_of_getElem? hj_, ?_⟩
    show ((a_ == a_) && (b_ == b_)) = true
    rw [Bool.and_eq_true, beq_iff_eq, beq_iff_eq]
    exact ⟨rfl, rfl⟩
def bfst (I_ : Nat) (nA_ nB_ : Nat → Int) (Q_ : List (Nat × Nat × Nat)) (k_ i_ : Nat) : List (Nat × Nat × Nat) :=
  match Q_[k_]? with
  | none => Q_
  | some x_ => if bfi Q_ (nA_ (x_.1 * 2 ^ I_ + i_)).toNat (nB_ (x_.2.1 * 2 ^ I_ + i_)).toNat = true then Q_ else Q_ ++ [((nA_ (x_.1 * 2 ^ I_ + i_)).toNat, (nB_ (x_.2.1 * 2 ^ I_ + i_)).toNat, x_.2.2 + 1)]
theorem bfst_n {I_ : Nat} {nA_ nB_ : Nat → Int} {Q_ : List (Nat × Nat × Nat)} {k_ i_ : Nat} (h_ : Q_[k_]? = none) : bfst I_ nA_ nB_ Q_ k_ i_ = Q_ := by
  unfold bfst
  first
    | (rw [h_]; done)
    | (rw [h_]; rfl)
    | simp only [h_]
theorem bfst_s {I_ : Nat} {nA_ nB_ : Nat → Int} {Q_ : List (Nat × Nat × Nat)} {k_ i_ a_ b_ d_ : Nat} (h_ : Q_[k_]? = some (a_, b_, d_)) : bfst I_ nA_ nB_ Q_ k_ i_ = if bfi Q_ (nA_ (a_ * 2 ^ I_ + i_)).toNat (nB_ (b_ * 2 ^ I_ + i_)).toNat = true then Q_ else Q_ ++ [((nA_ (a_ * 2 ^ I_ + i_)).toNat, (nB_ (b_ * 2 ^ I_ + i_)).toNat, d_ + 1)] := by
  unfold bfst
  first
    | (rw [h_]; done)
    | (rw [h_]; rfl)
    | simp only [h_]
/-- what is_ met_ after n_ steps -/
def bfrn (I_ : Nat) (nA_ nB_ : Nat → Int) (bA_ bB_ : Nat) : Nat → List (Nat × Nat × Nat)
  | 0 => [(bA_, bB_, 0)]
  | n_ + 1 => bfst I_ nA_ nB_ (bfrn I_ nA_ nB_ bA_ bB_ n_) (n_ / 2 ^ I_) (n_ % 2 ^ I_)
/-- at step n_ the_ machines answer otherwise -/
def bfdf (I_ : Nat) (D_ : Nat → Nat → Prop) (nA_ nB_ : Nat → Int) (bA_ bB_ n_ d_ : Nat) : Prop := ∃ a_ b_, (bfrn I_ nA_ nB_ bA_ bB_ n_)[n_ / 2 ^ I_]? = some (a_, b_, d_) ∧ D_ (a_ * 2 ^ I_ + n_ % 2 ^ I_) (b_ * 2 ^ I_ + n_ % 2 ^ I_)
/-- the_ clocks up_ to_ the_ first answer that is_ otherwise; 0: there is_ none -/
def bfsp (I_ : Nat) (D_ : Nat → Nat → Prop) (nA_ nB_ : Nat → Int) (bA_ bB_ : Nat) (v_ : Int) : Prop := ∃ n_, (∀ m_, m_ < n_ → ∀ d_, ¬ bfdf I_ D_ nA_ nB_ bA_ bB_ m_ d_) ∧ ((∃ d_ : Nat, bfdf I_ D_ nA_ nB_ bA_ bB_ n_ d_ ∧ v_ = (d_ : Int) + 1) ∨ ((bfrn I_ nA_ nB_ bA_ bB_ n_).length ≤ n_ / 2 ^ I_ ∧ v_ = 0))
theorem bfrn_e {I_ : Nat} {nA_ nB_ : Nat → Int} {bA_ bB_ n_ : Nat} (h_ : (bfrn I_ nA_ nB_ bA_ bB_ n_).length ≤ n_ / 2 ^ I_) : ∀ m_ : Nat, bfrn I_ nA_ nB_ bA_ bB_ (n_ + m_) = bfrn I_ nA_ nB_ bA_ bB_ n_
  | 0 => rfl
  | m_ + 1 => by
    have ih_ := bfrn_e h_ m_
    show bfst I_ nA_ nB_ (bfrn I_ nA_ nB_ bA_ bB_ (n_ + m_)) ((n_ + m_) / 2 ^ I_) ((n_ + m_) % 2 ^ I_) = _
    rw [ih_]
    exact bfst_n (List.getElem?_eq_none (Nat.le_trans h_ (Nat.div_le_div_right (Nat.le_add_right n_ m_))))
theorem bf_no {I_ : Nat} {D_ : Nat → Nat → Prop} {nA_ nB_ : Nat → Int} {bA_ bB_ n_ : Nat} (h1_ : ∀ m_, m_ < n_ → ∀ d_, ¬ bfdf I_ D_ nA_ nB_ bA_ bB_ m_ d_) (h2_ : (bfrn I_ nA_ nB_ bA_ bB_ n_).length ≤ n_ / 2 ^ I_) : ∀ m_ d_, ¬ bfdf I_ D_ nA_ nB_ bA_ bB_ m_ d_ := fun m_ d_ q_ => by
  by_cases c_ : m_ < n_
  · exact h1_ m_ c_ d_ q_
  · obtain ⟨a_, b_, x_, -⟩ := q_
    obtain ⟨k_, rfl⟩ : ∃ k_, m_ = n_ + k_ := ⟨m_ - n_, by omega⟩
    rw [bfrn_e h2_ k_, List.getElem?_eq_none (Nat.le_trans h2_ (Nat.div_le_div_right (Nat.le_add_right n_ k_)))] at x_
    cases x_
theorem bfsp_u {I_ : Nat} {D_ : Nat → Nat → Prop} {nA_ nB_ : Nat → Int} {bA_ bB_ : Nat} {v_ v'_ : Int} (h_ : bfsp I_ D_ nA_ nB_ bA_ bB_ v_) (g_ : bfsp I_ D_ nA_ nB_ bA_ bB_ v'_) : v_ = v'_ := by
  obtain ⟨n_, h1_, h2_⟩ := h_
  obtain ⟨m_, g1_, g2_⟩ := g_
  rcases h2_ with ⟨d_, h2_, h3_⟩ | ⟨h2_, h3_⟩
  · rcases g2_ with ⟨e_, g2_, g3_⟩ | ⟨g2_, g3_⟩
    · have q_ : n_ = m_ := by
        rcases Nat.lt_trichotomy n_ m_ with c_ | c_ | c_
        · exact absurd h2_ (g1_ n_ c_ d_)
        · exact c_
        · exact absurd g2_ (h1_ m_ c_ e_)
      subst q_
      obtain ⟨a_, b_, x_, -⟩ := h2_
      obtain ⟨a'_, b'_, y_, -⟩ := g2_
      rw [x_] at y_
      cases y_
      rw [h3_, g3_]
    · exact absurd h2_ (bf_no g1_ g2_ n_ d_)
  · rcases g2_ with ⟨e_, g2_, g3_⟩ | ⟨g2_, g3_⟩
    · exact absurd g2_ (bf_no h1_ h2_ m_ e_)
    · rw [h3_, g3_]
/-- how_ far_ the_ search is_: state k_, input i_ -/
def bfqs (I_ : Nat) (D_ : Nat → Nat → Prop) (nA_ nB_ : Nat → Int) (bA_ bB_ k_ i_ : Nat) (Q_ : List (Nat × Nat × Nat)) : Prop := Q_ = bfrn I_ nA_ nB_ bA_ bB_ (k_ * 2 ^ I_ + i_) ∧ ∀ m_, m_ < k_ * 2 ^ I_ + i_ → ∀ d_, ¬ bfdf I_ D_ nA_ nB_ bA_ bB_ m_ d_
section BF_
variable {I_ : Nat} {D_ : Nat → Nat → Prop} {nA_ nB_ : Nat → Int} {bA_ bB_ k_ i_ a_ b_ d_ : Nat} {Q_ : List (Nat × Nat × Nat)}
theorem bfqs_0 : bfqs I_ D_ nA_ nB_ bA_ bB_ 0 0 [(bA_, bB_, 0)] := by
  have e_ : 0 * 2 ^ I_ + 0 = 0 := Nat.zero_mul _
  refine ⟨?_, fun m_ hm9_ => ?_⟩
  · exact (congrArg (bfrn I_ nA_ nB_ bA_ bB_) e_).symm
  · rw [e_] at hm9_
    exact absurd hm9_ (Nat.not_lt_zero _)
theorem bfqs_n (h_ : bfqs I_ D_ nA_ nB_ bA_ bB_ k_ (2 ^ I_) Q_) : bfqs I_ D_ nA_ nB_ bA_ bB_ (k_ + 1) 0 Q_ := by
  have e_ : (k_ + 1) * 2 ^ I_ + 0 = k_ * 2 ^ I_ + 2 ^ I_ := Nat.succ_mul k_ (2 ^ I_)
  unfold bfqs
  rw [e_]
  exact h_
theorem bfqs_x (h_ : bfqs I_ D_ nA_ nB_ bA_ bB_ k_ i_ Q_) (hi_ : i_ < 2 ^ I_) (hx_ : Q_[k_]? = some (a_, b_, d_)) (nd_ : ¬ D_ (a_ * 2 ^ I_ + i_) (b_ * 2 ^ I_ + i_)) : ∀ m_, m_ < k_ * 2 ^ I_ + (i_ + 1) → ∀ e_, ¬ bfdf I_ D_ nA_ nB_ bA_ bB_ m_ e_ := fun m_ hm9_ e_ q_ => by
  by_cases c_ : m_ = k_ * 2 ^ I_ + i_
  · obtain ⟨a'_, b'_, x_, y_⟩ := q_
    subst c_
    rw [← h_.1, (bf_dm hi_).1, hx_] at x_
    cases x_
    rw [(bf_dm hi_).2] at y_
    exact nd_ y_
  · exact h_.2 m_ (by omega) e_ q_
theorem bfqs_r (h_ : bfqs I_ D_ nA_ nB_ bA_ bB_ k_ i_ Q_) (hi_ : i_ < 2 ^ I_) (hx_ : Q_[k_]? = some (a_, b_, d_)) : bfrn I_ nA_ nB_ bA_ bB_ (k_ * 2 ^ I_ + (i_ + 1)) = if bfi Q_ (nA_ (a_ * 2 ^ I_ + i_)).toNat (nB_ (b_ * 2 ^ I_ + i_)).toNat = true then Q_ else Q_ ++ [((nA_ (a_ * 2 ^ I_ + i_)).toNat, (nB_ (b_ * 2 ^ I_ + i_)).toNat, d_ + 1)] := by
  show bfst I_ nA_ nB_ (bfrn I_ nA_ nB_ bA_ bB_ (k_ * 2 ^ I_ + i_)) ((k_ * 2 ^ I_ + i_) / 2 ^ I_) ((k_ * 2 ^ I_ + i_) % 2 ^ I_) = _
  rw [← h_.1, (bf_dm hi_).1, (bf_dm hi_).2]
  exact bfst_s hx_
theorem bfqs_o (h_ : bfqs I_ D_ nA_ nB_ bA_ bB_ k_ i_ Q_) (hi_ : i_ < 2 ^ I_) (hx_ : Q_[k_]? = some (a_, b_, d_)) (nd_ : ¬ D_ (a_ * 2 ^ I_ + i_) (b_ * 2 ^ I_ + i_)) (old_ : ∃ j_ e_ : Nat, Q_[j_]? = some ((nA_ (a_ * 2 ^ I_ + i_)).toNat, (nB_ (b_ * 2 ^ I_ + i_)).toNat, e_)) : bfqs I_ D_ nA_ nB_ bA_ bB_ k_ (i_ + 1) Q_ := ⟨by rw [bfqs_r h_ hi_ hx_, if_pos (bfi_iff.mpr old_)], bfqs_x h_ hi_ hx_ nd_⟩
theorem bfqs_a (h_ : bfqs I_ D_ nA_ nB_ bA_ bB_ k_ i_ Q_) (hi_ : i_ < 2 ^ I_) (hx_ : Q_[k_]? = some (a_, b_, d_)) (nd_ : ¬ D_ (a_ * 2 ^ I_ + i_) (b_ * 2 ^ I_ + i_)) (new_ : ¬ ∃ j_ e_ : Nat, Q_[j_]? = some ((nA_ (a_ * 2 ^ I_ + i_)).toNat, (nB_ (b_ * 2 ^ I_ + i_)).toNat, e_)) : bfqs I_ D_ nA_ nB_ bA_ bB_ k_ (i_ + 1) (Q_ ++ [((nA_ (a_ * 2 ^ I_ + i_)).toNat, (nB_ (b_ * 2 ^ I_ + i_)).toNat, d_ + 1)]) := ⟨by rw [bfqs_r h_ hi_ hx_, if_neg (fun z_ => new_ (bfi_iff.mp z_))], bfqs_x h_ hi_ hx_ nd_⟩
theorem bfqs_d (h_ : bfqs I_ D_ nA_ nB_ bA_ bB_ k_ i_ Q_) (hi_ : i_ < 2 ^ I_) (hx_ : Q_[k_]? = some (a_, b_, d_)) (df_ : D_ (a_ * 2 ^ I_ + i_) (b_ * 2 ^ I_ + i_)) : bfsp I_ D_ nA_ nB_ bA_ bB_ ((d_ : Int) + 1) := ⟨k_ * 2 ^ I_ + i_, h_.2, Or.inl ⟨d_, ⟨a_, b_, by rw [(bf_dm hi_).1, ← h_.1]; exact hx_, by rw [(bf_dm hi_).2]; exact df_⟩, rfl⟩⟩
theorem bfqs_e (h_ : bfqs I_ D_ nA_ nB_ bA_ bB_ k_ 0 Q_) (hl_ : Q_.length ≤ k_) : bfsp I_ D_ nA_ nB_ bA_ bB_ 0 := ⟨k_ * 2 ^ I_ + 0, h_.2, Or.inr ⟨by rw [← h_.1, (bf_dm (Nat.two_pow_pos I_)).1]; exact hl_, rfl⟩⟩
end BF_
/-- pairs are_ of_ states -/
def bfb (RA_ RB_ : Nat) (Q_ : List (Nat × Nat × Nat)) : Prop := ∀ j_ a_ b_ d_ : Nat, Q_[j_]? = some (a_, b_, d_) → a_ < 2 ^ RA_ ∧ b_ < 2 ^ RB_
theorem bfb_ap {RA_ RB_ x_ y_ e_ : Nat} {Q_ : List (Nat × Nat × Nat)} (h_ : bfb RA_ RB_ Q_) (g_ : x_ < 2 ^ RA_ ∧ y_ < 2 ^ RB_) : bfb RA_ RB_ (Q_ ++ [(x_, y_, e_)]) := fun j_ a_ b_ d_ q_ => by
  by_cases c_ : j_ < Q_.length
  · rw [List.getElem?_append_left c_] at q_
    exact h_ j_ a_ b_ d_ q_
  · rw [List.getElem?_append_right (by omega)] at q_
    have m_ := List.mem_singleton.mp (List.mem_of_getElem? q_)
    cases m_
    exact g_
theorem bf_cg {I_ RA_ RB_ : Nat} {nA_ nB_ nA'_ nB'_ : Nat → Int} {bA_ bB_ : Nat} (hA_ : ∀ p_, p_ < 2 ^ (I_ + RA_) → nA'_ p_ = nA_ p_ ∧ 0 ≤ nA_ p_ ∧ nA_ p_ < 2 ^ RA_) (hB_ : ∀ p_, p_ < 2 ^ (I_ + RB_) → nB'_ p_ = nB_ p_ ∧ 0 ≤ nB_ p_ ∧ nB_ p_ < 2 ^ RB_) (hb_ : bA_ < 2 ^ RA_ ∧ bB_ < 2 ^ RB_) : ∀ n_ : Nat, bfrn I_ nA'_ nB'_ bA_ bB_ n_ = bfrn I_ nA_ nB_ bA_ bB_ n_ ∧ bfb RA_ RB_ (bfrn I_ nA_ nB_ bA_ bB_ n_)
  | 0 => ⟨rfl, fun j_ a_ b_ d_ h_ => by
    have m_ := List.mem_singleton.mp (List.mem_of_getElem? h_)
    cases m_
    exact hb_⟩
  | n_ + 1 => by
    obtain ⟨ih_, ib_⟩ := bf_cg hA_ hB_ hb_ n_
    show bfst I_ nA'_ nB'_ (bfrn I_ nA'_ nB'_ bA_ bB_ n_) (n_ / 2 ^ I_) (n_ % 2 ^ I_) = bfst I_ nA_ nB_ (bfrn I_ nA_ nB_ bA_ bB_ n_) (n_ / 2 ^ I_) (n_ % 2 ^ I_) ∧ bfb RA_ RB_ (bfst I_ nA_ nB_ (bfrn I_ nA_ nB_ bA_ bB_ n_) (n_ / 2 ^ I_) (n_ % 2 ^ I_))
    rw [ih_]
    have m_ := Nat.mod_lt n_ (Nat.two_pow_pos I_)
    obtain ⟨o_, x_⟩ : ∃ o_, (bfrn I_ nA_ nB_ bA_ bB_ n_)[n_ / 2 ^ I_]? = o_ := ⟨_, rfl⟩
    rcases o_ with _ | ⟨a_, b_, d_⟩
    · rw [bfst_n x_, bfst_n x_]
      exact ⟨rfl, ib_⟩
    · have q_ := ib_ _ a_ b_ d_ x_
      have pa_ := hA_ _ (bf_px q_.1 m_)
      have pb9_ := hB_ _ (bf_px q_.2 m_)
      rw [bfst_s x_, bfst_s x_, pa_.1, pb9_.1]
      refine ⟨rfl, ?_⟩
      split
      · exact ib_
      · exact bfb_ap ib_ ⟨pw_tn pa_.2.1 pa_.2.2, pw_tn pb9_.2.1 pb9_.2.2⟩
theorem bfsp_cg {I_ RA_ RB_ : Nat} {D_ D'_ : Nat → Nat → Prop} {nA_ nB_ nA'_ nB'_ : Nat → Int} {bA_ bB_ : Nat} {v_ : Int} (hA_ : ∀ p_, p_ < 2 ^ (I_ + RA_) → nA'_ p_ = nA_ p_ ∧ 0 ≤ nA_ p_ ∧ nA_ p_ < 2 ^ RA_) (hB_ : ∀ p_, p_ < 2 ^ (I_ + RB_) → nB'_ p_ = nB_ p_ ∧ 0 ≤ nB_ p_ ∧ nB_ p_ < 2 ^ RB_) (hb_ : bA_ < 2 ^ RA_ ∧ bB_ < 2 ^ RB_) (hD_ : ∀ p_ q_, p_ < 2 ^ (I_ + RA_) → q_ < 2 ^ (I_ + RB_) → (D'_ p_ q_ ↔ D_ p_ q_)) (h_ : bfsp I_ D_ nA_ nB_ bA_ bB_ v_) : bfsp I_ D'_ nA'_ nB'_ bA_ bB_ v_ := by
  have c_ := bf_cg hA_ hB_ hb_
  have e_ : ∀ n_ d_, bfdf I_ D'_ nA'_ nB'_ bA_ bB_ n_ d_ ↔ bfdf I_ D_ nA_ nB_ bA_ bB_ n_ d_ := fun n_ d_ => by
    have m_ := Nat.mod_lt n_ (Nat.two_pow_pos I_)
    unfold bfdf
    rw [(c_ n_).1]
    constructor
    · rintro ⟨a_, b_, x_, y_⟩
      have q_ := (c_ n_).2 _ a_ b_ d_ x_
      exact ⟨a_, b_, x_, (hD_ _ _ (bf_px q_.1 m_) (bf_px q_.2 m_)).mp y_⟩
    · rintro ⟨a_, b_, x_, y_⟩
      have q_ := (c_ n_).2 _ a_ b_ d_ x_
      exact ⟨a_, b_, x_, (hD_ _ _ (bf_px q_.1 m_) (bf_px q_.2 m_)).mpr y_⟩
  obtain ⟨n_, h1_, h2_⟩ := h_
  refine ⟨n_, fun m_ hm9_ d_ z_ => h1_ m_ hm9_ d_ ((e_ m_ d_).mp z_), ?_⟩
  rcases h2_ with ⟨d_, h2_, h3_⟩ | ⟨h2_, h3_⟩
  · exact Or.inl ⟨d_, (e_ n_ d_).mpr h2_, h3_⟩
  · exact Or.inr ⟨by rw [(c_ n_).1]; exact h2_, h3_⟩
end
/-! 99.ztZ2 -/
section
/-! the class: machines compared, with what comes out; written by wip/p55/gen/vg -/

/-! the_ class's queue of_ pairs -/
/-- a_ pair is_ d_ steps behind the_ first -/
def chn (u_ : Nat → Int) : Nat → Int → Prop
  | 0, c_ => u_ c_.toNat = -1
  | d_ + 1, c_ => 0 ≤ u_ c_.toNat ∧ chn u_ d_ (u_ c_.toNat)
theorem chn_2 {u_ : Nat → Int} {c_ : Int} : ∀ {d_ : Nat}, chn u_ d_ c_ → u_ c_.toNat ≠ -2
  | 0, h_ => by
    have h_ : u_ c_.toNat = -1 := h_
    omega
  | d_ + 1, h_ => by
    have h_ := h_.1
    omega
theorem chn_up {u_ u'_ : Nat → Int} {N_ : Nat} {p_ : Int} (hu_ : ∀ j_, u'_ j_ = if j_ = N_ then p_ else u_ j_) (hN_ : u_ N_ = -2) : ∀ (d_ : Nat) (c_ : Int), chn u_ d_ c_ → chn u'_ d_ c_
  | 0, c_, h_ => by
    have h_ : u_ c_.toNat = -1 := h_
    show u'_ c_.toNat = -1
    rw [hu_, if_neg (fun z_ => by rw [z_, hN_] at h_; omega)]
    exact h_
  | d_ + 1, c_, h_ => by
    have e_ : u'_ c_.toNat = u_ c_.toNat := by
      rw [hu_, if_neg (fun z_ => by have w_ := h_.1; rw [z_, hN_] at w_; omega)]
    show 0 ≤ u'_ c_.toNat ∧ chn u'_ d_ (u'_ c_.toNat)
    rw [e_]
    exact ⟨h_.1, chn_up hu_ hN_ d_ _ h_.2⟩
def cmD (T_ U_ : Nat → Int) (mk_ : Int) (p_ q_ : Nat) : Prop := i_and (i_xor (T_ p_) (U_ q_)) mk_ ≠ 0
def nx6 (T_ : Nat → Int) (p_ : Nat) : Int := T_ p_ / 65536
def cen (R1_ R2_ : Nat) (Q_ : List (Nat × Nat × Nat)) (tl_ : Int) (u_ q_ : Nat → Int) : Prop := tl_ = (Q_.length : Int) ∧ (∀ j_ a_ b_ d_ : Nat, Q_[j_]? = some (a_, b_, d_) → (a_ < 2 ^ R1_ ∧ b_ < 2 ^ R2_) ∧ q_ j_ = 64 * (a_ : Int) + b_ ∧ chn u_ d_ (64 * (a_ : Int) + b_) ∧ d_ ≤ j_) ∧ ∀ c_, c_ < 4096 → u_ c_ ≠ -2 → ∃ j_ d_ : Nat, Q_[j_]? = some (c_ / 64, c_ % 64, d_)
def ccq (I_ R1_ R2_ : Nat) (D_ : Nat → Nat → Prop) (nA_ nB_ : Nat → Int) (bA_ bB_ k_ i_ : Nat) (tl_ : Int) (u_ q_ : Nat → Int) : Prop := ∃ Q_, bfqs I_ D_ nA_ nB_ bA_ bB_ k_ i_ Q_ ∧ cen R1_ R2_ Q_ tl_ u_ q_
theorem ccq_0 {I_ R1_ R2_ : Nat} {D_ : Nat → Nat → Prop} {nA_ nB_ : Nat → Int} {bA_ bB_ : Nat} {u_ q_ : Nat → Int} {f_ : Int} (hb_ : bA_ < 2 ^ R1_ ∧ bB_ < 2 ^ R2_) (h64_ : bA_ < 64 ∧ bB_ < 64) (hf_ : f_ = 64 * (bA_ : Int) + bB_) (hu_ : ∀ j_, j_ < 4096 → u_ j_ = if j_ = f_.toNat then (-1) else (-2)) (hq_ : q_ 0 = f_) : ccq I_ R1_ R2_ D_ nA_ nB_ bA_ bB_ 0 0 1 u_ q_ := by
  refine ⟨[(bA_, bB_, 0)], bfqs_0, rfl, fun j_ a_ b_ d_ h_ => ?_, fun c_ hc_ h_ => ?_⟩
  · have l_ := (List.getElem?_eq_some_iff.mp h_).1
    have l_ : j_ < 1 := l_
    have m_ := List.mem_singleton.mp (List.mem_of_getElem? h_)
    cases m_
    refine ⟨hb_, by rw [show j_ = 0 by omega, hq_, hf_], ?_, by omega⟩
    show u_ (64 * (bA_ : Int) + bB_).toNat = -1
    rw [hu_ _ (by omega), if_pos (by omega)]
  · have e_ : c_ = f_.toNat := by
      by_cases z_ : c_ = f_.toNat
      · exact z_
      · rw [hu_ c_ hc_, if_neg z_] at h_
        exact absurd rfl h_
    refine ⟨0, 0, ?_⟩
    rw [show c_ / 64 = bA_ by omega, show c_ % 64 = bB_ by omega]
    rfl
theorem ccq_n {I_ R1_ R2_ : Nat} {D_ : Nat → Nat → Prop} {nA_ nB_ : Nat → Int} {bA_ bB_ k_ i_ : Nat} {tl_ : Int} {u_ q_ : Nat → Int} (h_ : ccq I_ R1_ R2_ D_ nA_ nB_ bA_ bB_ k_ i_ tl_ u_ q_) (e_ : i_ = 2 ^ I_) : ccq I_ R1_ R2_ D_ nA_ nB_ bA_ bB_ (k_ + 1) 0 tl_ u_ q_ := by
  obtain ⟨Q_, a_, b_⟩ := h_
  rw [e_] at a_
  exact ⟨Q_, bfqs_n a_, b_⟩
section CC_
variable {I_ R1_ R2_ : Nat} {D_ : Nat → Nat → Prop} {nA_ nB_ : Nat → Int} {bA_ bB_ k_ i_ : Nat} {tl_ pr_ x_ y_ : Int} {u_ q_ u'_ q'_ : Nat → Int}
/-- the_ pair at hand -/
theorem ccq_g (h_ : ccq I_ R1_ R2_ D_ nA_ nB_ bA_ bB_ k_ i_ tl_ u_ q_) (h6_ : R1_ ≤ 6 ∧ R2_ ≤ 6) (hk_ : (k_ : Int) < tl_) (hp_ : q_ k_ = pr_) : ∃ Q_ d_, bfqs I_ D_ nA_ nB_ bA_ bB_ k_ i_ Q_ ∧ cen R1_ R2_ Q_ tl_ u_ q_ ∧ Q_[k_]? = some ((pr_ / 64).toNat, (pr_ % 64).toNat, d_) ∧ chn u_ d_ pr_ ∧ d_ ≤ k_ ∧ 0 ≤ pr_ := by
  obtain ⟨Q_, s_, e1_, e2_, e3_⟩ := h_
  obtain ⟨⟨a_, b_, d_⟩, hx_⟩ : ∃ x_, Q_[k_]? = some x_ := ⟨_, List.getElem?_eq_getElem (by omega)⟩
  obtain ⟨⟨a1_, a2_⟩, a3_, a4_, a5_⟩ := e2_ k_ a_ b_ d_ hx_
  have w_ : 2 ^ R2_ ≤ 2 ^ 6 := Nat.pow_le_pow_right (by decide) h6_.2
  have w_ : 2 ^ R2_ ≤ 64 := w_
  rw [hp_] at a3_
  refine ⟨Q_, d_, s_, ⟨e1_, e2_, e3_⟩, ?_, by rw [a3_]; exact a4_, a5_, by omega⟩
  rw [show (pr_ / 64).toNat = a_ by omega, show (pr_ % 64).toNat = b_ by omega]
  exact hx_
theorem ccq_o (h_ : ccq I_ R1_ R2_ D_ nA_ nB_ bA_ bB_ k_ i_ tl_ u_ q_) (h6_ : R1_ ≤ 6 ∧ R2_ ≤ 6) (hk_ : (k_ : Int) < tl_) (hp_ : q_ k_ = pr_) (hi_ : i_ < 2 ^ I_) (nd_ : ¬ D_ ((pr_ / 64).toNat * 2 ^ I_ + i_) ((pr_ % 64).toNat * 2 ^ I_ + i_)) (hx_ : x_ = nA_ ((pr_ / 64).toNat * 2 ^ I_ + i_)) (hy_ : y_ = nB_ ((pr_ % 64).toNat * 2 ^ I_ + i_)) (bx_ : 0 ≤ x_ ∧ x_ < 64) (by9_ : 0 ≤ y_ ∧ y_ < 64) (hs_ : u_ (64 * x_ + y_).toNat ≠ -2) : ccq I_ R1_ R2_ D_ nA_ nB_ bA_ bB_ k_ (i_ + 1) tl_ u_ q_ := by
  obtain ⟨Q_, d_, s_, e_, hz_, -, -, -⟩ := ccq_g h_ h6_ hk_ hp_
  refine ⟨Q_, bfqs_o s_ hi_ hz_ nd_ ?_, e_⟩
  rw [← hx_, ← hy_]
  obtain ⟨j_, d'_, w_⟩ := e_.2.2 (64 * x_ + y_).toNat (by omega) hs_
  rw [show (64 * x_ + y_).toNat / 64 = x_.toNat by omega, show (64 * x_ + y_).toNat % 64 = y_.toNat by omega] at w_
  exact ⟨j_, d'_, w_⟩
theorem ccq_a (h_ : ccq I_ R1_ R2_ D_ nA_ nB_ bA_ bB_ k_ i_ tl_ u_ q_) (h6_ : R1_ ≤ 6 ∧ R2_ ≤ 6) (hk_ : (k_ : Int) < tl_) (hp_ : q_ k_ = pr_) (hi_ : i_ < 2 ^ I_) (nd_ : ¬ D_ ((pr_ / 64).toNat * 2 ^ I_ + i_) ((pr_ % 64).toNat * 2 ^ I_ + i_)) (hx_ : x_ = nA_ ((pr_ / 64).toNat * 2 ^ I_ + i_)) (hy_ : y_ = nB_ ((pr_ % 64).toNat * 2 ^ I_ + i_)) (bx_ : 0 ≤ x_ ∧ x_ < 2 ^ R1_) (by9_ : 0 ≤ y_ ∧ y_ < 2 ^ R2_) (hs_ : u_ (64 * x_ + y_).toNat = -2) (hu_ : ∀ j_, u'_ j_ = if j_ = (64 * x_ + y_).toNat then pr_ else u_ j_) (hq_ : ∀ j_, q'_ j_ = if j_ = tl_.toNat then 64 * x_ + y_ else q_ j_) : ccq I_ R1_ R2_ D_ nA_ nB_ bA_ bB_ k_ (i_ + 1) (tl_ + 1) u'_ q'_ := by
  obtain ⟨Q_, d_, s_, ⟨e1_, e2_, e3_⟩, hz_, ch_, dk_, p0_⟩ := ccq_g h_ h6_ hk_ hp_
  have tx_ := pw_tn bx_.1 bx_.2
  have ty_ := pw_tn by9_.1 by9_.2
  have w1_ : 2 ^ R1_ ≤ 2 ^ 6 := Nat.pow_le_pow_right (by decide) h6_.1
  have w2_ : 2 ^ R2_ ≤ 2 ^ 6 := Nat.pow_le_pow_right (by decide) h6_.2
  have w1_ : 2 ^ R1_ ≤ 64 := w1_
  have w2_ : 2 ^ R2_ ≤ 64 := w2_
  have up_ := chn_up hu_ hs_
  have lk_ := (List.getElem?_eq_some_iff.mp hz_).1
  have b_ := bfqs_a s_ hi_ hz_ nd_ (by
    rw [← hx_, ← hy_]
    rintro ⟨j_, d'_, w_⟩
    have z_ := chn_2 (e2_ j_ _ _ _ w_).2.2.1
    rw [show (64 * (x_.toNat : Int) + y_.toNat) = 64 * x_ + y_ by omega] at z_
    exact z_ hs_)
  rw [← hx_, ← hy_] at b_
  refine ⟨_, b_, ?_, fun j_ a9_ b9_ d9_ w_ => ?_, fun c_ hc_ w_ => ?_⟩
  · rw [List.length_append, List.length_singleton]
    omega
  · by_cases c_ : j_ < Q_.length
    · rw [List.getElem?_append_left c_] at w_
      obtain ⟨a1_, a2_, a3_, a4_⟩ := e2_ j_ a9_ b9_ d9_ w_
      refine ⟨a1_, ?_, up_ _ _ a3_, a4_⟩
      rw [hq_, if_neg (by omega)]
      exact a2_
    · rw [List.getElem?_append_right (by omega)] at w_
      have l_ := (List.getElem?_eq_some_iff.mp w_).1
      have l_ : j_ - Q_.length < 1 := l_
      have m_ := List.mem_singleton.mp (List.mem_of_getElem? w_)
      cases m_
      refine ⟨⟨tx_, ty_⟩, ?_, ?_, by omega⟩
      · rw [hq_, if_pos (by omega)]
        omega
      · rw [show (64 * (x_.toNat : Int) + y_.toNat) = 64 * x_ + y_ by omega]
        show 0 ≤ u'_ (64 * x_ + y_).toNat ∧ chn u'_ d_ (u'_ (64 * x_ + y_).toNat)
        rw [hu_, if_pos rfl]
        exact ⟨p0_, up_ _ _ ch_⟩
  · by_cases z_ : c_ = (64 * x_ + y_).toNat
    · refine ⟨Q_.length, d_ + 1, ?_⟩
      rw [List.getElem?_append_right (Nat.le_refl _), Nat.sub_self, show c_ / 64 = x_.toNat by omega, show c_ % 64 = y_.toNat by omega]
      rfl
    · rw [hu_, if_neg z_] at w_
      obtain ⟨j_, d'_, v_⟩ := e3_ c_ hc_ w_
      refine ⟨j_, d'_, ?_⟩
      rw [List.getElem?_append_left (List.getElem?_eq_some_iff.mp v_).1]
      exact v_
theorem ccq_d (h_ : ccq I_ R1_ R2_ D_ nA_ nB_ bA_ bB_ k_ i_ tl_ u_ q_) (h6_ : R1_ ≤ 6 ∧ R2_ ≤ 6) (hk_ : (k_ : Int) < tl_) (ht_ : tl_ ≤ 4096) (hp_ : q_ k_ = pr_) (hi_ : i_ < 2 ^ I_) (df_ : D_ ((pr_ / 64).toNat * 2 ^ I_ + i_) ((pr_ % 64).toNat * 2 ^ I_ + i_)) : ∃ d_ : Nat, chn u_ d_ pr_ ∧ d_ ≤ 4095 ∧ bfsp I_ D_ nA_ nB_ bA_ bB_ ((d_ : Int) + 1) := by
  obtain ⟨Q_, d_, s_, e_, hz_, ch_, dk_, -⟩ := ccq_g h_ h6_ hk_ hp_
  exact ⟨d_, ch_, by omega, bfqs_d s_ hi_ hz_ df_⟩
theorem ccq_e (h_ : ccq I_ R1_ R2_ D_ nA_ nB_ bA_ bB_ k_ 0 tl_ u_ q_) (hk_ : tl_ ≤ (k_ : Int)) : bfsp I_ D_ nA_ nB_ bA_ bB_ 0 := by
  obtain ⟨Q_, s_, e1_, -⟩ := h_
  exact bfqs_e s_ (by omega)
end CC_

/-! ChipFlow.keepWitness -/
def vw_277w : sx_Wl := ([(12, 16)], [117], [])
def vq_277w (lp_ : Int) (li_ : Int) (d_ : Nat) (S0_ : sm_S) (u_ : Option sm_V) (S1_ : sm_S) : Prop := u_ = none ∧ gi S1_ ∧ ai_fr (sx_W vw_277w) S0_ S1_ ∧ (S1_.1 12 0 16 = (d_ : Int) + 1)
set_option maxHeartbeats 400000 in
theorem vl_277w {sc_ : Nat × (Nat → Int)} (lp_ : Int) (li_ : Int) (d_ : Nat) (S0_ : sm_S) (hch_ : chn (S0_.2.2.1 113 0) d_ lp_ ∧ d_ ≤ 4095) (hp_ : prf S0_) (h1_ : 0 ≤ lp_ ∧ lp_ ≤ 4095) (h2_ : 0 ≤ li_ ∧ li_ ≤ 4095) (h3_ : S0_.2.2.1 113 0 lp_.toNat ≠ -2) : ∀ nn_ : Nat, (∀ (ck_ : Int) (pr_ : Int) (S_ : sm_S), gi S_ → ai_fr (sx_W vw_277w) S0_ S_ → ((chn (S0_.2.2.1 113 0) (d_ - (ck_ - 1).toNat) pr_ ∧ ck_ - 1 ≤ (d_ : Int)) ∧ (1 ≤ ck_ ∧ ck_ ≤ 4096 ∧ 0 ≤ pr_ ∧ pr_ ≤ 4095) ∧ (S0_.2.2.1 113 0 pr_.toNat ≠ -2) ∧ (pr_ = pit S0_ lp_ (ck_ - 1).toNat) ∧ (∀ i9_ : Nat, (i9_ : Int) < ck_ → 0 ≤ pit S0_ lp_ i9_ ∧ pit S0_ lp_ i9_ ≤ 4095) ∧ True) → ((9000 - ck_).toNat) < nn_ → sm_T (mt_P sc_) 0 277 (5, [some (.inr (.inr (some (12, 0)))), some (.inl lp_), some (.inl li_), some (.inl ck_), some (.inl pr_), none], [], S_) (fun ro9_ => ∃ u_ S1_, ro9_ = (.inl u_, S1_, 0) ∧ vq_277w lp_ li_ d_ S0_ u_ S1_)) ∧ (∀ (ck_ : Int) (pr_ : Int) (kx_ : Int) (S_ : sm_S), gi S_ → ai_fr (sx_W vw_277w) S0_ S_ → ((1 ≤ ck_ ∧ ck_ ≤ 4096 ∧ -1 ≤ kx_ ∧ kx_ ≤ ck_ - 2 ∧ (S_.1 12 0 16) = (d_ : Int) + 1) ∧ (pr_ = pit S0_ lp_ (ck_ - 2 - kx_).toNat) ∧ (∀ i9_ : Nat, (i9_ : Int) < ck_ → 0 ≤ pit S0_ lp_ i9_ ∧ pit S0_ lp_ i9_ ≤ 4095) ∧ True) → ((kx_ + 2).toNat) < nn_ → sm_T (mt_P sc_) 0 277 (60, [some (.inr (.inr (some (12, 0)))), some (.inl lp_), some (.inl li_), some (.inl ck_), some (.inl pr_), some (.inl kx_)], [], S_) (fun ro9_ => ∃ u_ S1_, ro9_ = (.inl u_, S1_, 0) ∧ vq_277w lp_ li_ d_ S0_ u_ S1_)) := by
  intro nn_
  induction nn_ with
  | zero => exact ⟨fun _ _ _ _ _ _ h_ => absurd h_ (Nat.not_lt_zero _), fun _ _ _ _ _ _ _ h_ => absurd h_ (Nat.not_lt_zero _)⟩
  | succ nn_ ih_ =>
    refine ⟨?_, ?_⟩
    · rintro ck_ pr_ S_ hI_ hF_ ⟨hcd_, h0_, ha_, hb_, hc_, -⟩ hm_
      have f113_ : S_.2.2.1 113 0 = S0_.2.2.1 113 0 := fr_arr hF_ rfl
      refine sm_T_go 3 (c1 := (11, [some (.inr (.inr (some (12, 0)))), some (.inl lp_), some (.inl li_), some (.inl ck_), some (.inl pr_), none], [.inl pr_, .inr (.inr (some (113, 0)))], S_)) rfl ?_
      refine sm_T_iald (n := 4096) rfl rfl (by omega) (by omega) ?_
      have bx1_ : (-2) ≤ S_.2.2.1 113 0 pr_.toNat ∧ S_.2.2.1 113 0 pr_.toNat ≤ 4095 := hI_.2 113 0 _
      refine sm_T_go 1 (c1 := (13, [some (.inr (.inr (some (12, 0)))), some (.inl lp_), some (.inl li_), some (.inl ck_), some (.inl pr_), none], [.inl (-1), .inl (S_.2.2.1 113 0 pr_.toNat)], S_)) rfl ?_
      refine sm_T_br (a := 0) (z := 25) rfl (fun cx2_ => ?_) (fun cx2_ => ?_)
      · have cx2_ : (S_.2.2.1 113 0 pr_.toNat) = (-1) := of_decide_eq_true cx2_
        have hIx3_ : gi (sm_pI S_ 12 0 16 ck_) := gi_pI hI_ (show 0 ≤ ck_ ∧ ck_ ≤ 4096 from ⟨by omega, by omega⟩)
        have hFx4_ : ai_fr (sx_W vw_277w) S0_ (sm_pI S_ 12 0 16 ck_) := ai_fr_tr hF_ (ai_fr_pI rfl)
        refine sm_T_go 7 (c1 := (49, [some (.inr (.inr (some (12, 0)))), some (.inl lp_), some (.inl li_), some (.inl ck_), some (.inl pr_), none], [.inl 1, .inl ck_, .inr (.inr (some (117, 0)))], sm_pI S_ 12 0 16 ck_)) rfl ?_
        refine sm_T_bin (w := ck_ - 1) rfl (bi_sub (by omega) (by omega) (by omega)) ?_ -- pc_ 49
        refine sm_T_go 1 (c1 := (51, [some (.inr (.inr (some (12, 0)))), some (.inl lp_), some (.inl li_), some (.inl ck_), some (.inl pr_), none], [.inl li_, .inl (ck_ - 1), .inr (.inr (some (117, 0)))], sm_pI S_ 12 0 16 ck_)) rfl ?_
        refine sm_T_iast (n := 4096) rfl rfl (by omega) (by omega) ?_
        have hIx5_ : gi (sm_aI (sm_pI S_ 12 0 16 ck_) 117 0 (ck_ - 1).toNat li_) := gi_aI hIx3_ (show 0 ≤ li_ ∧ li_ ≤ 4095 from ⟨by omega, by omega⟩)
        have hFx6_ : ai_fr (sx_W vw_277w) S0_ (sm_aI (sm_pI S_ 12 0 16 ck_) 117 0 (ck_ - 1).toNat li_) := ai_fr_tr hFx4_ (ai_fr_aI rfl)
        refine sm_T_go 4 (c1 := (57, [some (.inr (.inr (some (12, 0)))), some (.inl lp_), some (.inl li_), some (.inl ck_), some (.inl lp_), none], [.inl 2, .inl ck_], sm_aI (sm_pI S_ 12 0 16 ck_) 117 0 (ck_ - 1).toNat li_)) rfl ?_
        refine sm_T_bin (w := ck_ - 2) rfl (bi_sub (by omega) (by omega) (by omega)) ?_ -- pc_ 57
        refine sm_T_go 1 (c1 := (60, [some (.inr (.inr (some (12, 0)))), some (.inl lp_), some (.inl li_), some (.inl ck_), some (.inl lp_), some (.inl (ck_ - 2))], [], sm_aI (sm_pI S_ 12 0 16 ck_) 117 0 (ck_ - 1).toNat li_)) rfl ?_
        refine ih_.2 ck_ lp_ (ck_ - 2) (sm_aI (sm_pI S_ 12 0 16 ck_) 117 0 (ck_ - 1).toNat li_) hIx5_ hFx6_ ⟨?_, ?_, ?_, trivial⟩ ?_
        · have cq9_ : ck_ = (d_ : Int) + 1 := by (first | omega | (have z9_ : d_ - (ck_ - 1).toNat = 0 := (by (by_cases z8_ : d_ - (ck_ - 1).toNat = 0; exact z8_; (exfalso; obtain ⟨g9_, hg9_⟩ : ∃ g9_, d_ - (ck_ - 1).toNat = g9_ + 1 := ⟨d_ - (ck_ - 1).toNat - 1, by omega⟩; have y9_ := hcd_.1; rw [hg9_] at y9_; have y8_ := y9_.1; rw [← f113_] at y8_; omega))); omega))
          (simp only [rf_eq, rd_fa, rd_af]; omega)
        · (rw [show (ck_ - 2 - (ck_ - 2)).toNat = 0 by omega]; rfl)
        · exact hc_
        · omega
      · have cx2_ : ¬ ((S_.2.2.1 113 0 pr_.toNat) = (-1)) := of_decide_eq_false cx2_
        have pq9_ := hp_ pr_.toNat (by omega) ha_
        rw [f113_] at cx2_
        have pz9_ : 0 ≤ S0_.2.2.1 113 0 pr_.toNat ∧ S0_.2.2.1 113 0 pr_.toNat ≤ 4095 := ⟨by rcases pq9_ with z_ | z_; exact absurd z_ cx2_; exact z_.1, by have w_ := (hI_.2 113 0 pr_.toNat).2; rw [f113_] at w_; exact w_⟩
        refine sm_T_go 2 (c1 := (20, [some (.inr (.inr (some (12, 0)))), some (.inl lp_), some (.inl li_), some (.inl ck_), some (.inl pr_), none], [.inl 4096, .inl ck_], S_)) rfl ?_
        refine sm_T_br (a := 3) (z := 18) rfl (fun cx7_ => ?_) (fun cx7_ => ?_)
        · have cx7_ : 4096 ≤ ck_ := of_decide_eq_true cx7_
          have hIx8_ : gi (sm_pI S_ 12 0 16 ck_) := gi_pI hI_ (show 0 ≤ ck_ ∧ ck_ ≤ 4096 from ⟨by omega, by omega⟩)
          have hFx9_ : ai_fr (sx_W vw_277w) S0_ (sm_pI S_ 12 0 16 ck_) := ai_fr_tr hF_ (ai_fr_pI rfl)
          refine sm_T_go 7 (c1 := (49, [some (.inr (.inr (some (12, 0)))), some (.inl lp_), some (.inl li_), some (.inl ck_), some (.inl pr_), none], [.inl 1, .inl ck_, .inr (.inr (some (117, 0)))], sm_pI S_ 12 0 16 ck_)) rfl ?_
          refine sm_T_bin (w := ck_ - 1) rfl (bi_sub (by omega) (by omega) (by omega)) ?_ -- pc_ 49
          refine sm_T_go 1 (c1 := (51, [some (.inr (.inr (some (12, 0)))), some (.inl lp_), some (.inl li_), some (.inl ck_), some (.inl pr_), none], [.inl li_, .inl (ck_ - 1), .inr (.inr (some (117, 0)))], sm_pI S_ 12 0 16 ck_)) rfl ?_
          refine sm_T_iast (n := 4096) rfl rfl (by omega) (by omega) ?_
          have hIx10_ : gi (sm_aI (sm_pI S_ 12 0 16 ck_) 117 0 (ck_ - 1).toNat li_) := gi_aI hIx8_ (show 0 ≤ li_ ∧ li_ ≤ 4095 from ⟨by omega, by omega⟩)
          have hFx11_ : ai_fr (sx_W vw_277w) S0_ (sm_aI (sm_pI S_ 12 0 16 ck_) 117 0 (ck_ - 1).toNat li_) := ai_fr_tr hFx9_ (ai_fr_aI rfl)
          refine sm_T_go 4 (c1 := (57, [some (.inr (.inr (some (12, 0)))), some (.inl lp_), some (.inl li_), some (.inl ck_), some (.inl lp_), none], [.inl 2, .inl ck_], sm_aI (sm_pI S_ 12 0 16 ck_) 117 0 (ck_ - 1).toNat li_)) rfl ?_
          refine sm_T_bin (w := ck_ - 2) rfl (bi_sub (by omega) (by omega) (by omega)) ?_ -- pc_ 57
          refine sm_T_go 1 (c1 := (60, [some (.inr (.inr (some (12, 0)))), some (.inl lp_), some (.inl li_), some (.inl ck_), some (.inl lp_), some (.inl (ck_ - 2))], [], sm_aI (sm_pI S_ 12 0 16 ck_) 117 0 (ck_ - 1).toNat li_)) rfl ?_
          refine ih_.2 ck_ lp_ (ck_ - 2) (sm_aI (sm_pI S_ 12 0 16 ck_) 117 0 (ck_ - 1).toNat li_) hIx10_ hFx11_ ⟨?_, ?_, ?_, trivial⟩ ?_
          · have cq9_ : ck_ = (d_ : Int) + 1 := by (first | omega | (have z9_ : d_ - (ck_ - 1).toNat = 0 := (by (by_cases z8_ : d_ - (ck_ - 1).toNat = 0; exact z8_; (exfalso; obtain ⟨g9_, hg9_⟩ : ∃ g9_, d_ - (ck_ - 1).toNat = g9_ + 1 := ⟨d_ - (ck_ - 1).toNat - 1, by omega⟩; have y9_ := hcd_.1; rw [hg9_] at y9_; have y8_ := y9_.1; rw [← f113_] at y8_; omega))); omega))
            (simp only [rf_eq, rd_fa, rd_af]; omega)
          · (rw [show (ck_ - 2 - (ck_ - 2)).toNat = 0 by omega]; rfl)
          · exact hc_
          · omega
        · have cx7_ : ¬ (4096 ≤ ck_) := of_decide_eq_false cx7_
          refine sm_T_inc (a := 3) (z := 1) (v := ck_) (w := ck_ + 1) rfl rfl (by omega) (by omega) (by omega) ?_ -- pc_ 23
          refine sm_T_go 3 (c1 := (32, [some (.inr (.inr (some (12, 0)))), some (.inl lp_), some (.inl li_), some (.inl (ck_ + 1)), some (.inl pr_), none], [.inl pr_, .inr (.inr (some (113, 0)))], S_)) rfl ?_
          refine sm_T_iald (n := 4096) rfl rfl (by omega) (by omega) ?_
          refine sm_T_go 2 (c1 := (5, [some (.inr (.inr (some (12, 0)))), some (.inl lp_), some (.inl li_), some (.inl (ck_ + 1)), some (.inl (S_.2.2.1 113 0 pr_.toNat)), none], [], S_)) rfl ?_
          refine ih_.1 (ck_ + 1) (S_.2.2.1 113 0 pr_.toNat) S_ hI_ hF_ ⟨?_, ?_, ?_, ?_, ?_, trivial⟩ ?_
          · have ne9_ : S0_.2.2.1 113 0 pr_.toNat ≠ -1 := by omega
            have e9_ : d_ - (ck_ - 1).toNat ≠ 0 := fun z9_ => by (have y9_ := hcd_.1; rw [z9_] at y9_; exact ne9_ y9_)
            obtain ⟨g9_, hg9_⟩ : ∃ g9_, d_ - (ck_ - 1).toNat = g9_ + 1 := ⟨d_ - (ck_ - 1).toNat - 1, by omega⟩
            have y9_ := hcd_.1
            rw [hg9_] at y9_
            rw [f113_, show d_ - (ck_ + 1 - 1).toNat = g9_ by omega]
            exact ⟨y9_.2, by omega⟩
          · (rw [f113_]; omega)
          · (rw [f113_]; rcases pq9_ with z_ | z_; (exfalso; omega); exact z_.2)
          · (rw [f113_, show (ck_ + 1 - 1).toNat = (ck_ - 1).toNat + 1 by omega]; show _ = S0_.2.2.1 113 0 (pit S0_ lp_ (ck_ - 1).toNat).toNat; rw [← hb_])
          · intro i9_ hi9_
            by_cases z_ : (i9_ : Int) < ck_
            · exact hc_ i9_ z_
            · rw [show i9_ = (ck_ - 1).toNat + 1 by omega]
              show 0 ≤ S0_.2.2.1 113 0 (pit S0_ lp_ (ck_ - 1).toNat).toNat ∧ S0_.2.2.1 113 0 (pit S0_ lp_ (ck_ - 1).toNat).toNat ≤ 4095
              rw [← hb_]
              exact pz9_
          · omega
    · rintro ck_ pr_ kx_ S_ hI_ hF_ ⟨h0_, hb_, hc_, -⟩ hm_
      have f113_ : S_.2.2.1 113 0 = S0_.2.2.1 113 0 := fr_arr hF_ rfl
      have hq9_ := hc_ (ck_ - 2 - kx_).toNat (by omega)
      rw [← hb_] at hq9_
      refine sm_T_go 1 (c1 := (62, [some (.inr (.inr (some (12, 0)))), some (.inl lp_), some (.inl li_), some (.inl ck_), some (.inl pr_), some (.inl kx_)], [.inl kx_], S_)) rfl ?_
      refine sm_T_b0 (a := 2) (z := 32) rfl (fun cx1_ => ?_) (fun cx1_ => ?_)
      · have cx1_ : kx_ < 0 := of_decide_eq_true cx1_
        refine sm_T_rv rfl ⟨_, _, rfl, rfl, hI_, hF_, ?_⟩
        omega
      · have cx1_ : ¬ (kx_ < 0) := of_decide_eq_false cx1_
        have f2_ : S_.2.2.1 113 0 pr_.toNat = S0_.2.2.1 113 0 pr_.toNat := by rw [f113_]
        refine sm_T_go 6 (c1 := (77, [some (.inr (.inr (some (12, 0)))), some (.inl lp_), some (.inl li_), some (.inl ck_), some (.inl pr_), some (.inl kx_)], [.inl pr_, .inr (.inr (some (114, 0))), .inl kx_, .inr (.inr (some (117, 0)))], S_)) rfl ?_
        refine sm_T_iald (n := 4096) rfl rfl (by omega) (by omega) ?_
        have bx2_ : 0 ≤ S_.2.2.1 114 0 pr_.toNat ∧ S_.2.2.1 114 0 pr_.toNat ≤ 4095 := hI_.2 114 0 _
        refine sm_T_iast (n := 4096) rfl rfl (by omega) (by omega) ?_
        have hIx3_ : gi (sm_aI S_ 117 0 kx_.toNat (S_.2.2.1 114 0 pr_.toNat)) := gi_aI hI_ (show 0 ≤ (S_.2.2.1 114 0 pr_.toNat) ∧ (S_.2.2.1 114 0 pr_.toNat) ≤ 4095 from ⟨by omega, by omega⟩)
        have hFx4_ : ai_fr (sx_W vw_277w) S0_ (sm_aI S_ 117 0 kx_.toNat (S_.2.2.1 114 0 pr_.toNat)) := ai_fr_tr hF_ (ai_fr_aI rfl)
        refine sm_T_go 3 (c1 := (85, [some (.inr (.inr (some (12, 0)))), some (.inl lp_), some (.inl li_), some (.inl ck_), some (.inl pr_), some (.inl kx_)], [.inl pr_, .inr (.inr (some (113, 0)))], sm_aI S_ 117 0 kx_.toNat (S_.2.2.1 114 0 pr_.toNat))) rfl ?_
        refine sm_T_iald (n := 4096) rfl rfl (by omega) (by omega) ?_
        have bx5_ : (-2) ≤ S_.2.2.1 113 0 pr_.toNat ∧ S_.2.2.1 113 0 pr_.toNat ≤ 4095 := hI_.2 113 0 _
        refine sm_T_go 1 (c1 := (88, [some (.inr (.inr (some (12, 0)))), some (.inl lp_), some (.inl li_), some (.inl ck_), some (.inl (S_.2.2.1 113 0 pr_.toNat)), some (.inl kx_)], [], sm_aI S_ 117 0 kx_.toNat (S_.2.2.1 114 0 pr_.toNat))) rfl ?_
        refine sm_T_inc (a := 5) (z := (-1)) (v := kx_) (w := kx_ - 1) rfl rfl (by omega) (by omega) (by omega) ?_ -- pc_ 88
        refine sm_T_go 1 (c1 := (60, [some (.inr (.inr (some (12, 0)))), some (.inl lp_), some (.inl li_), some (.inl ck_), some (.inl (S_.2.2.1 113 0 pr_.toNat)), some (.inl (kx_ - 1))], [], sm_aI S_ 117 0 kx_.toNat (S_.2.2.1 114 0 pr_.toNat))) rfl ?_
        refine ih_.2 ck_ (S_.2.2.1 113 0 pr_.toNat) (kx_ - 1) (sm_aI S_ 117 0 kx_.toNat (S_.2.2.1 114 0 pr_.toNat)) hIx3_ hFx4_ ⟨?_, ?_, ?_, trivial⟩ ?_
        · (simp only [rf_eq, rd_fa, rd_af]; omega)
        · (rw [f113_, show (ck_ - 2 - (kx_ - 1)).toNat = (ck_ - 2 - kx_).toNat + 1 by omega]; show _ = S0_.2.2.1 113 0 (pit S0_ lp_ (ck_ - 2 - kx_).toNat).toNat; rw [← hb_])
        · exact hc_
        · omega
set_option maxHeartbeats 400000 in
theorem vc_277w {sc_ : Nat × (Nat → Int)} (lp_ : Int) (li_ : Int) (d_ : Nat) (S0_ : sm_S) (hI_ : gi S0_) (hch_ : chn (S0_.2.2.1 113 0) d_ lp_ ∧ d_ ≤ 4095) (hp_ : prf S0_) (h1_ : 0 ≤ lp_ ∧ lp_ ≤ 4095) (h2_ : 0 ≤ li_ ∧ li_ ≤ 4095) (h3_ : S0_.2.2.1 113 0 lp_.toNat ≠ -2) : sm_T (mt_P sc_) 0 277 (0, [some (.inr (.inr (some (12, 0)))), some (.inl lp_), some (.inl li_), none, none, none], [], S0_) (fun ro9_ => ∃ u_ S1_, ro9_ = (.inl u_, S1_, 0) ∧ vq_277w lp_ li_ d_ S0_ u_ S1_) := by
  have hF_ : ai_fr (sx_W vw_277w) S0_ S0_ := ai_fr_rf
  refine sm_T_go 4 (c1 := (5, [some (.inr (.inr (some (12, 0)))), some (.inl lp_), some (.inl li_), some (.inl 1), some (.inl lp_), none], [], S0_)) rfl ?_
  refine (vl_277w lp_ li_ d_ S0_ hch_ hp_ h1_ h2_ h3_ _).1 1 lp_ S0_ hI_ hF_ ⟨?_, ?_, ?_, ?_, ?_, trivial⟩ (Nat.lt_succ_self _)
  · exact ⟨hch_.1, by omega⟩
  · omega
  · exact h3_
  · rfl
  · intro i9_ hi9_
    have z_ : i9_ = 0 := by omega
    rw [z_]; exact h1_
/-! ChipFlow.compare -/
/-! ChipFlow.compare -/
end
/-! 99.ztZ3 -/
section
/-! the reference: machines compared, with what comes out; written by wip/p55/gen/vg -/

/-! the_ reference's queue of_ pairs -/
theorem pat_m {s_ i_ : Int} {R_ I_ : Nat} (hs_ : 0 ≤ s_ ∧ s_ < 2 ^ R_) (hi_ : 0 ≤ i_ ∧ i_ < 2 ^ I_) (h_ : R_ + I_ ≤ 12) : (i_or i_ (i_shl s_ (I_ : Int))).toNat = s_.toNat * 2 ^ I_ + i_.toNat := by
  rw [i_or_c]
  exact pat_n hs_ hi_ h_
def neD (A_ B_ : Nat → Int) (p_ q_ : Nat) : Prop := A_ p_ ≠ B_ q_
def ren (R1_ R2_ : Nat) (Q_ : List (Nat × Nat × Nat)) (mn : Int) (q_ cl_ s_ : Nat → Int) : Prop := mn = (Q_.length : Int) ∧ (∀ j_ a_ b_ d_ : Nat, Q_[j_]? = some (a_, b_, d_) → (a_ < 2 ^ R1_ ∧ b_ < 2 ^ R2_) ∧ q_ j_ = 64 * (b_ : Int) + a_ ∧ cl_ j_ = (d_ : Int) ∧ s_ (64 * b_ + a_) = 1) ∧ ∀ c_, c_ < 4096 → s_ c_ = 1 → ∃ j_ d_ : Nat, Q_[j_]? = some (c_ % 64, c_ / 64, d_)
def rcq (I_ R1_ R2_ : Nat) (D_ : Nat → Nat → Prop) (nA_ nB_ : Nat → Int) (bA_ bB_ k_ i_ : Nat) (mn : Int) (q_ cl_ s_ : Nat → Int) : Prop := ∃ Q_, bfqs I_ D_ nA_ nB_ bA_ bB_ k_ i_ Q_ ∧ ren R1_ R2_ Q_ mn q_ cl_ s_
theorem rcq_0 {I_ R1_ R2_ : Nat} {D_ : Nat → Nat → Prop} {nA_ nB_ : Nat → Int} {bA_ bB_ : Nat} {q_ cl_ s_ : Nat → Int} {f_ : Int} (hb_ : bA_ < 2 ^ R1_ ∧ bB_ < 2 ^ R2_) (h64_ : bA_ < 64 ∧ bB_ < 64) (hf_ : f_ = 64 * (bB_ : Int) + bA_) (hq_ : q_ 0 = f_) (hc_ : cl_ 0 = 0) (hs_ : ∀ j_, j_ < 4096 → s_ j_ = if j_ = f_.toNat then 1 else 0) : rcq I_ R1_ R2_ D_ nA_ nB_ bA_ bB_ 0 0 1 q_ cl_ s_ := by
  refine ⟨[(bA_, bB_, 0)], bfqs_0, rfl, fun j_ a_ b_ d_ h_ => ?_, fun c_ hc9_ h_ => ?_⟩
  · have l_ := (List.getElem?_eq_some_iff.mp h_).1
    have l_ : j_ < 1 := l_
    have m_ := List.mem_singleton.mp (List.mem_of_getElem? h_)
    cases m_
    refine ⟨hb_, by rw [show j_ = 0 by omega, hq_, hf_], by rw [show j_ = 0 by omega, hc_]; rfl, ?_⟩
    rw [hs_ _ (by omega), if_pos (by omega)]
  · have e_ : c_ = f_.toNat := by
      by_cases z_ : c_ = f_.toNat
      · exact z_
      · rw [hs_ c_ hc9_, if_neg z_] at h_
        exact absurd h_ (by decide)
    refine ⟨0, 0, ?_⟩
    rw [show c_ % 64 = bA_ by omega, show c_ / 64 = bB_ by omega]
    rfl
theorem rcq_n {I_ R1_ R2_ : Nat} {D_ : Nat → Nat → Prop} {nA_ nB_ : Nat → Int} {bA_ bB_ k_ i_ : Nat} {mn : Int} {q_ cl_ s_ : Nat → Int} (h_ : rcq I_ R1_ R2_ D_ nA_ nB_ bA_ bB_ k_ i_ mn q_ cl_ s_) (e_ : i_ = 2 ^ I_) : rcq I_ R1_ R2_ D_ nA_ nB_ bA_ bB_ (k_ + 1) 0 mn q_ cl_ s_ := by
  obtain ⟨Q_, a_, b_⟩ := h_
  rw [e_] at a_
  exact ⟨Q_, bfqs_n a_, b_⟩
section RC_
variable {I_ R1_ R2_ : Nat} {D_ : Nat → Nat → Prop} {nA_ nB_ : Nat → Int} {bA_ bB_ k_ i_ : Nat} {mn a_ b_ x_ y_ : Int} {q_ cl_ s_ q'_ cl'_ s'_ : Nat → Int}
theorem rcq_g (h_ : rcq I_ R1_ R2_ D_ nA_ nB_ bA_ bB_ k_ i_ mn q_ cl_ s_) (h6_ : R1_ ≤ 6 ∧ R2_ ≤ 6) (hk_ : (k_ : Int) < mn) (ha_ : 0 ≤ a_ ∧ a_ < 64) (hp_ : q_ k_ = 64 * b_ + a_) : ∃ Q_ d_, bfqs I_ D_ nA_ nB_ bA_ bB_ k_ i_ Q_ ∧ ren R1_ R2_ Q_ mn q_ cl_ s_ ∧ Q_[k_]? = some (a_.toNat, b_.toNat, d_) ∧ cl_ k_ = (d_ : Int) := by
  obtain ⟨Q_, s9_, e1_, e2_, e3_⟩ := h_
  obtain ⟨⟨a9_, b9_, d_⟩, hx_⟩ : ∃ x_, Q_[k_]? = some x_ := ⟨_, List.getElem?_eq_getElem (by omega)⟩
  obtain ⟨⟨a1_, a2_⟩, a3_, a4_, a5_⟩ := e2_ k_ a9_ b9_ d_ hx_
  have w_ : 2 ^ R1_ ≤ 2 ^ 6 := Nat.pow_le_pow_right (by decide) h6_.1
  have w_ : 2 ^ R1_ ≤ 64 := w_
  rw [hp_] at a3_
  refine ⟨Q_, d_, s9_, ⟨e1_, e2_, e3_⟩, ?_, a4_⟩
  rw [show a_.toNat = a9_ by omega, show b_.toNat = b9_ by omega]
  exact hx_
theorem rcq_o (h_ : rcq I_ R1_ R2_ D_ nA_ nB_ bA_ bB_ k_ i_ mn q_ cl_ s_) (h6_ : R1_ ≤ 6 ∧ R2_ ≤ 6) (hk_ : (k_ : Int) < mn) (ha_ : 0 ≤ a_ ∧ a_ < 64) (hp_ : q_ k_ = 64 * b_ + a_) (hi_ : i_ < 2 ^ I_) (nd_ : ¬ D_ (a_.toNat * 2 ^ I_ + i_) (b_.toNat * 2 ^ I_ + i_)) (hx_ : x_ = nA_ (a_.toNat * 2 ^ I_ + i_)) (hy_ : y_ = nB_ (b_.toNat * 2 ^ I_ + i_)) (bx_ : 0 ≤ x_ ∧ x_ < 64) (by9_ : 0 ≤ y_ ∧ y_ < 64) (hs_ : s_ (64 * y_ + x_).toNat = 1) : rcq I_ R1_ R2_ D_ nA_ nB_ bA_ bB_ k_ (i_ + 1) mn q_ cl_ s_ := by
  obtain ⟨Q_, d_, s9_, e_, hz_, -⟩ := rcq_g h_ h6_ hk_ ha_ hp_
  refine ⟨Q_, bfqs_o s9_ hi_ hz_ nd_ ?_, e_⟩
  rw [← hx_, ← hy_]
  obtain ⟨j_, d'_, w_⟩ := e_.2.2 (64 * y_ + x_).toNat (by omega) hs_
  rw [show (64 * y_ + x_).toNat % 64 = x_.toNat by omega, show (64 * y_ + x_).toNat / 64 = y_.toNat by omega] at w_
  exact ⟨j_, d'_, w_⟩
theorem rcq_a (h_ : rcq I_ R1_ R2_ D_ nA_ nB_ bA_ bB_ k_ i_ mn q_ cl_ s_) (h6_ : R1_ ≤ 6 ∧ R2_ ≤ 6) (hk_ : (k_ : Int) < mn) (ha_ : 0 ≤ a_ ∧ a_ < 64) (hp_ : q_ k_ = 64 * b_ + a_) (hi_ : i_ < 2 ^ I_) (nd_ : ¬ D_ (a_.toNat * 2 ^ I_ + i_) (b_.toNat * 2 ^ I_ + i_)) (hx_ : x_ = nA_ (a_.toNat * 2 ^ I_ + i_)) (hy_ : y_ = nB_ (b_.toNat * 2 ^ I_ + i_)) (bx_ : 0 ≤ x_ ∧ x_ < 2 ^ R1_) (by9_ : 0 ≤ y_ ∧ y_ < 2 ^ R2_) (hs_ : s_ (64 * y_ + x_).toNat ≠ 1) (hq_ : ∀ j_, q'_ j_ = if j_ = mn.toNat then 64 * y_ + x_ else q_ j_) (hc_ : ∀ j_, cl'_ j_ = if j_ = mn.toNat then cl_ k_ + 1 else cl_ j_) (hu_ : ∀ j_, s'_ j_ = if j_ = (64 * y_ + x_).toNat then 1 else s_ j_) : rcq I_ R1_ R2_ D_ nA_ nB_ bA_ bB_ k_ (i_ + 1) (mn + 1) q'_ cl'_ s'_ := by
  obtain ⟨Q_, d_, s9_, ⟨e1_, e2_, e3_⟩, hz_, ck_⟩ := rcq_g h_ h6_ hk_ ha_ hp_
  have tx_ := pw_tn bx_.1 bx_.2
  have ty_ := pw_tn by9_.1 by9_.2
  have w1_ : 2 ^ R1_ ≤ 2 ^ 6 := Nat.pow_le_pow_right (by decide) h6_.1
  have w2_ : 2 ^ R2_ ≤ 2 ^ 6 := Nat.pow_le_pow_right (by decide) h6_.2
  have w1_ : 2 ^ R1_ ≤ 64 := w1_
  have w2_ : 2 ^ R2_ ≤ 64 := w2_
  have b_ := bfqs_a s9_ hi_ hz_ nd_ (by
    rw [← hx_, ← hy_]
    rintro ⟨j_, d'_, w_⟩
    have z_ := (e2_ j_ _ _ _ w_).2.2.2
    rw [show 64 * y_.toNat + x_.toNat = (64 * y_ + x_).toNat by omega] at z_
    exact hs_ z_)
  rw [← hx_, ← hy_] at b_
  refine ⟨_, b_, ?_, fun j_ a9_ b9_ d9_ w_ => ?_, fun c_ hc9_ w_ => ?_⟩
  · rw [List.length_append, List.length_singleton]
    omega
  · by_cases c_ : j_ < Q_.length
    · rw [List.getElem?_append_left c_] at w_
      obtain ⟨a1_, a2_, a3_, a4_⟩ := e2_ j_ a9_ b9_ d9_ w_
      refine ⟨a1_, ?_, ?_, ?_⟩
      · rw [hq_, if_neg (by omega)]
        exact a2_
      · rw [hc_, if_neg (by omega)]
        exact a3_
      · rw [hu_]
        split
        · rfl
        · exact a4_
    · rw [List.getElem?_append_right (by omega)] at w_
      have l_ := (List.getElem?_eq_some_iff.mp w_).1
      have l_ : j_ - Q_.length < 1 := l_
      have m_ := List.mem_singleton.mp (List.mem_of_getElem? w_)
      cases m_
      refine ⟨⟨tx_, ty_⟩, ?_, ?_, ?_⟩
      · rw [hq_, if_pos (by omega)]
        omega
      · rw [hc_, if_pos (by omega), ck_]
        omega
      · rw [hu_, if_pos (by omega)]
  · by_cases z_ : c_ = (64 * y_ + x_).toNat
    · refine ⟨Q_.length, d_ + 1, ?_⟩
      rw [List.getElem?_append_right (Nat.le_refl _), Nat.sub_self, show c_ % 64 = x_.toNat by omega, show c_ / 64 = y_.toNat by omega]
      rfl
    · rw [hu_, if_neg z_] at w_
      obtain ⟨j_, d'_, v_⟩ := e3_ c_ hc9_ w_
      refine ⟨j_, d'_, ?_⟩
      rw [List.getElem?_append_left (List.getElem?_eq_some_iff.mp v_).1]
      exact v_
theorem rcq_d (h_ : rcq I_ R1_ R2_ D_ nA_ nB_ bA_ bB_ k_ i_ mn q_ cl_ s_) (h6_ : R1_ ≤ 6 ∧ R2_ ≤ 6) (hk_ : (k_ : Int) < mn) (ha_ : 0 ≤ a_ ∧ a_ < 64) (hp_ : q_ k_ = 64 * b_ + a_) (hi_ : i_ < 2 ^ I_) (df_ : D_ (a_.toNat * 2 ^ I_ + i_) (b_.toNat * 2 ^ I_ + i_)) : bfsp I_ D_ nA_ nB_ bA_ bB_ (cl_ k_ + 1) := by
  obtain ⟨Q_, d_, s9_, e_, hz_, ck_⟩ := rcq_g h_ h6_ hk_ ha_ hp_
  rw [ck_]
  exact bfqs_d s9_ hi_ hz_ df_
theorem rcq_e (h_ : rcq I_ R1_ R2_ D_ nA_ nB_ bA_ bB_ k_ 0 mn q_ cl_ s_) (hk_ : mn ≤ (k_ : Int)) : bfsp I_ D_ nA_ nB_ bA_ bB_ 0 := by
  obtain ⟨Q_, s9_, e1_, -⟩ := h_
  exact bfqs_e s9_ (by omega)
end RC_

/-! M_.tellWitness -/
def vw_385w : sx_Wl := ([(13, 95)], [189], [])
def vq_385w (pl_ : Int) (ip_ : Int) (S0_ : sm_S) (u_ : Option sm_V) (S1_ : sm_S) : Prop := ∃ v_ : Int, u_ = some (.inl v_) ∧ gi S1_ ∧ ai_fr (sx_W vw_385w) S0_ S1_ ∧ ((0 ≤ v_ ∧ v_ ≤ 4096) ∧ v_ = S0_.2.2.1 197 0 pl_.toNat + 1)
set_option maxHeartbeats 400000 in
set_option maxRecDepth 20000 in
theorem vl_385w {sc_ : Nat × (Nat → Int)} (pl_ : Int) (ip_ : Int) (S0_ : sm_S) (hp_ : 0 ≤ pl_ ∧ pl_ ≤ 4095) (hi_ : 0 ≤ ip_ ∧ ip_ ≤ 4095) : ∀ nn_ : Nat, (∀ (mn : Int) (k_ : Int) (i_ : Int) (S_ : sm_S), gi S_ → ai_fr (sx_W vw_385w) S0_ S_ → ((mn = S0_.2.2.1 197 0 pl_.toNat + 1) ∧ (1 ≤ mn ∧ mn ≤ 4096 ∧ -1 ≤ i_ ∧ i_ ≤ mn - 2 ∧ 0 ≤ k_ ∧ k_ ≤ 4095) ∧ True) → ((i_ + 2).toNat) < nn_ → sm_T (mt_P sc_) 0 385 (31, [some (.inr (.inr (some (13, 0)))), some (.inl pl_), some (.inl ip_), some (.inl mn), some (.inl k_), some (.inl i_)], [], S_) (fun ro9_ => ∃ u_ S1_, ro9_ = (.inl u_, S1_, 0) ∧ vq_385w pl_ ip_ S0_ u_ S1_)) := by
  intro nn_
  induction nn_ with
  | zero => exact fun _ _ _ _ _ _ _ h_ => absurd h_ (Nat.not_lt_zero _)
  | succ nn_ ih_ =>
    rintro mn k_ i_ S_ hI_ hF_ ⟨hm9_, h0_, -⟩ hm_
    refine sm_T_go 1 (c1 := (33, [some (.inr (.inr (some (13, 0)))), some (.inl pl_), some (.inl ip_), some (.inl mn), some (.inl k_), some (.inl i_)], [.inl i_], S_)) rfl ?_
    refine sm_T_b0 (a := 2) (z := 32) rfl (fun cx1_ => ?_) (fun cx1_ => ?_)
    · have cx1_ : i_ < 0 := of_decide_eq_true cx1_
      refine sm_T_go 1 (c1 := (66, [some (.inr (.inr (some (13, 0)))), some (.inl pl_), some (.inl ip_), some (.inl mn), some (.inl k_), some (.inl i_)], [.inl mn], S_)) rfl ?_
      refine sm_T_ri rfl ⟨_, _, rfl, _, rfl, hI_, hF_, ?_⟩
      exact ⟨by omega, hm9_⟩
    · have cx1_ : ¬ (i_ < 0) := of_decide_eq_false cx1_
      refine sm_T_go 6 (c1 := (48, [some (.inr (.inr (some (13, 0)))), some (.inl pl_), some (.inl ip_), some (.inl mn), some (.inl k_), some (.inl i_)], [.inl k_, .inr (.inr (some (196, 0))), .inl i_, .inr (.inr (some (189, 0)))], S_)) rfl ?_
      refine sm_T_iald (n := 4096) rfl rfl (by omega) (by omega) ?_
      have bx2_ : 0 ≤ S_.2.2.1 196 0 k_.toNat ∧ S_.2.2.1 196 0 k_.toNat ≤ 4095 := hI_.2 196 0 _
      refine sm_T_iast (n := 4200) rfl rfl (by omega) (by omega) ?_
      have hIx3_ : gi (sm_aI S_ 189 0 i_.toNat (S_.2.2.1 196 0 k_.toNat)) := gi_aI hI_ (show 0 ≤ (S_.2.2.1 196 0 k_.toNat) ∧ (S_.2.2.1 196 0 k_.toNat) ≤ 4095 from ⟨by omega, by omega⟩)
      have hFx4_ : ai_fr (sx_W vw_385w) S0_ (sm_aI S_ 189 0 i_.toNat (S_.2.2.1 196 0 k_.toNat)) := ai_fr_tr hF_ (ai_fr_aI rfl)
      refine sm_T_go 3 (c1 := (56, [some (.inr (.inr (some (13, 0)))), some (.inl pl_), some (.inl ip_), some (.inl mn), some (.inl k_), some (.inl i_)], [.inl k_, .inr (.inr (some (195, 0)))], sm_aI S_ 189 0 i_.toNat (S_.2.2.1 196 0 k_.toNat))) rfl ?_
      refine sm_T_iald (n := 4096) rfl rfl (by omega) (by omega) ?_
      have bx5_ : 0 ≤ S_.2.2.1 195 0 k_.toNat ∧ S_.2.2.1 195 0 k_.toNat ≤ 4095 := hI_.2 195 0 _
      refine sm_T_go 1 (c1 := (59, [some (.inr (.inr (some (13, 0)))), some (.inl pl_), some (.inl ip_), some (.inl mn), some (.inl (S_.2.2.1 195 0 k_.toNat)), some (.inl i_)], [], sm_aI S_ 189 0 i_.toNat (S_.2.2.1 196 0 k_.toNat))) rfl ?_
      refine sm_T_inc (a := 5) (z := (-1)) (v := i_) (w := i_ - 1) rfl rfl (by omega) (by omega) (by omega) ?_ -- pc_ 59
      refine sm_T_go 1 (c1 := (31, [some (.inr (.inr (some (13, 0)))), some (.inl pl_), some (.inl ip_), some (.inl mn), some (.inl (S_.2.2.1 195 0 k_.toNat)), some (.inl (i_ - 1))], [], sm_aI S_ 189 0 i_.toNat (S_.2.2.1 196 0 k_.toNat))) rfl ?_
      refine ih_ mn (S_.2.2.1 195 0 k_.toNat) (i_ - 1) (sm_aI S_ 189 0 i_.toNat (S_.2.2.1 196 0 k_.toNat)) hIx3_ hFx4_ ⟨?_, ?_, trivial⟩ ?_
      · first | exact hm9_ | rfl | omega
      · omega
      · omega
set_option maxHeartbeats 400000 in
set_option maxRecDepth 20000 in
theorem vc_385w {sc_ : Nat × (Nat → Int)} (pl_ : Int) (ip_ : Int) (S0_ : sm_S) (hI_ : gi S0_) (hp_ : 0 ≤ pl_ ∧ pl_ ≤ 4095) (hi_ : 0 ≤ ip_ ∧ ip_ ≤ 4095) : sm_T (mt_P sc_) 0 385 (0, [some (.inr (.inr (some (13, 0)))), some (.inl pl_), some (.inl ip_), none, none, none], [], S0_) (fun ro9_ => ∃ u_ S1_, ro9_ = (.inl u_, S1_, 0) ∧ vq_385w pl_ ip_ S0_ u_ S1_) := by
  have hF_ : ai_fr (sx_W vw_385w) S0_ S0_ := ai_fr_rf
  refine sm_T_go 3 (c1 := (5, [some (.inr (.inr (some (13, 0)))), some (.inl pl_), some (.inl ip_), none, none, none], [.inl pl_, .inr (.inr (some (197, 0)))], S0_)) rfl ?_
  refine sm_T_iald (n := 4096) rfl rfl (by omega) (by omega) ?_
  have bx1_ : 0 ≤ S0_.2.2.1 197 0 pl_.toNat ∧ S0_.2.2.1 197 0 pl_.toNat ≤ 4095 := hI_.2 197 0 _
  refine sm_T_go 1 (c1 := (7, [some (.inr (.inr (some (13, 0)))), some (.inl pl_), some (.inl ip_), none, none, none], [.inl 1, .inl (S0_.2.2.1 197 0 pl_.toNat)], S0_)) rfl ?_
  refine sm_T_bin (w := (S0_.2.2.1 197 0 pl_.toNat) + 1) rfl (bi_add (by omega) (by omega) (by omega)) ?_ -- pc_ 7
  have hIx2_ : gi (sm_pI S0_ 13 0 95 ((S0_.2.2.1 197 0 pl_.toNat) + 1)) := gi_pI hI_ (show 0 ≤ (S0_.2.2.1 197 0 pl_.toNat) + 1 ∧ (S0_.2.2.1 197 0 pl_.toNat) + 1 ≤ 4097 from ⟨by omega, by omega⟩)
  have hFx3_ : ai_fr (sx_W vw_385w) S0_ (sm_pI S0_ 13 0 95 ((S0_.2.2.1 197 0 pl_.toNat) + 1)) := ai_fr_tr hF_ (ai_fr_pI rfl)
  refine sm_T_go 8 (c1 := (20, [some (.inr (.inr (some (13, 0)))), some (.inl pl_), some (.inl ip_), some (.inl ((S0_.2.2.1 197 0 pl_.toNat) + 1)), none, none], [.inl 1, .inl ((S0_.2.2.1 197 0 pl_.toNat) + 1), .inr (.inr (some (189, 0)))], sm_pI S0_ 13 0 95 ((S0_.2.2.1 197 0 pl_.toNat) + 1))) rfl ?_
  refine sm_T_bin (w := (S0_.2.2.1 197 0 pl_.toNat)) rfl (bi_sub (by omega) (by omega) (by omega)) ?_ -- pc_ 20
  refine sm_T_go 1 (c1 := (22, [some (.inr (.inr (some (13, 0)))), some (.inl pl_), some (.inl ip_), some (.inl ((S0_.2.2.1 197 0 pl_.toNat) + 1)), none, none], [.inl ip_, .inl (S0_.2.2.1 197 0 pl_.toNat), .inr (.inr (some (189, 0)))], sm_pI S0_ 13 0 95 ((S0_.2.2.1 197 0 pl_.toNat) + 1))) rfl ?_
  refine sm_T_iast (n := 4200) rfl rfl (by omega) (by omega) ?_
  have hIx4_ : gi (sm_aI (sm_pI S0_ 13 0 95 ((S0_.2.2.1 197 0 pl_.toNat) + 1)) 189 0 (S0_.2.2.1 197 0 pl_.toNat).toNat ip_) := gi_aI hIx2_ (show 0 ≤ ip_ ∧ ip_ ≤ 4095 from ⟨by omega, by omega⟩)
  have hFx5_ : ai_fr (sx_W vw_385w) S0_ (sm_aI (sm_pI S0_ 13 0 95 ((S0_.2.2.1 197 0 pl_.toNat) + 1)) 189 0 (S0_.2.2.1 197 0 pl_.toNat).toNat ip_) := ai_fr_tr hFx3_ (ai_fr_aI rfl)
  refine sm_T_go 4 (c1 := (28, [some (.inr (.inr (some (13, 0)))), some (.inl pl_), some (.inl ip_), some (.inl ((S0_.2.2.1 197 0 pl_.toNat) + 1)), some (.inl pl_), none], [.inl 2, .inl ((S0_.2.2.1 197 0 pl_.toNat) + 1)], sm_aI (sm_pI S0_ 13 0 95 ((S0_.2.2.1 197 0 pl_.toNat) + 1)) 189 0 (S0_.2.2.1 197 0 pl_.toNat).toNat ip_)) rfl ?_
  refine sm_T_bin (w := (S0_.2.2.1 197 0 pl_.toNat) - 1) rfl (bi_sub (by omega) (by omega) (by omega)) ?_ -- pc_ 28
  refine sm_T_go 1 (c1 := (31, [some (.inr (.inr (some (13, 0)))), some (.inl pl_), some (.inl ip_), some (.inl ((S0_.2.2.1 197 0 pl_.toNat) + 1)), some (.inl pl_), some (.inl ((S0_.2.2.1 197 0 pl_.toNat) - 1))], [], sm_aI (sm_pI S0_ 13 0 95 ((S0_.2.2.1 197 0 pl_.toNat) + 1)) 189 0 (S0_.2.2.1 197 0 pl_.toNat).toNat ip_)) rfl ?_
  refine (vl_385w pl_ ip_ S0_ hp_ hi_ _) ((S0_.2.2.1 197 0 pl_.toNat) + 1) pl_ ((S0_.2.2.1 197 0 pl_.toNat) - 1) (sm_aI (sm_pI S0_ 13 0 95 ((S0_.2.2.1 197 0 pl_.toNat) + 1)) 189 0 (S0_.2.2.1 197 0 pl_.toNat).toNat ip_) hIx4_ hFx5_ ⟨?_, ?_, trivial⟩ (Nat.lt_succ_self _)
  · first | exact hm9_ | rfl | omega
  · omega
/-! M_.search -/
def vw_386w : sx_Wl := ([(13, 95)], [189, 194, 195, 196, 197, 198], [])
def vq_386w (ip_ : Int) (bA_ : Int) (bB_ : Int) (sA_ : Nat) (sB_ : Nat) (S0_ : sm_S) (u_ : Option sm_V) (S1_ : sm_S) : Prop := ∃ v_ : Int, u_ = some (.inl v_) ∧ gi S1_ ∧ ai_fr (sx_W vw_386w) S0_ S1_ ∧ ((0 ≤ v_ ∧ v_ ≤ 4096) ∧ bfsp ip_.toNat (neD (S0_.2.2.1 190 0) (S0_.2.2.1 192 0)) (S0_.2.2.1 191 0) (S0_.2.2.1 193 0) bA_.toNat bB_.toNat v_)
set_option maxHeartbeats 3000000 in
set_option maxRecDepth 20000 in
theorem vl_386w {sc_ : Nat × (Nat → Int)} (ip_ : Int) (bA_ : Int) (bB_ : Int) (sA_ : Nat) (sB_ : Nat) (S0_ : sm_S) (hi_ : 0 ≤ ip_ ∧ ip_ + sA_ ≤ 12 ∧ ip_ + sB_ ≤ 12 ∧ sA_ ≤ 6 ∧ sB_ ≤ 6) (hbA_ : 0 ≤ bA_ ∧ bA_ < 2 ^ sA_) (hbB_ : 0 ≤ bB_ ∧ bB_ < 2 ^ sB_) (htA_ : ∀ p9_ : Nat, p9_ < 2 ^ (ip_.toNat + sA_) → 0 ≤ S0_.2.2.1 191 0 p9_ ∧ S0_.2.2.1 191 0 p9_ < 2 ^ sA_) (htB_ : ∀ p9_ : Nat, p9_ < 2 ^ (ip_.toNat + sB_) → 0 ≤ S0_.2.2.1 193 0 p9_ ∧ S0_.2.2.1 193 0 p9_ < 2 ^ sB_) : ∀ nn_ : Nat, (∀ (k_ : Int) (S_ : sm_S), gi S_ → ai_fr (sx_W vw_386w) S0_ S_ → ((0 ≤ k_ ∧ k_ ≤ 4096) ∧ (∀ j9_ : Nat, (j9_ : Int) < k_ → S_.2.2.1 198 0 j9_ = 0) ∧ True) → ((90000000 - k_).toNat) < nn_ → sm_T (mt_P sc_) 1 386 (8, [some (.inr (.inr (some (13, 0)))), some (.inl ip_), some (.inl bA_), some (.inl bB_), some (.inl k_), none, none, none, none, none], [], S_) (fun ro9_ => ∃ u_ S1_, ro9_ = (.inl u_, S1_, 0) ∧ vq_386w ip_ bA_ bB_ sA_ sB_ S0_ u_ S1_)) ∧ (∀ (mn : Int) (k_ : Int) (S_ : sm_S), gi S_ → ai_fr (sx_W vw_386w) S0_ S_ → ((∀ j9_ : Nat, (j9_ : Int) < mn → S_.2.2.1 194 0 j9_ % 64 < 2 ^ sA_ ∧ S_.2.2.1 194 0 j9_ / 64 < 2 ^ sB_ ∧ S_.2.2.1 197 0 j9_ ≤ (j9_ : Int)) ∧ (mn = (cn1 (S_.2.2.1 198 0) 4096 : Int)) ∧ (rcq ip_.toNat sA_ sB_ (neD (S0_.2.2.1 190 0) (S0_.2.2.1 192 0)) (S0_.2.2.1 191 0) (S0_.2.2.1 193 0) bA_.toNat bB_.toNat k_.toNat 0 mn (S_.2.2.1 194 0) (S_.2.2.1 197 0) (S_.2.2.1 198 0)) ∧ (1 ≤ mn ∧ 0 ≤ k_ ∧ k_ ≤ mn) ∧ True) → ((10000 * (5000 - k_) + 9000).toNat) < nn_ → sm_T (mt_P sc_) 1 386 (67, [some (.inr (.inr (some (13, 0)))), some (.inl ip_), some (.inl bA_), some (.inl bB_), some (.inl mn), some (.inl k_), none, none, none, none], [], S_) (fun ro9_ => ∃ u_ S1_, ro9_ = (.inl u_, S1_, 0) ∧ vq_386w ip_ bA_ bB_ sA_ sB_ S0_ u_ S1_)) ∧ (∀ (mn : Int) (k_ : Int) (a_ : Int) (b_ : Int) (i_ : Int) (S_ : sm_S), gi S_ → ai_fr (sx_W vw_386w) S0_ S_ → ((∀ j9_ : Nat, (j9_ : Int) < mn → S_.2.2.1 194 0 j9_ % 64 < 2 ^ sA_ ∧ S_.2.2.1 194 0 j9_ / 64 < 2 ^ sB_ ∧ S_.2.2.1 197 0 j9_ ≤ (j9_ : Int)) ∧ (mn = (cn1 (S_.2.2.1 198 0) 4096 : Int)) ∧ (rcq ip_.toNat sA_ sB_ (neD (S0_.2.2.1 190 0) (S0_.2.2.1 192 0)) (S0_.2.2.1 191 0) (S0_.2.2.1 193 0) bA_.toNat bB_.toNat k_.toNat i_.toNat mn (S_.2.2.1 194 0) (S_.2.2.1 197 0) (S_.2.2.1 198 0)) ∧ (S_.2.2.1 194 0 k_.toNat = 64 * b_ + a_) ∧ (1 ≤ mn ∧ 0 ≤ k_ ∧ k_ < mn ∧ 0 ≤ i_ ∧ i_ ≤ 2 ^ ip_.toNat) ∧ (0 ≤ a_ ∧ a_ < 2 ^ sA_ ∧ 0 ≤ b_ ∧ b_ < 2 ^ sB_) ∧ True) → ((10000 * (5000 - k_) + 8000 - i_).toNat) < nn_ → sm_T (mt_P sc_) 1 386 (101, [some (.inr (.inr (some (13, 0)))), some (.inl ip_), some (.inl bA_), some (.inl bB_), some (.inl mn), some (.inl k_), some (.inl a_), some (.inl b_), some (.inl i_), none], [], S_) (fun ro9_ => ∃ u_ S1_, ro9_ = (.inl u_, S1_, 0) ∧ vq_386w ip_ bA_ bB_ sA_ sB_ S0_ u_ S1_)) := by
  intro nn_
  induction nn_ with
  | zero => exact ⟨fun _ _ _ _ _ h_ => absurd h_ (Nat.not_lt_zero _), fun _ _ _ _ _ _ h_ => absurd h_ (Nat.not_lt_zero _), fun _ _ _ _ _ _ _ _ _ h_ => absurd h_ (Nat.not_lt_zero _)⟩
  | succ nn_ ih_ =>
    refine ⟨?_, ?_, ?_⟩
    · rintro k_ S_ hI_ hF_ ⟨h0_, h1_, -⟩ hm_
      have w1_ := pw_le (n := sA_) (m := 6) (by omega)
      have w2_ := pw_le (n := sB_) (m := 6) (by omega)
      have w3_ := pw_pos sA_
      have w4_ := pw_pos sB_
      have w5_ := pw_le (n := ip_.toNat) (m := 12) (by omega)
      have w6_ := pw_pos ip_.toNat
      have f191_ : S_.2.2.1 191 0 = S0_.2.2.1 191 0 := fr_arr hF_ rfl
      have f190_ : S_.2.2.1 190 0 = S0_.2.2.1 190 0 := fr_arr hF_ rfl
      have f192_ : S_.2.2.1 192 0 = S0_.2.2.1 192 0 := fr_arr hF_ rfl
      have f193_ : S_.2.2.1 193 0 = S0_.2.2.1 193 0 := fr_arr hF_ rfl
      have cl9_ := cn1_le (S_.2.2.1 198 0) 4096
      have s9_ := i_shl1 (e := ip_) (by omega) (by omega)
      refine sm_T_go 2 (c1 := (13, [some (.inr (.inr (some (13, 0)))), some (.inl ip_), some (.inl bA_), some (.inl bB_), some (.inl k_), none, none, none, none, none], [.inl 4096, .inl k_], S_)) rfl ?_
      refine sm_T_br (a := 3) (z := 17) rfl (fun cx1_ => ?_) (fun cx1_ => ?_)
      · have cx1_ : 4096 ≤ k_ := of_decide_eq_true cx1_
        refine sm_T_go 8 (c1 := (42, [some (.inr (.inr (some (13, 0)))), some (.inl ip_), some (.inl bA_), some (.inl bB_), some (.inl 1), none, none, none, none, none], [.inl 6, .inl bB_, .inl bA_, .inl 0, .inr (.inr (some (194, 0)))], S_)) rfl ?_
        refine sm_T_bin (w := 64 * bB_) rfl (bi_shl (k := 6) (by decide) (by omega) (by omega) (by omega)) ?_ -- pc_ 42
        refine sm_T_bin (w := (i_or bA_ (64 * bB_))) rfl rfl ?_ -- pc_ 43
        have bx2_ := or64c (a_ := bB_) (b_ := bA_) (by omega) (by omega)
        refine sm_T_iast (n := 4096) rfl rfl (by omega) (by omega) ?_
        have hIx3_ : gi (sm_aI S_ 194 0 (0 : Int).toNat (i_or bA_ (64 * bB_))) := gi_aI hI_ (show 0 ≤ (i_or bA_ (64 * bB_)) ∧ (i_or bA_ (64 * bB_)) ≤ 4095 from ⟨by omega, by omega⟩)
        have hFx4_ : ai_fr (sx_W vw_386w) S0_ (sm_aI S_ 194 0 (0 : Int).toNat (i_or bA_ (64 * bB_))) := ai_fr_tr hF_ (ai_fr_aI rfl)
        refine sm_T_go 4 (c1 := (51, [some (.inr (.inr (some (13, 0)))), some (.inl ip_), some (.inl bA_), some (.inl bB_), some (.inl 1), none, none, none, none, none], [.inl 0, .inl 0, .inr (.inr (some (197, 0)))], sm_aI S_ 194 0 (0 : Int).toNat (i_or bA_ (64 * bB_)))) rfl ?_
        refine sm_T_iast (n := 4096) rfl rfl (by omega) (by omega) ?_
        have hIx5_ : gi (sm_aI (sm_aI S_ 194 0 (0 : Int).toNat (i_or bA_ (64 * bB_))) 197 0 (0 : Int).toNat 0) := gi_aI hIx3_ (show 0 ≤ 0 ∧ 0 ≤ 4095 from ⟨by omega, by omega⟩)
        have hFx6_ : ai_fr (sx_W vw_386w) S0_ (sm_aI (sm_aI S_ 194 0 (0 : Int).toNat (i_or bA_ (64 * bB_))) 197 0 (0 : Int).toNat 0) := ai_fr_tr hFx4_ (ai_fr_aI rfl)
        refine sm_T_go 5 (c1 := (61, [some (.inr (.inr (some (13, 0)))), some (.inl ip_), some (.inl bA_), some (.inl bB_), some (.inl 1), none, none, none, none, none], [.inl 0, .inr (.inr (some (194, 0))), .inr (.inr (some (198, 0)))], sm_aI (sm_aI S_ 194 0 (0 : Int).toNat (i_or bA_ (64 * bB_))) 197 0 (0 : Int).toNat 0)) rfl ?_
        refine sm_T_iald (n := 4096) rfl rfl (by omega) (by omega) ?_
        have bx7_ : 0 ≤ (sm_aI (sm_aI S_ 194 0 (0 : Int).toNat (i_or bA_ (64 * bB_))) 197 0 (0 : Int).toNat 0).2.2.1 194 0 (0 : Int).toNat ∧ (sm_aI (sm_aI S_ 194 0 (0 : Int).toNat (i_or bA_ (64 * bB_))) 197 0 (0 : Int).toNat 0).2.2.1 194 0 (0 : Int).toNat ≤ 4095 := hIx5_.2 194 0 _
        refine sm_T_go 1 (c1 := (63, [some (.inr (.inr (some (13, 0)))), some (.inl ip_), some (.inl bA_), some (.inl bB_), some (.inl 1), none, none, none, none, none], [.inl 1, .inl ((sm_aI (sm_aI S_ 194 0 (0 : Int).toNat (i_or bA_ (64 * bB_))) 197 0 (0 : Int).toNat 0).2.2.1 194 0 (0 : Int).toNat), .inr (.inr (some (198, 0)))], sm_aI (sm_aI S_ 194 0 (0 : Int).toNat (i_or bA_ (64 * bB_))) 197 0 (0 : Int).toNat 0)) rfl ?_
        refine sm_T_zas1 (n := 4096) rfl rfl (by omega) (by omega) (by omega) ?_
        have hIx8_ : gi (sm_aI (sm_aI (sm_aI S_ 194 0 (0 : Int).toNat (i_or bA_ (64 * bB_))) 197 0 (0 : Int).toNat 0) 198 0 ((sm_aI (sm_aI S_ 194 0 (0 : Int).toNat (i_or bA_ (64 * bB_))) 197 0 (0 : Int).toNat 0).2.2.1 194 0 (0 : Int).toNat).toNat 1) := gi_aI hIx5_ (show 0 ≤ 1 ∧ 1 ≤ 1 from ⟨by omega, by omega⟩)
        have hFx9_ : ai_fr (sx_W vw_386w) S0_ (sm_aI (sm_aI (sm_aI S_ 194 0 (0 : Int).toNat (i_or bA_ (64 * bB_))) 197 0 (0 : Int).toNat 0) 198 0 ((sm_aI (sm_aI S_ 194 0 (0 : Int).toNat (i_or bA_ (64 * bB_))) 197 0 (0 : Int).toNat 0).2.2.1 194 0 (0 : Int).toNat).toNat 1) := ai_fr_tr hFx6_ (ai_fr_aI rfl)
        refine sm_T_go 2 (c1 := (67, [some (.inr (.inr (some (13, 0)))), some (.inl ip_), some (.inl bA_), some (.inl bB_), some (.inl 1), some (.inl 0), none, none, none, none], [], sm_aI (sm_aI (sm_aI S_ 194 0 (0 : Int).toNat (i_or bA_ (64 * bB_))) 197 0 (0 : Int).toNat 0) 198 0 ((sm_aI (sm_aI S_ 194 0 (0 : Int).toNat (i_or bA_ (64 * bB_))) 197 0 (0 : Int).toNat 0).2.2.1 194 0 (0 : Int).toNat).toNat 1)) rfl ?_
        refine ih_.2.1 1 0 (sm_aI (sm_aI (sm_aI S_ 194 0 (0 : Int).toNat (i_or bA_ (64 * bB_))) 197 0 (0 : Int).toNat 0) 198 0 ((sm_aI (sm_aI S_ 194 0 (0 : Int).toNat (i_or bA_ (64 * bB_))) 197 0 (0 : Int).toNat 0).2.2.1 194 0 (0 : Int).toNat).toNat 1) hIx8_ hFx9_ ⟨?_, ?_, ?_, ?_, trivial⟩ ?_
        · obtain ⟨FF_, hFF_⟩ : ∃ FF_, FF_ = i_or bA_ (64 * bB_) := ⟨_, rfl⟩
          have g9_ : 0 ≤ FF_ ∧ FF_ ≤ 4095 ∧ FF_ % 64 = bA_ ∧ FF_ / 64 = bB_ := by (rw [hFF_]; omega)
          have r1_ : ∀ j9_, ((sm_aI (sm_aI (sm_aI S_ 194 0 (0 : Int).toNat (i_or bA_ (64 * bB_))) 197 0 (0 : Int).toNat 0) 198 0 ((sm_aI (sm_aI S_ 194 0 (0 : Int).toNat (i_or bA_ (64 * bB_))) 197 0 (0 : Int).toNat 0).2.2.1 194 0 (0 : Int).toNat).toNat 1)).2.2.1 194 0 j9_ = if j9_ = 0 then FF_ else S_.2.2.1 194 0 j9_ := fun j9_ => by (rw [rd_ne (by decide), rd_ne (by decide), rd_eq, hFF_]; rfl)
          have r0_ : (sm_aI (sm_aI S_ 194 0 (0 : Int).toNat (i_or bA_ (64 * bB_))) 197 0 (0 : Int).toNat 0).2.2.1 194 0 (0 : Int).toNat = i_or bA_ (64 * bB_) := by (rw [rd_ne (show 194 ≠ 197 by decide), rd_eq, if_pos rfl])
          have r2_ : ∀ j9_, ((sm_aI (sm_aI (sm_aI S_ 194 0 (0 : Int).toNat (i_or bA_ (64 * bB_))) 197 0 (0 : Int).toNat 0) 198 0 ((sm_aI (sm_aI S_ 194 0 (0 : Int).toNat (i_or bA_ (64 * bB_))) 197 0 (0 : Int).toNat 0).2.2.1 194 0 (0 : Int).toNat).toNat 1)).2.2.1 198 0 j9_ = if j9_ = FF_.toNat then 1 else S_.2.2.1 198 0 j9_ := fun j9_ => by (rw [rd_eq, r0_, rd_ne (show 198 ≠ 197 by decide), rd_ne (show 198 ≠ 194 by decide), hFF_])
          have r3_ : ∀ j9_, ((sm_aI (sm_aI (sm_aI S_ 194 0 (0 : Int).toNat (i_or bA_ (64 * bB_))) 197 0 (0 : Int).toNat 0) 198 0 ((sm_aI (sm_aI S_ 194 0 (0 : Int).toNat (i_or bA_ (64 * bB_))) 197 0 (0 : Int).toNat 0).2.2.1 194 0 (0 : Int).toNat).toNat 1)).2.2.1 197 0 j9_ = if j9_ = 0 then 0 else S_.2.2.1 197 0 j9_ := fun j9_ => by (rw [rd_ne (by decide), rd_eq, rd_ne (by decide)]; rfl)
          intro j9_ hj9_
          have z9_ : j9_ = 0 := by omega
          rw [z9_, r1_, r3_, if_pos rfl, if_pos rfl]
          exact ⟨by omega, by omega, by omega⟩
        · obtain ⟨FF_, hFF_⟩ : ∃ FF_, FF_ = i_or bA_ (64 * bB_) := ⟨_, rfl⟩
          have g9_ : 0 ≤ FF_ ∧ FF_ ≤ 4095 ∧ FF_ % 64 = bA_ ∧ FF_ / 64 = bB_ := by (rw [hFF_]; omega)
          have r1_ : ∀ j9_, ((sm_aI (sm_aI (sm_aI S_ 194 0 (0 : Int).toNat (i_or bA_ (64 * bB_))) 197 0 (0 : Int).toNat 0) 198 0 ((sm_aI (sm_aI S_ 194 0 (0 : Int).toNat (i_or bA_ (64 * bB_))) 197 0 (0 : Int).toNat 0).2.2.1 194 0 (0 : Int).toNat).toNat 1)).2.2.1 194 0 j9_ = if j9_ = 0 then FF_ else S_.2.2.1 194 0 j9_ := fun j9_ => by (rw [rd_ne (by decide), rd_ne (by decide), rd_eq, hFF_]; rfl)
          have r0_ : (sm_aI (sm_aI S_ 194 0 (0 : Int).toNat (i_or bA_ (64 * bB_))) 197 0 (0 : Int).toNat 0).2.2.1 194 0 (0 : Int).toNat = i_or bA_ (64 * bB_) := by (rw [rd_ne (show 194 ≠ 197 by decide), rd_eq, if_pos rfl])
          have r2_ : ∀ j9_, ((sm_aI (sm_aI (sm_aI S_ 194 0 (0 : Int).toNat (i_or bA_ (64 * bB_))) 197 0 (0 : Int).toNat 0) 198 0 ((sm_aI (sm_aI S_ 194 0 (0 : Int).toNat (i_or bA_ (64 * bB_))) 197 0 (0 : Int).toNat 0).2.2.1 194 0 (0 : Int).toNat).toNat 1)).2.2.1 198 0 j9_ = if j9_ = FF_.toNat then 1 else S_.2.2.1 198 0 j9_ := fun j9_ => by (rw [rd_eq, r0_, rd_ne (show 198 ≠ 197 by decide), rd_ne (show 198 ≠ 194 by decide), hFF_])
          have r3_ : ∀ j9_, ((sm_aI (sm_aI (sm_aI S_ 194 0 (0 : Int).toNat (i_or bA_ (64 * bB_))) 197 0 (0 : Int).toNat 0) 198 0 ((sm_aI (sm_aI S_ 194 0 (0 : Int).toNat (i_or bA_ (64 * bB_))) 197 0 (0 : Int).toNat 0).2.2.1 194 0 (0 : Int).toNat).toNat 1)).2.2.1 197 0 j9_ = if j9_ = 0 then 0 else S_.2.2.1 197 0 j9_ := fun j9_ => by (rw [rd_ne (by decide), rd_eq, rd_ne (by decide)]; rfl)
          rw [cn1_cg (g := fun k9_ : Nat => if k9_ = FF_.toNat then (1 : Int) else 0) (fun k9_ hk9_ => ?_), cn1_one (j := FF_.toNat) (fun k9_ => ?_) 4096, if_pos (by omega)]
          · rfl
          · constructor
            · intro y9_; by_cases y8_ : k9_ = FF_.toNat; exact y8_; (rw [if_neg y8_] at y9_; exact absurd y9_ (by decide))
            · intro y9_; exact if_pos y9_
          · rw [r2_]
            by_cases y9_ : k9_ = FF_.toNat
            · rw [if_pos y9_, if_pos y9_]
            · rw [if_neg y9_, if_neg y9_, h1_ k9_ (by omega)]
        · obtain ⟨FF_, hFF_⟩ : ∃ FF_, FF_ = i_or bA_ (64 * bB_) := ⟨_, rfl⟩
          have g9_ : 0 ≤ FF_ ∧ FF_ ≤ 4095 ∧ FF_ % 64 = bA_ ∧ FF_ / 64 = bB_ := by (rw [hFF_]; omega)
          have r1_ : ∀ j9_, ((sm_aI (sm_aI (sm_aI S_ 194 0 (0 : Int).toNat (i_or bA_ (64 * bB_))) 197 0 (0 : Int).toNat 0) 198 0 ((sm_aI (sm_aI S_ 194 0 (0 : Int).toNat (i_or bA_ (64 * bB_))) 197 0 (0 : Int).toNat 0).2.2.1 194 0 (0 : Int).toNat).toNat 1)).2.2.1 194 0 j9_ = if j9_ = 0 then FF_ else S_.2.2.1 194 0 j9_ := fun j9_ => by (rw [rd_ne (by decide), rd_ne (by decide), rd_eq, hFF_]; rfl)
          have r0_ : (sm_aI (sm_aI S_ 194 0 (0 : Int).toNat (i_or bA_ (64 * bB_))) 197 0 (0 : Int).toNat 0).2.2.1 194 0 (0 : Int).toNat = i_or bA_ (64 * bB_) := by (rw [rd_ne (show 194 ≠ 197 by decide), rd_eq, if_pos rfl])
          have r2_ : ∀ j9_, ((sm_aI (sm_aI (sm_aI S_ 194 0 (0 : Int).toNat (i_or bA_ (64 * bB_))) 197 0 (0 : Int).toNat 0) 198 0 ((sm_aI (sm_aI S_ 194 0 (0 : Int).toNat (i_or bA_ (64 * bB_))) 197 0 (0 : Int).toNat 0).2.2.1 194 0 (0 : Int).toNat).toNat 1)).2.2.1 198 0 j9_ = if j9_ = FF_.toNat then 1 else S_.2.2.1 198 0 j9_ := fun j9_ => by (rw [rd_eq, r0_, rd_ne (show 198 ≠ 197 by decide), rd_ne (show 198 ≠ 194 by decide), hFF_])
          have r3_ : ∀ j9_, ((sm_aI (sm_aI (sm_aI S_ 194 0 (0 : Int).toNat (i_or bA_ (64 * bB_))) 197 0 (0 : Int).toNat 0) 198 0 ((sm_aI (sm_aI S_ 194 0 (0 : Int).toNat (i_or bA_ (64 * bB_))) 197 0 (0 : Int).toNat 0).2.2.1 194 0 (0 : Int).toNat).toNat 1)).2.2.1 197 0 j9_ = if j9_ = 0 then 0 else S_.2.2.1 197 0 j9_ := fun j9_ => by (rw [rd_ne (by decide), rd_eq, rd_ne (by decide)]; rfl)
          refine rcq_0 (f_ := FF_) ⟨pw_tn hbA_.1 hbA_.2, pw_tn hbB_.1 hbB_.2⟩ ⟨by omega, by omega⟩ (by omega) (by rw [r1_, if_pos rfl]) (by rw [r3_, if_pos rfl]) (fun j9_ hj9_ => ?_)
          rw [r2_]
          by_cases z9_ : j9_ = FF_.toNat
          · rw [if_pos z9_, if_pos z9_]
          · rw [if_neg z9_, if_neg z9_]; exact h1_ j9_ (by omega)
        · omega
        · omega
      · have cx1_ : ¬ (4096 ≤ k_) := of_decide_eq_false cx1_
        refine sm_T_go 4 (c1 := (23, [some (.inr (.inr (some (13, 0)))), some (.inl ip_), some (.inl bA_), some (.inl bB_), some (.inl k_), none, none, none, none, none], [.inl 0, .inl k_, .inr (.inr (some (198, 0)))], S_)) rfl ?_
        refine sm_T_zas1 (n := 4096) rfl rfl (by omega) (by omega) (by omega) ?_
        have hIx10_ : gi (sm_aI S_ 198 0 k_.toNat 0) := gi_aI hI_ (show 0 ≤ 0 ∧ 0 ≤ 1 from ⟨by omega, by omega⟩)
        have hFx11_ : ai_fr (sx_W vw_386w) S0_ (sm_aI S_ 198 0 k_.toNat 0) := ai_fr_tr hF_ (ai_fr_aI rfl)
        refine sm_T_inc (a := 4) (z := 1) (v := k_) (w := k_ + 1) rfl rfl (by omega) (by omega) (by omega) ?_ -- pc_ 24
        refine sm_T_go 1 (c1 := (8, [some (.inr (.inr (some (13, 0)))), some (.inl ip_), some (.inl bA_), some (.inl bB_), some (.inl (k_ + 1)), none, none, none, none, none], [], sm_aI S_ 198 0 k_.toNat 0)) rfl ?_
        refine ih_.1 (k_ + 1) (sm_aI S_ 198 0 k_.toNat 0) hIx10_ hFx11_ ⟨?_, ?_, trivial⟩ ?_
        · omega
        · intro j9_ hj9_
          rw [rd_eq]
          by_cases z9_ : j9_ = k_.toNat
          · rw [if_pos z9_]
          · rw [if_neg z9_]; exact h1_ j9_ (by omega)
        · omega
    · rintro mn k_ S_ hI_ hF_ ⟨hq_, hc_, hcq_, h0_, -⟩ hm_
      have w1_ := pw_le (n := sA_) (m := 6) (by omega)
      have w2_ := pw_le (n := sB_) (m := 6) (by omega)
      have w3_ := pw_pos sA_
      have w4_ := pw_pos sB_
      have w5_ := pw_le (n := ip_.toNat) (m := 12) (by omega)
      have w6_ := pw_pos ip_.toNat
      have f191_ : S_.2.2.1 191 0 = S0_.2.2.1 191 0 := fr_arr hF_ rfl
      have f190_ : S_.2.2.1 190 0 = S0_.2.2.1 190 0 := fr_arr hF_ rfl
      have f192_ : S_.2.2.1 192 0 = S0_.2.2.1 192 0 := fr_arr hF_ rfl
      have f193_ : S_.2.2.1 193 0 = S0_.2.2.1 193 0 := fr_arr hF_ rfl
      have cl9_ := cn1_le (S_.2.2.1 198 0) 4096
      have s9_ := i_shl1 (e := ip_) (by omega) (by omega)
      refine sm_T_go 2 (c1 := (71, [some (.inr (.inr (some (13, 0)))), some (.inl ip_), some (.inl bA_), some (.inl bB_), some (.inl mn), some (.inl k_), none, none, none, none], [.inl mn, .inl k_], S_)) rfl ?_
      refine sm_T_br (a := 3) (z := 180) rfl (fun cx1_ => ?_) (fun cx1_ => ?_)
      · have cx1_ : mn ≤ k_ := of_decide_eq_true cx1_
        refine sm_T_go 1 (c1 := (252, [some (.inr (.inr (some (13, 0)))), some (.inl ip_), some (.inl bA_), some (.inl bB_), some (.inl mn), some (.inl k_), none, none, none, none], [.inl 0], S_)) rfl ?_
        refine sm_T_ri rfl ⟨_, _, rfl, _, rfl, hI_, hF_, ?_⟩
        first | exact ⟨w141_.1, by (rw [w141_.2]; exact sp9_)⟩ | exact ⟨by omega, rcq_e hcq_ (by omega)⟩
      · have cx1_ : ¬ (mn ≤ k_) := of_decide_eq_false cx1_
        have q9_ := hq_ k_.toNat (by omega)
        refine sm_T_go 3 (c1 := (80, [some (.inr (.inr (some (13, 0)))), some (.inl ip_), some (.inl bA_), some (.inl bB_), some (.inl mn), some (.inl k_), none, none, none, none], [.inl k_, .inr (.inr (some (194, 0)))], S_)) rfl ?_
        refine sm_T_iald (n := 4096) rfl rfl (by omega) (by omega) ?_
        have bx2_ : 0 ≤ S_.2.2.1 194 0 k_.toNat ∧ S_.2.2.1 194 0 k_.toNat ≤ 4095 := hI_.2 194 0 _
        refine sm_T_go 1 (c1 := (83, [some (.inr (.inr (some (13, 0)))), some (.inl ip_), some (.inl bA_), some (.inl bB_), some (.inl mn), some (.inl k_), none, none, none, none], [.inl 63, .inl (S_.2.2.1 194 0 k_.toNat)], S_)) rfl ?_
        refine sm_T_bin (w := ((S_.2.2.1 194 0 k_.toNat) % 64)) rfl (bi_msk (k := 6) (by decide)) ?_ -- pc_ 83
        refine sm_T_go 4 (c1 := (92, [some (.inr (.inr (some (13, 0)))), some (.inl ip_), some (.inl bA_), some (.inl bB_), some (.inl mn), some (.inl k_), some (.inl ((S_.2.2.1 194 0 k_.toNat) % 64)), none, none, none], [.inl k_, .inr (.inr (some (194, 0)))], S_)) rfl ?_
        refine sm_T_iald (n := 4096) rfl rfl (by omega) (by omega) ?_
        refine sm_T_go 1 (c1 := (95, [some (.inr (.inr (some (13, 0)))), some (.inl ip_), some (.inl bA_), some (.inl bB_), some (.inl mn), some (.inl k_), some (.inl ((S_.2.2.1 194 0 k_.toNat) % 64)), none, none, none], [.inl 6, .inl (S_.2.2.1 194 0 k_.toNat)], S_)) rfl ?_
        refine sm_T_bin (w := ((S_.2.2.1 194 0 k_.toNat) / 64)) rfl (bi_shr (k := 6) (by decide) (by omega) (by omega)) ?_ -- pc_ 95
        refine sm_T_go 3 (c1 := (101, [some (.inr (.inr (some (13, 0)))), some (.inl ip_), some (.inl bA_), some (.inl bB_), some (.inl mn), some (.inl k_), some (.inl ((S_.2.2.1 194 0 k_.toNat) % 64)), some (.inl ((S_.2.2.1 194 0 k_.toNat) / 64)), some (.inl 0), none], [], S_)) rfl ?_
        refine ih_.2.2 mn k_ ((S_.2.2.1 194 0 k_.toNat) % 64) ((S_.2.2.1 194 0 k_.toNat) / 64) 0 S_ hI_ hF_ ⟨?_, ?_, ?_, ?_, ?_, ?_, trivial⟩ ?_
        · exact hq_
        · exact hc_
        · exact hcq_
        · omega
        · omega
        · omega
        · omega
    · rintro mn k_ a_ b_ i_ S_ hI_ hF_ ⟨hq_, hc_, hcq_, hab_, h0_, h2_, -⟩ hm_
      have w1_ := pw_le (n := sA_) (m := 6) (by omega)
      have w2_ := pw_le (n := sB_) (m := 6) (by omega)
      have w3_ := pw_pos sA_
      have w4_ := pw_pos sB_
      have w5_ := pw_le (n := ip_.toNat) (m := 12) (by omega)
      have w6_ := pw_pos ip_.toNat
      have f191_ : S_.2.2.1 191 0 = S0_.2.2.1 191 0 := fr_arr hF_ rfl
      have f190_ : S_.2.2.1 190 0 = S0_.2.2.1 190 0 := fr_arr hF_ rfl
      have f192_ : S_.2.2.1 192 0 = S0_.2.2.1 192 0 := fr_arr hF_ rfl
      have f193_ : S_.2.2.1 193 0 = S0_.2.2.1 193 0 := fr_arr hF_ rfl
      have cl9_ := cn1_le (S_.2.2.1 198 0) 4096
      have s9_ := i_shl1 (e := ip_) (by omega) (by omega)
      refine sm_T_go 3 (c1 := (105, [some (.inr (.inr (some (13, 0)))), some (.inl ip_), some (.inl bA_), some (.inl bB_), some (.inl mn), some (.inl k_), some (.inl a_), some (.inl b_), some (.inl i_), none], [.inl ip_, .inl 1, .inl i_], S_)) rfl ?_
      refine sm_T_bin (w := (i_shl 1 ip_)) rfl rfl ?_ -- pc_ 105
      refine sm_T_br (a := 3) (z := 139) rfl (fun cx1_ => ?_) (fun cx1_ => ?_)
      · have cx1_ : (i_shl 1 ip_) ≤ i_ := of_decide_eq_true cx1_
        refine sm_T_inc (a := 5) (z := 1) (v := k_) (w := k_ + 1) rfl rfl (by omega) (by omega) (by omega) ?_ -- pc_ 245
        refine sm_T_go 1 (c1 := (67, [some (.inr (.inr (some (13, 0)))), some (.inl ip_), some (.inl bA_), some (.inl bB_), some (.inl mn), some (.inl (k_ + 1)), some (.inl a_), some (.inl b_), some (.inl i_), none], [], S_)) rfl ?_
        refine sm_T_wk [some (.inr (.inr (some (13, 0)))), some (.inl ip_), some (.inl bA_), some (.inl bB_), some (.inl mn), some (.inl (k_ + 1)), none, none, none, none] (by exact ⟨rfl, rfl, rfl, rfl, rfl, rfl, trivial⟩) ?_
        refine ih_.2.1 mn (k_ + 1) S_ hI_ hF_ ⟨?_, ?_, ?_, ?_, trivial⟩ ?_
        · exact hq_
        · exact hc_
        · rw [show (k_ + 1).toNat = k_.toNat + 1 by omega]
          exact rcq_n hcq_ (by have z9_ := pw_nn (k_ := ip_.toNat); omega)
        · omega
        · omega
      · have cx1_ : ¬ ((i_shl 1 ip_) ≤ i_) := of_decide_eq_false cx1_
        have p1_ := pat_c (s_ := a_) (i_ := i_) (R_ := sA_) (I_ := ip_.toNat) (by omega) (by omega) (by omega)
        have p2_ := pat_c (s_ := b_) (i_ := i_) (R_ := sB_) (I_ := ip_.toNat) (by omega) (by omega) (by omega)
        rw [show ((ip_.toNat : Nat) : Int) = ip_ by omega] at p1_ p2_
        have n1p := pat_m (s_ := a_) (i_ := i_) (R_ := sA_) (I_ := ip_.toNat) (by omega) (by omega) (by omega)
        have n2p := pat_m (s_ := b_) (i_ := i_) (R_ := sB_) (I_ := ip_.toNat) (by omega) (by omega) (by omega)
        rw [show ((ip_.toNat : Nat) : Int) = ip_ by omega] at n1p n2p
        have iz9_ : i_.toNat < 2 ^ ip_.toNat := (by have z9_ := pw_nn (k_ := ip_.toNat); omega)
        have p3_ := pw_le (n := sA_ + ip_.toNat) (m := 12) (by omega)
        have p4_ := pw_le (n := sB_ + ip_.toNat) (m := 12) (by omega)
        have t1_ := htA_ (i_or i_ (i_shl a_ ip_)).toNat (pn_lt (by omega) (by rw [Nat.add_comm]; omega))
        have t2_ := htB_ (i_or i_ (i_shl b_ ip_)).toNat (pn_lt (by omega) (by rw [Nat.add_comm]; omega))
        rw [← f191_] at t1_
        rw [← f193_] at t2_
        have q9_ := hq_ k_.toNat (by omega)
        refine sm_T_go 5 (c1 := (118, [some (.inr (.inr (some (13, 0)))), some (.inl ip_), some (.inl bA_), some (.inl bB_), some (.inl mn), some (.inl k_), some (.inl a_), some (.inl b_), some (.inl i_), none], [.inl ip_, .inl a_, .inl i_, .inr (.inr (some (190, 0)))], S_)) rfl ?_
        refine sm_T_bin (w := (i_shl a_ ip_)) rfl rfl ?_ -- pc_ 118
        refine sm_T_bin (w := (i_or i_ (i_shl a_ ip_))) rfl rfl ?_ -- pc_ 119
        refine sm_T_iald (n := 4096) rfl rfl (by omega) (by omega) ?_
        have bx2_ : 0 ≤ S_.2.2.1 190 0 (i_or i_ (i_shl a_ ip_)).toNat ∧ S_.2.2.1 190 0 (i_or i_ (i_shl a_ ip_)).toNat ≤ 65535 := hI_.2 190 0 _
        refine sm_T_go 5 (c1 := (130, [some (.inr (.inr (some (13, 0)))), some (.inl ip_), some (.inl bA_), some (.inl bB_), some (.inl mn), some (.inl k_), some (.inl a_), some (.inl b_), some (.inl i_), none], [.inl ip_, .inl b_, .inl i_, .inr (.inr (some (192, 0))), .inl (S_.2.2.1 190 0 (i_or i_ (i_shl a_ ip_)).toNat)], S_)) rfl ?_
        refine sm_T_bin (w := (i_shl b_ ip_)) rfl rfl ?_ -- pc_ 130
        refine sm_T_bin (w := (i_or i_ (i_shl b_ ip_))) rfl rfl ?_ -- pc_ 131
        refine sm_T_iald (n := 4096) rfl rfl (by omega) (by omega) ?_
        have bx3_ : 0 ≤ S_.2.2.1 192 0 (i_or i_ (i_shl b_ ip_)).toNat ∧ S_.2.2.1 192 0 (i_or i_ (i_shl b_ ip_)).toNat ≤ 65535 := hI_.2 192 0 _
        refine sm_T_br (a := 0) (z := 12) rfl (fun cx4_ => ?_) (fun cx4_ => ?_)
        · have cx4_ : (S_.2.2.1 190 0 (i_or i_ (i_shl a_ ip_)).toNat) = (S_.2.2.1 192 0 (i_or i_ (i_shl b_ ip_)).toNat) := of_decide_eq_true cx4_
          have nn9_ : ¬ neD (S0_.2.2.1 190 0) (S0_.2.2.1 192 0) (a_.toNat * 2 ^ ip_.toNat + i_.toNat) (b_.toNat * 2 ^ ip_.toNat + i_.toNat) := fun z9_ => z9_ (by (rw [← n1p, ← n2p, ← f190_, ← f192_]; exact cx4_))
          refine sm_T_go 5 (c1 := (154, [some (.inr (.inr (some (13, 0)))), some (.inl ip_), some (.inl bA_), some (.inl bB_), some (.inl mn), some (.inl k_), some (.inl a_), some (.inl b_), some (.inl i_), none], [.inl ip_, .inl a_, .inl i_, .inr (.inr (some (191, 0)))], S_)) rfl ?_
          refine sm_T_bin (w := (i_shl a_ ip_)) rfl rfl ?_ -- pc_ 154
          refine sm_T_bin (w := (i_or i_ (i_shl a_ ip_))) rfl rfl ?_ -- pc_ 155
          refine sm_T_iald (n := 4096) rfl rfl (by omega) (by omega) ?_
          have bx5_ : 0 ≤ S_.2.2.1 191 0 (i_or i_ (i_shl a_ ip_)).toNat ∧ S_.2.2.1 191 0 (i_or i_ (i_shl a_ ip_)).toNat ≤ 63 := hI_.2 191 0 _
          refine sm_T_go 5 (c1 := (166, [some (.inr (.inr (some (13, 0)))), some (.inl ip_), some (.inl bA_), some (.inl bB_), some (.inl mn), some (.inl k_), some (.inl a_), some (.inl b_), some (.inl i_), none], [.inl ip_, .inl b_, .inl i_, .inr (.inr (some (193, 0))), .inl (S_.2.2.1 191 0 (i_or i_ (i_shl a_ ip_)).toNat)], S_)) rfl ?_
          refine sm_T_bin (w := (i_shl b_ ip_)) rfl rfl ?_ -- pc_ 166
          refine sm_T_bin (w := (i_or i_ (i_shl b_ ip_))) rfl rfl ?_ -- pc_ 167
          refine sm_T_iald (n := 4096) rfl rfl (by omega) (by omega) ?_
          have bx6_ : 0 ≤ S_.2.2.1 193 0 (i_or i_ (i_shl b_ ip_)).toNat ∧ S_.2.2.1 193 0 (i_or i_ (i_shl b_ ip_)).toNat ≤ 63 := hI_.2 193 0 _
          refine sm_T_go 1 (c1 := (171, [some (.inr (.inr (some (13, 0)))), some (.inl ip_), some (.inl bA_), some (.inl bB_), some (.inl mn), some (.inl k_), some (.inl a_), some (.inl b_), some (.inl i_), none], [.inl 6, .inl (S_.2.2.1 193 0 (i_or i_ (i_shl b_ ip_)).toNat), .inl (S_.2.2.1 191 0 (i_or i_ (i_shl a_ ip_)).toNat)], S_)) rfl ?_
          refine sm_T_bin (w := 64 * (S_.2.2.1 193 0 (i_or i_ (i_shl b_ ip_)).toNat)) rfl (bi_shl (k := 6) (by decide) (by omega) (by omega) (by omega)) ?_ -- pc_ 171
          refine sm_T_bin (w := (i_or (S_.2.2.1 191 0 (i_or i_ (i_shl a_ ip_)).toNat) (64 * (S_.2.2.1 193 0 (i_or i_ (i_shl b_ ip_)).toNat)))) rfl rfl ?_ -- pc_ 172
          have bx7_ := or64c (a_ := S_.2.2.1 193 0 (i_or i_ (i_shl b_ ip_)).toNat) (b_ := S_.2.2.1 191 0 (i_or i_ (i_shl a_ ip_)).toNat) (by omega) (by omega)
          refine sm_T_go 4 (c1 := (181, [some (.inr (.inr (some (13, 0)))), some (.inl ip_), some (.inl bA_), some (.inl bB_), some (.inl mn), some (.inl k_), some (.inl a_), some (.inl b_), some (.inl i_), some (.inl (i_or (S_.2.2.1 191 0 (i_or i_ (i_shl a_ ip_)).toNat) (64 * (S_.2.2.1 193 0 (i_or i_ (i_shl b_ ip_)).toNat))))], [.inl (i_or (S_.2.2.1 191 0 (i_or i_ (i_shl a_ ip_)).toNat) (64 * (S_.2.2.1 193 0 (i_or i_ (i_shl b_ ip_)).toNat))), .inr (.inr (some (198, 0)))], S_)) rfl ?_
          refine sm_T_zald (n := 4096) rfl rfl (by omega) (by omega) ?_
          have bx8_ : 0 ≤ S_.2.2.1 198 0 (i_or (S_.2.2.1 191 0 (i_or i_ (i_shl a_ ip_)).toNat) (64 * (S_.2.2.1 193 0 (i_or i_ (i_shl b_ ip_)).toNat))).toNat ∧ S_.2.2.1 198 0 (i_or (S_.2.2.1 191 0 (i_or i_ (i_shl a_ ip_)).toNat) (64 * (S_.2.2.1 193 0 (i_or i_ (i_shl b_ ip_)).toNat))).toNat ≤ 1 := hI_.2 198 0 _
          refine sm_T_b0 (a := 1) (z := 57) rfl (fun cx9_ => ?_) (fun cx9_ => ?_)
          · have cx9_ : (S_.2.2.1 198 0 (i_or (S_.2.2.1 191 0 (i_or i_ (i_shl a_ ip_)).toNat) (64 * (S_.2.2.1 193 0 (i_or i_ (i_shl b_ ip_)).toNat))).toNat) ≠ 0 := of_decide_eq_true cx9_
            refine sm_T_inc (a := 8) (z := 1) (v := i_) (w := i_ + 1) rfl rfl (by omega) (by omega) (by omega) ?_ -- pc_ 239
            refine sm_T_go 1 (c1 := (101, [some (.inr (.inr (some (13, 0)))), some (.inl ip_), some (.inl bA_), some (.inl bB_), some (.inl mn), some (.inl k_), some (.inl a_), some (.inl b_), some (.inl (i_ + 1)), some (.inl (i_or (S_.2.2.1 191 0 (i_or i_ (i_shl a_ ip_)).toNat) (64 * (S_.2.2.1 193 0 (i_or i_ (i_shl b_ ip_)).toNat))))], [], S_)) rfl ?_
            refine sm_T_wk [some (.inr (.inr (some (13, 0)))), some (.inl ip_), some (.inl bA_), some (.inl bB_), some (.inl mn), some (.inl k_), some (.inl a_), some (.inl b_), some (.inl (i_ + 1)), none] (by exact ⟨rfl, rfl, rfl, rfl, rfl, rfl, rfl, rfl, rfl, trivial⟩) ?_
            refine ih_.2.2 mn k_ a_ b_ (i_ + 1) S_ hI_ hF_ ⟨?_, ?_, ?_, ?_, ?_, ?_, trivial⟩ ?_
            · exact hq_
            · exact hc_
            · have ax9_ : S_.2.2.1 191 0 (i_or i_ (i_shl a_ ip_)).toNat = S0_.2.2.1 191 0 (a_.toNat * 2 ^ ip_.toNat + i_.toNat) := by (rw [← n1p, ← f191_])
              have ay9_ : S_.2.2.1 193 0 (i_or i_ (i_shl b_ ip_)).toNat = S0_.2.2.1 193 0 (b_.toNat * 2 ^ ip_.toNat + i_.toNat) := by (rw [← n2p, ← f193_])
              rw [show (i_ + 1).toNat = i_.toNat + 1 by omega]
              refine rcq_o hcq_ (by omega) (by omega) (by omega) hab_ iz9_ nn9_ ax9_ ay9_ (by omega) (by omega) ?_
              have o9_ := or64c (a_ := S_.2.2.1 193 0 (i_or i_ (i_shl b_ ip_)).toNat) (b_ := S_.2.2.1 191 0 (i_or i_ (i_shl a_ ip_)).toNat) (by omega) (by omega)
              rw [← o9_]
              omega
            · exact hab_
            · omega
            · omega
            · omega
          · have cx9_ : ¬ ((S_.2.2.1 198 0 (i_or (S_.2.2.1 191 0 (i_or i_ (i_shl a_ ip_)).toNat) (64 * (S_.2.2.1 193 0 (i_or i_ (i_shl b_ ip_)).toNat))).toNat) ≠ 0) := of_decide_eq_false cx9_
            have lt9_ := cn1_lt (f := S_.2.2.1 198 0) (j := (i_or (S_.2.2.1 191 0 (i_or i_ (i_shl a_ ip_)).toNat) (64 * (S_.2.2.1 193 0 (i_or i_ (i_shl b_ ip_)).toNat))).toNat) (by omega) (n := 4096) (by omega)
            refine sm_T_go 4 (c1 := (192, [some (.inr (.inr (some (13, 0)))), some (.inl ip_), some (.inl bA_), some (.inl bB_), some (.inl mn), some (.inl k_), some (.inl a_), some (.inl b_), some (.inl i_), some (.inl (i_or (S_.2.2.1 191 0 (i_or i_ (i_shl a_ ip_)).toNat) (64 * (S_.2.2.1 193 0 (i_or i_ (i_shl b_ ip_)).toNat))))], [.inl 1, .inl (i_or (S_.2.2.1 191 0 (i_or i_ (i_shl a_ ip_)).toNat) (64 * (S_.2.2.1 193 0 (i_or i_ (i_shl b_ ip_)).toNat))), .inr (.inr (some (198, 0)))], S_)) rfl ?_
            refine sm_T_zas1 (n := 4096) rfl rfl (by omega) (by omega) (by omega) ?_
            have hIx10_ : gi (sm_aI S_ 198 0 (i_or (S_.2.2.1 191 0 (i_or i_ (i_shl a_ ip_)).toNat) (64 * (S_.2.2.1 193 0 (i_or i_ (i_shl b_ ip_)).toNat))).toNat 1) := gi_aI hI_ (show 0 ≤ 1 ∧ 1 ≤ 1 from ⟨by omega, by omega⟩)
            have hFx11_ : ai_fr (sx_W vw_386w) S0_ (sm_aI S_ 198 0 (i_or (S_.2.2.1 191 0 (i_or i_ (i_shl a_ ip_)).toNat) (64 * (S_.2.2.1 193 0 (i_or i_ (i_shl b_ ip_)).toNat))).toNat 1) := ai_fr_tr hF_ (ai_fr_aI rfl)
            refine sm_T_go 4 (c1 := (201, [some (.inr (.inr (some (13, 0)))), some (.inl ip_), some (.inl bA_), some (.inl bB_), some (.inl mn), some (.inl k_), some (.inl a_), some (.inl b_), some (.inl i_), some (.inl (i_or (S_.2.2.1 191 0 (i_or i_ (i_shl a_ ip_)).toNat) (64 * (S_.2.2.1 193 0 (i_or i_ (i_shl b_ ip_)).toNat))))], [.inl (i_or (S_.2.2.1 191 0 (i_or i_ (i_shl a_ ip_)).toNat) (64 * (S_.2.2.1 193 0 (i_or i_ (i_shl b_ ip_)).toNat))), .inl mn, .inr (.inr (some (194, 0)))], sm_aI S_ 198 0 (i_or (S_.2.2.1 191 0 (i_or i_ (i_shl a_ ip_)).toNat) (64 * (S_.2.2.1 193 0 (i_or i_ (i_shl b_ ip_)).toNat))).toNat 1)) rfl ?_
            refine sm_T_iast (n := 4096) rfl rfl (by omega) (by omega) ?_
            have hIx12_ : gi (sm_aI (sm_aI S_ 198 0 (i_or (S_.2.2.1 191 0 (i_or i_ (i_shl a_ ip_)).toNat) (64 * (S_.2.2.1 193 0 (i_or i_ (i_shl b_ ip_)).toNat))).toNat 1) 194 0 mn.toNat (i_or (S_.2.2.1 191 0 (i_or i_ (i_shl a_ ip_)).toNat) (64 * (S_.2.2.1 193 0 (i_or i_ (i_shl b_ ip_)).toNat)))) := gi_aI hIx10_ (show 0 ≤ (i_or (S_.2.2.1 191 0 (i_or i_ (i_shl a_ ip_)).toNat) (64 * (S_.2.2.1 193 0 (i_or i_ (i_shl b_ ip_)).toNat))) ∧ (i_or (S_.2.2.1 191 0 (i_or i_ (i_shl a_ ip_)).toNat) (64 * (S_.2.2.1 193 0 (i_or i_ (i_shl b_ ip_)).toNat))) ≤ 4095 from ⟨by omega, by omega⟩)
            have hFx13_ : ai_fr (sx_W vw_386w) S0_ (sm_aI (sm_aI S_ 198 0 (i_or (S_.2.2.1 191 0 (i_or i_ (i_shl a_ ip_)).toNat) (64 * (S_.2.2.1 193 0 (i_or i_ (i_shl b_ ip_)).toNat))).toNat 1) 194 0 mn.toNat (i_or (S_.2.2.1 191 0 (i_or i_ (i_shl a_ ip_)).toNat) (64 * (S_.2.2.1 193 0 (i_or i_ (i_shl b_ ip_)).toNat)))) := ai_fr_tr hFx11_ (ai_fr_aI rfl)
            refine sm_T_go 4 (c1 := (210, [some (.inr (.inr (some (13, 0)))), some (.inl ip_), some (.inl bA_), some (.inl bB_), some (.inl mn), some (.inl k_), some (.inl a_), some (.inl b_), some (.inl i_), some (.inl (i_or (S_.2.2.1 191 0 (i_or i_ (i_shl a_ ip_)).toNat) (64 * (S_.2.2.1 193 0 (i_or i_ (i_shl b_ ip_)).toNat))))], [.inl k_, .inl mn, .inr (.inr (some (195, 0)))], sm_aI (sm_aI S_ 198 0 (i_or (S_.2.2.1 191 0 (i_or i_ (i_shl a_ ip_)).toNat) (64 * (S_.2.2.1 193 0 (i_or i_ (i_shl b_ ip_)).toNat))).toNat 1) 194 0 mn.toNat (i_or (S_.2.2.1 191 0 (i_or i_ (i_shl a_ ip_)).toNat) (64 * (S_.2.2.1 193 0 (i_or i_ (i_shl b_ ip_)).toNat))))) rfl ?_
            refine sm_T_iast (n := 4096) rfl rfl (by omega) (by omega) ?_
            have hIx14_ : gi (sm_aI (sm_aI (sm_aI S_ 198 0 (i_or (S_.2.2.1 191 0 (i_or i_ (i_shl a_ ip_)).toNat) (64 * (S_.2.2.1 193 0 (i_or i_ (i_shl b_ ip_)).toNat))).toNat 1) 194 0 mn.toNat (i_or (S_.2.2.1 191 0 (i_or i_ (i_shl a_ ip_)).toNat) (64 * (S_.2.2.1 193 0 (i_or i_ (i_shl b_ ip_)).toNat)))) 195 0 mn.toNat k_) := gi_aI hIx12_ (show 0 ≤ k_ ∧ k_ ≤ 4095 from ⟨by omega, by omega⟩)
            have hFx15_ : ai_fr (sx_W vw_386w) S0_ (sm_aI (sm_aI (sm_aI S_ 198 0 (i_or (S_.2.2.1 191 0 (i_or i_ (i_shl a_ ip_)).toNat) (64 * (S_.2.2.1 193 0 (i_or i_ (i_shl b_ ip_)).toNat))).toNat 1) 194 0 mn.toNat (i_or (S_.2.2.1 191 0 (i_or i_ (i_shl a_ ip_)).toNat) (64 * (S_.2.2.1 193 0 (i_or i_ (i_shl b_ ip_)).toNat)))) 195 0 mn.toNat k_) := ai_fr_tr hFx13_ (ai_fr_aI rfl)
            refine sm_T_go 4 (c1 := (219, [some (.inr (.inr (some (13, 0)))), some (.inl ip_), some (.inl bA_), some (.inl bB_), some (.inl mn), some (.inl k_), some (.inl a_), some (.inl b_), some (.inl i_), some (.inl (i_or (S_.2.2.1 191 0 (i_or i_ (i_shl a_ ip_)).toNat) (64 * (S_.2.2.1 193 0 (i_or i_ (i_shl b_ ip_)).toNat))))], [.inl i_, .inl mn, .inr (.inr (some (196, 0)))], sm_aI (sm_aI (sm_aI S_ 198 0 (i_or (S_.2.2.1 191 0 (i_or i_ (i_shl a_ ip_)).toNat) (64 * (S_.2.2.1 193 0 (i_or i_ (i_shl b_ ip_)).toNat))).toNat 1) 194 0 mn.toNat (i_or (S_.2.2.1 191 0 (i_or i_ (i_shl a_ ip_)).toNat) (64 * (S_.2.2.1 193 0 (i_or i_ (i_shl b_ ip_)).toNat)))) 195 0 mn.toNat k_)) rfl ?_
            refine sm_T_iast (n := 4096) rfl rfl (by omega) (by omega) ?_
            have hIx16_ : gi (sm_aI (sm_aI (sm_aI (sm_aI S_ 198 0 (i_or (S_.2.2.1 191 0 (i_or i_ (i_shl a_ ip_)).toNat) (64 * (S_.2.2.1 193 0 (i_or i_ (i_shl b_ ip_)).toNat))).toNat 1) 194 0 mn.toNat (i_or (S_.2.2.1 191 0 (i_or i_ (i_shl a_ ip_)).toNat) (64 * (S_.2.2.1 193 0 (i_or i_ (i_shl b_ ip_)).toNat)))) 195 0 mn.toNat k_) 196 0 mn.toNat i_) := gi_aI hIx14_ (show 0 ≤ i_ ∧ i_ ≤ 4095 from ⟨by omega, by omega⟩)
            have hFx17_ : ai_fr (sx_W vw_386w) S0_ (sm_aI (sm_aI (sm_aI (sm_aI S_ 198 0 (i_or (S_.2.2.1 191 0 (i_or i_ (i_shl a_ ip_)).toNat) (64 * (S_.2.2.1 193 0 (i_or i_ (i_shl b_ ip_)).toNat))).toNat 1) 194 0 mn.toNat (i_or (S_.2.2.1 191 0 (i_or i_ (i_shl a_ ip_)).toNat) (64 * (S_.2.2.1 193 0 (i_or i_ (i_shl b_ ip_)).toNat)))) 195 0 mn.toNat k_) 196 0 mn.toNat i_) := ai_fr_tr hFx15_ (ai_fr_aI rfl)
            refine sm_T_go 6 (c1 := (232, [some (.inr (.inr (some (13, 0)))), some (.inl ip_), some (.inl bA_), some (.inl bB_), some (.inl mn), some (.inl k_), some (.inl a_), some (.inl b_), some (.inl i_), some (.inl (i_or (S_.2.2.1 191 0 (i_or i_ (i_shl a_ ip_)).toNat) (64 * (S_.2.2.1 193 0 (i_or i_ (i_shl b_ ip_)).toNat))))], [.inl k_, .inr (.inr (some (197, 0))), .inl mn, .inr (.inr (some (197, 0)))], sm_aI (sm_aI (sm_aI (sm_aI S_ 198 0 (i_or (S_.2.2.1 191 0 (i_or i_ (i_shl a_ ip_)).toNat) (64 * (S_.2.2.1 193 0 (i_or i_ (i_shl b_ ip_)).toNat))).toNat 1) 194 0 mn.toNat (i_or (S_.2.2.1 191 0 (i_or i_ (i_shl a_ ip_)).toNat) (64 * (S_.2.2.1 193 0 (i_or i_ (i_shl b_ ip_)).toNat)))) 195 0 mn.toNat k_) 196 0 mn.toNat i_)) rfl ?_
            refine sm_T_iald (n := 4096) rfl rfl (by omega) (by omega) ?_
            have bx18_ : 0 ≤ S_.2.2.1 197 0 k_.toNat ∧ S_.2.2.1 197 0 k_.toNat ≤ 4095 := hI_.2 197 0 _
            refine sm_T_go 1 (c1 := (234, [some (.inr (.inr (some (13, 0)))), some (.inl ip_), some (.inl bA_), some (.inl bB_), some (.inl mn), some (.inl k_), some (.inl a_), some (.inl b_), some (.inl i_), some (.inl (i_or (S_.2.2.1 191 0 (i_or i_ (i_shl a_ ip_)).toNat) (64 * (S_.2.2.1 193 0 (i_or i_ (i_shl b_ ip_)).toNat))))], [.inl 1, .inl (S_.2.2.1 197 0 k_.toNat), .inl mn, .inr (.inr (some (197, 0)))], sm_aI (sm_aI (sm_aI (sm_aI S_ 198 0 (i_or (S_.2.2.1 191 0 (i_or i_ (i_shl a_ ip_)).toNat) (64 * (S_.2.2.1 193 0 (i_or i_ (i_shl b_ ip_)).toNat))).toNat 1) 194 0 mn.toNat (i_or (S_.2.2.1 191 0 (i_or i_ (i_shl a_ ip_)).toNat) (64 * (S_.2.2.1 193 0 (i_or i_ (i_shl b_ ip_)).toNat)))) 195 0 mn.toNat k_) 196 0 mn.toNat i_)) rfl ?_
            refine sm_T_bin (w := (S_.2.2.1 197 0 k_.toNat) + 1) rfl (bi_add (by omega) (by omega) (by omega)) ?_ -- pc_ 234
            refine sm_T_iast (n := 4096) rfl rfl (by omega) (by omega) ?_
            have hIx19_ : gi (sm_aI (sm_aI (sm_aI (sm_aI (sm_aI S_ 198 0 (i_or (S_.2.2.1 191 0 (i_or i_ (i_shl a_ ip_)).toNat) (64 * (S_.2.2.1 193 0 (i_or i_ (i_shl b_ ip_)).toNat))).toNat 1) 194 0 mn.toNat (i_or (S_.2.2.1 191 0 (i_or i_ (i_shl a_ ip_)).toNat) (64 * (S_.2.2.1 193 0 (i_or i_ (i_shl b_ ip_)).toNat)))) 195 0 mn.toNat k_) 196 0 mn.toNat i_) 197 0 mn.toNat ((S_.2.2.1 197 0 k_.toNat) + 1)) := gi_aI hIx16_ (show 0 ≤ (S_.2.2.1 197 0 k_.toNat) + 1 ∧ (S_.2.2.1 197 0 k_.toNat) + 1 ≤ 4095 from ⟨by omega, by omega⟩)
            have hFx20_ : ai_fr (sx_W vw_386w) S0_ (sm_aI (sm_aI (sm_aI (sm_aI (sm_aI S_ 198 0 (i_or (S_.2.2.1 191 0 (i_or i_ (i_shl a_ ip_)).toNat) (64 * (S_.2.2.1 193 0 (i_or i_ (i_shl b_ ip_)).toNat))).toNat 1) 194 0 mn.toNat (i_or (S_.2.2.1 191 0 (i_or i_ (i_shl a_ ip_)).toNat) (64 * (S_.2.2.1 193 0 (i_or i_ (i_shl b_ ip_)).toNat)))) 195 0 mn.toNat k_) 196 0 mn.toNat i_) 197 0 mn.toNat ((S_.2.2.1 197 0 k_.toNat) + 1)) := ai_fr_tr hFx17_ (ai_fr_aI rfl)
            refine sm_T_inc (a := 4) (z := 1) (v := mn) (w := mn + 1) rfl rfl (by omega) (by omega) (by omega) ?_ -- pc_ 236
            refine sm_T_inc (a := 8) (z := 1) (v := i_) (w := i_ + 1) rfl rfl (by omega) (by omega) (by omega) ?_ -- pc_ 239
            refine sm_T_go 1 (c1 := (101, [some (.inr (.inr (some (13, 0)))), some (.inl ip_), some (.inl bA_), some (.inl bB_), some (.inl (mn + 1)), some (.inl k_), some (.inl a_), some (.inl b_), some (.inl (i_ + 1)), some (.inl (i_or (S_.2.2.1 191 0 (i_or i_ (i_shl a_ ip_)).toNat) (64 * (S_.2.2.1 193 0 (i_or i_ (i_shl b_ ip_)).toNat))))], [], sm_aI (sm_aI (sm_aI (sm_aI (sm_aI S_ 198 0 (i_or (S_.2.2.1 191 0 (i_or i_ (i_shl a_ ip_)).toNat) (64 * (S_.2.2.1 193 0 (i_or i_ (i_shl b_ ip_)).toNat))).toNat 1) 194 0 mn.toNat (i_or (S_.2.2.1 191 0 (i_or i_ (i_shl a_ ip_)).toNat) (64 * (S_.2.2.1 193 0 (i_or i_ (i_shl b_ ip_)).toNat)))) 195 0 mn.toNat k_) 196 0 mn.toNat i_) 197 0 mn.toNat ((S_.2.2.1 197 0 k_.toNat) + 1))) rfl ?_
            refine sm_T_wk [some (.inr (.inr (some (13, 0)))), some (.inl ip_), some (.inl bA_), some (.inl bB_), some (.inl (mn + 1)), some (.inl k_), some (.inl a_), some (.inl b_), some (.inl (i_ + 1)), none] (by exact ⟨rfl, rfl, rfl, rfl, rfl, rfl, rfl, rfl, rfl, trivial⟩) ?_
            refine ih_.2.2 (mn + 1) k_ a_ b_ (i_ + 1) (sm_aI (sm_aI (sm_aI (sm_aI (sm_aI S_ 198 0 (i_or (S_.2.2.1 191 0 (i_or i_ (i_shl a_ ip_)).toNat) (64 * (S_.2.2.1 193 0 (i_or i_ (i_shl b_ ip_)).toNat))).toNat 1) 194 0 mn.toNat (i_or (S_.2.2.1 191 0 (i_or i_ (i_shl a_ ip_)).toNat) (64 * (S_.2.2.1 193 0 (i_or i_ (i_shl b_ ip_)).toNat)))) 195 0 mn.toNat k_) 196 0 mn.toNat i_) 197 0 mn.toNat ((S_.2.2.1 197 0 k_.toNat) + 1)) hIx19_ hFx20_ ⟨?_, ?_, ?_, ?_, ?_, ?_, trivial⟩ ?_
            · obtain ⟨NN_, hNN_⟩ : ∃ NN_, NN_ = i_or (S_.2.2.1 191 0 (i_or i_ (i_shl a_ ip_)).toNat) (64 * (S_.2.2.1 193 0 (i_or i_ (i_shl b_ ip_)).toNat)) := ⟨_, rfl⟩
              have g9_ : 0 ≤ NN_ ∧ NN_ ≤ 4095 ∧ NN_ % 64 < 2 ^ sA_ ∧ NN_ / 64 < 2 ^ sB_ := by (rw [hNN_]; omega)
              have x9_ : S_.2.2.1 198 0 NN_.toNat ≠ 1 := by (rw [hNN_]; omega)
              have r1_ : ∀ j9_, ((sm_aI (sm_aI (sm_aI (sm_aI (sm_aI S_ 198 0 (i_or (S_.2.2.1 191 0 (i_or i_ (i_shl a_ ip_)).toNat) (64 * (S_.2.2.1 193 0 (i_or i_ (i_shl b_ ip_)).toNat))).toNat 1) 194 0 mn.toNat (i_or (S_.2.2.1 191 0 (i_or i_ (i_shl a_ ip_)).toNat) (64 * (S_.2.2.1 193 0 (i_or i_ (i_shl b_ ip_)).toNat)))) 195 0 mn.toNat k_) 196 0 mn.toNat i_) 197 0 mn.toNat ((S_.2.2.1 197 0 k_.toNat) + 1))).2.2.1 194 0 j9_ = if j9_ = mn.toNat then NN_ else S_.2.2.1 194 0 j9_ := fun j9_ => by (rw [rd_ne (by decide), rd_ne (by decide), rd_ne (by decide), rd_eq, rd_ne (by decide), hNN_])
              have r2_ : ∀ j9_, ((sm_aI (sm_aI (sm_aI (sm_aI (sm_aI S_ 198 0 (i_or (S_.2.2.1 191 0 (i_or i_ (i_shl a_ ip_)).toNat) (64 * (S_.2.2.1 193 0 (i_or i_ (i_shl b_ ip_)).toNat))).toNat 1) 194 0 mn.toNat (i_or (S_.2.2.1 191 0 (i_or i_ (i_shl a_ ip_)).toNat) (64 * (S_.2.2.1 193 0 (i_or i_ (i_shl b_ ip_)).toNat)))) 195 0 mn.toNat k_) 196 0 mn.toNat i_) 197 0 mn.toNat ((S_.2.2.1 197 0 k_.toNat) + 1))).2.2.1 198 0 j9_ = if j9_ = NN_.toNat then 1 else S_.2.2.1 198 0 j9_ := fun j9_ => by (rw [rd_ne (by decide), rd_ne (by decide), rd_ne (by decide), rd_ne (by decide), rd_eq, hNN_])
              have r3_ : ∀ j9_, ((sm_aI (sm_aI (sm_aI (sm_aI (sm_aI S_ 198 0 (i_or (S_.2.2.1 191 0 (i_or i_ (i_shl a_ ip_)).toNat) (64 * (S_.2.2.1 193 0 (i_or i_ (i_shl b_ ip_)).toNat))).toNat 1) 194 0 mn.toNat (i_or (S_.2.2.1 191 0 (i_or i_ (i_shl a_ ip_)).toNat) (64 * (S_.2.2.1 193 0 (i_or i_ (i_shl b_ ip_)).toNat)))) 195 0 mn.toNat k_) 196 0 mn.toNat i_) 197 0 mn.toNat ((S_.2.2.1 197 0 k_.toNat) + 1))).2.2.1 197 0 j9_ = if j9_ = mn.toNat then S_.2.2.1 197 0 k_.toNat + 1 else S_.2.2.1 197 0 j9_ := fun j9_ => by (rw [rd_eq, rd_ne (by decide), rd_ne (by decide), rd_ne (by decide), rd_ne (by decide)])
              intro j9_ hj9_
              by_cases z9_ : j9_ = mn.toNat
              · rw [r1_, r3_, if_pos z9_, if_pos z9_]; exact ⟨by omega, by omega, by omega⟩
              · rw [r1_, r3_, if_neg z9_, if_neg z9_]; exact hq_ j9_ (by omega)
            · obtain ⟨NN_, hNN_⟩ : ∃ NN_, NN_ = i_or (S_.2.2.1 191 0 (i_or i_ (i_shl a_ ip_)).toNat) (64 * (S_.2.2.1 193 0 (i_or i_ (i_shl b_ ip_)).toNat)) := ⟨_, rfl⟩
              have g9_ : 0 ≤ NN_ ∧ NN_ ≤ 4095 ∧ NN_ % 64 < 2 ^ sA_ ∧ NN_ / 64 < 2 ^ sB_ := by (rw [hNN_]; omega)
              have x9_ : S_.2.2.1 198 0 NN_.toNat ≠ 1 := by (rw [hNN_]; omega)
              have r1_ : ∀ j9_, ((sm_aI (sm_aI (sm_aI (sm_aI (sm_aI S_ 198 0 (i_or (S_.2.2.1 191 0 (i_or i_ (i_shl a_ ip_)).toNat) (64 * (S_.2.2.1 193 0 (i_or i_ (i_shl b_ ip_)).toNat))).toNat 1) 194 0 mn.toNat (i_or (S_.2.2.1 191 0 (i_or i_ (i_shl a_ ip_)).toNat) (64 * (S_.2.2.1 193 0 (i_or i_ (i_shl b_ ip_)).toNat)))) 195 0 mn.toNat k_) 196 0 mn.toNat i_) 197 0 mn.toNat ((S_.2.2.1 197 0 k_.toNat) + 1))).2.2.1 194 0 j9_ = if j9_ = mn.toNat then NN_ else S_.2.2.1 194 0 j9_ := fun j9_ => by (rw [rd_ne (by decide), rd_ne (by decide), rd_ne (by decide), rd_eq, rd_ne (by decide), hNN_])
              have r2_ : ∀ j9_, ((sm_aI (sm_aI (sm_aI (sm_aI (sm_aI S_ 198 0 (i_or (S_.2.2.1 191 0 (i_or i_ (i_shl a_ ip_)).toNat) (64 * (S_.2.2.1 193 0 (i_or i_ (i_shl b_ ip_)).toNat))).toNat 1) 194 0 mn.toNat (i_or (S_.2.2.1 191 0 (i_or i_ (i_shl a_ ip_)).toNat) (64 * (S_.2.2.1 193 0 (i_or i_ (i_shl b_ ip_)).toNat)))) 195 0 mn.toNat k_) 196 0 mn.toNat i_) 197 0 mn.toNat ((S_.2.2.1 197 0 k_.toNat) + 1))).2.2.1 198 0 j9_ = if j9_ = NN_.toNat then 1 else S_.2.2.1 198 0 j9_ := fun j9_ => by (rw [rd_ne (by decide), rd_ne (by decide), rd_ne (by decide), rd_ne (by decide), rd_eq, hNN_])
              have r3_ : ∀ j9_, ((sm_aI (sm_aI (sm_aI (sm_aI (sm_aI S_ 198 0 (i_or (S_.2.2.1 191 0 (i_or i_ (i_shl a_ ip_)).toNat) (64 * (S_.2.2.1 193 0 (i_or i_ (i_shl b_ ip_)).toNat))).toNat 1) 194 0 mn.toNat (i_or (S_.2.2.1 191 0 (i_or i_ (i_shl a_ ip_)).toNat) (64 * (S_.2.2.1 193 0 (i_or i_ (i_shl b_ ip_)).toNat)))) 195 0 mn.toNat k_) 196 0 mn.toNat i_) 197 0 mn.toNat ((S_.2.2.1 197 0 k_.toNat) + 1))).2.2.1 197 0 j9_ = if j9_ = mn.toNat then S_.2.2.1 197 0 k_.toNat + 1 else S_.2.2.1 197 0 j9_ := fun j9_ => by (rw [rd_eq, rd_ne (by decide), rd_ne (by decide), rd_ne (by decide), rd_ne (by decide)])
              have u9_ := cn1_up (f := S_.2.2.1 198 0) (g := ((sm_aI (sm_aI (sm_aI (sm_aI (sm_aI S_ 198 0 (i_or (S_.2.2.1 191 0 (i_or i_ (i_shl a_ ip_)).toNat) (64 * (S_.2.2.1 193 0 (i_or i_ (i_shl b_ ip_)).toNat))).toNat 1) 194 0 mn.toNat (i_or (S_.2.2.1 191 0 (i_or i_ (i_shl a_ ip_)).toNat) (64 * (S_.2.2.1 193 0 (i_or i_ (i_shl b_ ip_)).toNat)))) 195 0 mn.toNat k_) 196 0 mn.toNat i_) 197 0 mn.toNat ((S_.2.2.1 197 0 k_.toNat) + 1))).2.2.1 198 0) (j := NN_.toNat) x9_ (by rw [r2_, if_pos rfl]) (fun k9_ hk9_ => by rw [r2_, if_neg hk9_]) (n := 4096) (by omega)
              rw [u9_]
              push_cast
              omega
            · obtain ⟨NN_, hNN_⟩ : ∃ NN_, NN_ = i_or (S_.2.2.1 191 0 (i_or i_ (i_shl a_ ip_)).toNat) (64 * (S_.2.2.1 193 0 (i_or i_ (i_shl b_ ip_)).toNat)) := ⟨_, rfl⟩
              have g9_ : 0 ≤ NN_ ∧ NN_ ≤ 4095 ∧ NN_ % 64 < 2 ^ sA_ ∧ NN_ / 64 < 2 ^ sB_ := by (rw [hNN_]; omega)
              have x9_ : S_.2.2.1 198 0 NN_.toNat ≠ 1 := by (rw [hNN_]; omega)
              have r1_ : ∀ j9_, ((sm_aI (sm_aI (sm_aI (sm_aI (sm_aI S_ 198 0 (i_or (S_.2.2.1 191 0 (i_or i_ (i_shl a_ ip_)).toNat) (64 * (S_.2.2.1 193 0 (i_or i_ (i_shl b_ ip_)).toNat))).toNat 1) 194 0 mn.toNat (i_or (S_.2.2.1 191 0 (i_or i_ (i_shl a_ ip_)).toNat) (64 * (S_.2.2.1 193 0 (i_or i_ (i_shl b_ ip_)).toNat)))) 195 0 mn.toNat k_) 196 0 mn.toNat i_) 197 0 mn.toNat ((S_.2.2.1 197 0 k_.toNat) + 1))).2.2.1 194 0 j9_ = if j9_ = mn.toNat then NN_ else S_.2.2.1 194 0 j9_ := fun j9_ => by (rw [rd_ne (by decide), rd_ne (by decide), rd_ne (by decide), rd_eq, rd_ne (by decide), hNN_])
              have r2_ : ∀ j9_, ((sm_aI (sm_aI (sm_aI (sm_aI (sm_aI S_ 198 0 (i_or (S_.2.2.1 191 0 (i_or i_ (i_shl a_ ip_)).toNat) (64 * (S_.2.2.1 193 0 (i_or i_ (i_shl b_ ip_)).toNat))).toNat 1) 194 0 mn.toNat (i_or (S_.2.2.1 191 0 (i_or i_ (i_shl a_ ip_)).toNat) (64 * (S_.2.2.1 193 0 (i_or i_ (i_shl b_ ip_)).toNat)))) 195 0 mn.toNat k_) 196 0 mn.toNat i_) 197 0 mn.toNat ((S_.2.2.1 197 0 k_.toNat) + 1))).2.2.1 198 0 j9_ = if j9_ = NN_.toNat then 1 else S_.2.2.1 198 0 j9_ := fun j9_ => by (rw [rd_ne (by decide), rd_ne (by decide), rd_ne (by decide), rd_ne (by decide), rd_eq, hNN_])
              have r3_ : ∀ j9_, ((sm_aI (sm_aI (sm_aI (sm_aI (sm_aI S_ 198 0 (i_or (S_.2.2.1 191 0 (i_or i_ (i_shl a_ ip_)).toNat) (64 * (S_.2.2.1 193 0 (i_or i_ (i_shl b_ ip_)).toNat))).toNat 1) 194 0 mn.toNat (i_or (S_.2.2.1 191 0 (i_or i_ (i_shl a_ ip_)).toNat) (64 * (S_.2.2.1 193 0 (i_or i_ (i_shl b_ ip_)).toNat)))) 195 0 mn.toNat k_) 196 0 mn.toNat i_) 197 0 mn.toNat ((S_.2.2.1 197 0 k_.toNat) + 1))).2.2.1 197 0 j9_ = if j9_ = mn.toNat then S_.2.2.1 197 0 k_.toNat + 1 else S_.2.2.1 197 0 j9_ := fun j9_ => by (rw [rd_eq, rd_ne (by decide), rd_ne (by decide), rd_ne (by decide), rd_ne (by decide)])
              have ax9_ : S_.2.2.1 191 0 (i_or i_ (i_shl a_ ip_)).toNat = S0_.2.2.1 191 0 (a_.toNat * 2 ^ ip_.toNat + i_.toNat) := by (rw [← n1p, ← f191_])
              have ay9_ : S_.2.2.1 193 0 (i_or i_ (i_shl b_ ip_)).toNat = S0_.2.2.1 193 0 (b_.toNat * 2 ^ ip_.toNat + i_.toNat) := by (rw [← n2p, ← f193_])
              rw [show (i_ + 1).toNat = i_.toNat + 1 by omega]
              have o9_ := or64c (a_ := S_.2.2.1 193 0 (i_or i_ (i_shl b_ ip_)).toNat) (b_ := S_.2.2.1 191 0 (i_or i_ (i_shl a_ ip_)).toNat) (by omega) (by omega)
              rw [o9_] at hNN_
              refine rcq_a hcq_ (by omega) (by omega) (by omega) hab_ iz9_ nn9_ ax9_ ay9_ t1_ t2_ ?_ (fun j9_ => ?_) (fun j9_ => ?_) (fun j9_ => ?_)
              · rw [← hNN_]; exact x9_
              · rw [← hNN_]; exact r1_ j9_
              · exact r3_ j9_
              · rw [← hNN_]; exact r2_ j9_
            · obtain ⟨NN_, hNN_⟩ : ∃ NN_, NN_ = i_or (S_.2.2.1 191 0 (i_or i_ (i_shl a_ ip_)).toNat) (64 * (S_.2.2.1 193 0 (i_or i_ (i_shl b_ ip_)).toNat)) := ⟨_, rfl⟩
              have g9_ : 0 ≤ NN_ ∧ NN_ ≤ 4095 ∧ NN_ % 64 < 2 ^ sA_ ∧ NN_ / 64 < 2 ^ sB_ := by (rw [hNN_]; omega)
              have x9_ : S_.2.2.1 198 0 NN_.toNat ≠ 1 := by (rw [hNN_]; omega)
              have r1_ : ∀ j9_, ((sm_aI (sm_aI (sm_aI (sm_aI (sm_aI S_ 198 0 (i_or (S_.2.2.1 191 0 (i_or i_ (i_shl a_ ip_)).toNat) (64 * (S_.2.2.1 193 0 (i_or i_ (i_shl b_ ip_)).toNat))).toNat 1) 194 0 mn.toNat (i_or (S_.2.2.1 191 0 (i_or i_ (i_shl a_ ip_)).toNat) (64 * (S_.2.2.1 193 0 (i_or i_ (i_shl b_ ip_)).toNat)))) 195 0 mn.toNat k_) 196 0 mn.toNat i_) 197 0 mn.toNat ((S_.2.2.1 197 0 k_.toNat) + 1))).2.2.1 194 0 j9_ = if j9_ = mn.toNat then NN_ else S_.2.2.1 194 0 j9_ := fun j9_ => by (rw [rd_ne (by decide), rd_ne (by decide), rd_ne (by decide), rd_eq, rd_ne (by decide), hNN_])
              have r2_ : ∀ j9_, ((sm_aI (sm_aI (sm_aI (sm_aI (sm_aI S_ 198 0 (i_or (S_.2.2.1 191 0 (i_or i_ (i_shl a_ ip_)).toNat) (64 * (S_.2.2.1 193 0 (i_or i_ (i_shl b_ ip_)).toNat))).toNat 1) 194 0 mn.toNat (i_or (S_.2.2.1 191 0 (i_or i_ (i_shl a_ ip_)).toNat) (64 * (S_.2.2.1 193 0 (i_or i_ (i_shl b_ ip_)).toNat)))) 195 0 mn.toNat k_) 196 0 mn.toNat i_) 197 0 mn.toNat ((S_.2.2.1 197 0 k_.toNat) + 1))).2.2.1 198 0 j9_ = if j9_ = NN_.toNat then 1 else S_.2.2.1 198 0 j9_ := fun j9_ => by (rw [rd_ne (by decide), rd_ne (by decide), rd_ne (by decide), rd_ne (by decide), rd_eq, hNN_])
              have r3_ : ∀ j9_, ((sm_aI (sm_aI (sm_aI (sm_aI (sm_aI S_ 198 0 (i_or (S_.2.2.1 191 0 (i_or i_ (i_shl a_ ip_)).toNat) (64 * (S_.2.2.1 193 0 (i_or i_ (i_shl b_ ip_)).toNat))).toNat 1) 194 0 mn.toNat (i_or (S_.2.2.1 191 0 (i_or i_ (i_shl a_ ip_)).toNat) (64 * (S_.2.2.1 193 0 (i_or i_ (i_shl b_ ip_)).toNat)))) 195 0 mn.toNat k_) 196 0 mn.toNat i_) 197 0 mn.toNat ((S_.2.2.1 197 0 k_.toNat) + 1))).2.2.1 197 0 j9_ = if j9_ = mn.toNat then S_.2.2.1 197 0 k_.toNat + 1 else S_.2.2.1 197 0 j9_ := fun j9_ => by (rw [rd_eq, rd_ne (by decide), rd_ne (by decide), rd_ne (by decide), rd_ne (by decide)])
              rw [r1_, if_neg (by omega)]
              exact hab_
            · omega
            · omega
            · omega
        · have cx4_ : ¬ ((S_.2.2.1 190 0 (i_or i_ (i_shl a_ ip_)).toNat) = (S_.2.2.1 192 0 (i_or i_ (i_shl b_ ip_)).toNat)) := of_decide_eq_false cx4_
          have nz9_ : neD (S0_.2.2.1 190 0) (S0_.2.2.1 192 0) (a_.toNat * 2 ^ ip_.toNat + i_.toNat) (b_.toNat * 2 ^ ip_.toNat + i_.toNat) := fun z9_ => cx4_ (by (rw [n1p, n2p, f190_, f192_]; exact z9_))
          have sp9_ := rcq_d hcq_ (by omega) (by omega) (by omega) hab_ iz9_ nz9_
          refine sm_T_go 3 (c1 := (141, [some (.inr (.inr (some (13, 0)))), some (.inl ip_), some (.inl bA_), some (.inl bB_), some (.inl mn), some (.inl k_), some (.inl a_), some (.inl b_), some (.inl i_), none], [.inl i_, .inl k_, .inr (.inr (some (13, 0)))], S_)) rfl ?_
          refine sm_T_cal (d1 := 0) (Q1 := vq_385w k_ i_ S_) rfl rfl (by decide) (vc_385w k_ i_ S_ hI_ (by omega) (by omega)) (fun u_ Sx21_ px24_ => ?_)
          obtain ⟨vx26_, rfl, hIx22_, hFx23_, px24_⟩ := px24_
          have hFx25_ : ai_fr (sx_W vw_386w) S0_ Sx21_ := ai_fr_tr hF_ (fr_le hFx23_ rfl)
          have w141_ := px24_
          refine sm_T_ri rfl ⟨_, _, rfl, _, rfl, hIx22_, hFx25_, ?_⟩
          first | exact ⟨w141_.1, by (rw [w141_.2]; exact sp9_)⟩ | exact ⟨by omega, rcq_e hcq_ (by omega)⟩
set_option maxHeartbeats 3000000 in
set_option maxRecDepth 20000 in
theorem vc_386w {sc_ : Nat × (Nat → Int)} (ip_ : Int) (bA_ : Int) (bB_ : Int) (sA_ : Nat) (sB_ : Nat) (S0_ : sm_S) (hI_ : gi S0_) (hi_ : 0 ≤ ip_ ∧ ip_ + sA_ ≤ 12 ∧ ip_ + sB_ ≤ 12 ∧ sA_ ≤ 6 ∧ sB_ ≤ 6) (hbA_ : 0 ≤ bA_ ∧ bA_ < 2 ^ sA_) (hbB_ : 0 ≤ bB_ ∧ bB_ < 2 ^ sB_) (htA_ : ∀ p9_ : Nat, p9_ < 2 ^ (ip_.toNat + sA_) → 0 ≤ S0_.2.2.1 191 0 p9_ ∧ S0_.2.2.1 191 0 p9_ < 2 ^ sA_) (htB_ : ∀ p9_ : Nat, p9_ < 2 ^ (ip_.toNat + sB_) → 0 ≤ S0_.2.2.1 193 0 p9_ ∧ S0_.2.2.1 193 0 p9_ < 2 ^ sB_) : sm_T (mt_P sc_) 1 386 (0, [some (.inr (.inr (some (13, 0)))), some (.inl ip_), some (.inl bA_), some (.inl bB_), none, none, none, none, none, none], [], S0_) (fun ro9_ => ∃ u_ S1_, ro9_ = (.inl u_, S1_, 0) ∧ vq_386w ip_ bA_ bB_ sA_ sB_ S0_ u_ S1_) := by
  have hF_ : ai_fr (sx_W vw_386w) S0_ S0_ := ai_fr_rf
  have w1_ := pw_le (n := sA_) (m := 6) (by omega)
  have w2_ := pw_le (n := sB_) (m := 6) (by omega)
  have w3_ := pw_pos sA_
  have w4_ := pw_pos sB_
  have w5_ := pw_le (n := ip_.toNat) (m := 12) (by omega)
  have w6_ := pw_pos ip_.toNat
  have hIx1_ : gi (sm_pI S0_ 13 0 95 0) := gi_pI hI_ (show 0 ≤ 0 ∧ 0 ≤ 4097 from ⟨by omega, by omega⟩)
  have hFx2_ : ai_fr (sx_W vw_386w) S0_ (sm_pI S0_ 13 0 95 0) := ai_fr_tr hF_ (ai_fr_pI rfl)
  refine sm_T_go 5 (c1 := (8, [some (.inr (.inr (some (13, 0)))), some (.inl ip_), some (.inl bA_), some (.inl bB_), some (.inl 0), none, none, none, none, none], [], sm_pI S0_ 13 0 95 0)) rfl ?_
  refine (vl_386w ip_ bA_ bB_ sA_ sB_ S0_ hi_ hbA_ hbB_ htA_ htB_ _).1 0 (sm_pI S0_ 13 0 95 0) hIx1_ hFx2_ ⟨?_, ?_, trivial⟩ (Nat.lt_succ_self _)
  · omega
  · (intro j9_ hj9_; exfalso; omega)
end
/-! 99.ztZ5 -/
section
/-! the mapper: needed nodes and uses; written by wip/p55/gen/vg -/

/-! uses of_ nodes -/
def psm (g_ : Nat → Nat) (a_ : Nat) : Nat → Nat
  | 0 => 0
  | l_ + 1 => psm g_ a_ l_ + g_ (a_ + l_)
theorem psm_c {g_ : Nat → Nat} {a_ : Nat} : ∀ l_ : Nat, psm g_ a_ (l_ + 1) = g_ a_ + psm g_ (a_ + 1) l_
  | 0 => by
    show 0 + g_ (a_ + 0) = g_ a_ + 0
    rw [Nat.zero_add, Nat.add_zero, Nat.add_zero]
  | l_ + 1 => by
    show psm g_ a_ (l_ + 1) + g_ (a_ + (l_ + 1)) = g_ a_ + (psm g_ (a_ + 1) l_ + g_ (a_ + 1 + l_))
    rw [psm_c l_, show a_ + 1 + l_ = a_ + (l_ + 1) by omega]
    omega
theorem psm_cg {g_ h_ : Nat → Nat} {a_ : Nat} : ∀ l_ : Nat, (∀ i_, i_ < l_ → g_ (a_ + i_) = h_ (a_ + i_)) → psm g_ a_ l_ = psm h_ a_ l_
  | 0, _ => rfl
  | l_ + 1, e_ => by
    show psm g_ a_ l_ + g_ (a_ + l_) = psm h_ a_ l_ + h_ (a_ + l_)
    rw [psm_cg l_ (fun i_ hi_ => e_ i_ (by omega)), e_ l_ (Nat.lt_succ_self l_)]
def rcn (sf_ rt_ : Nat → Int) : Nat → Nat → Nat
  | 0, _ => 0
  | k_ + 1, q_ => rcn sf_ rt_ k_ q_ + if q_ = nsw sf_ (rt_ k_) then 1 else 0
def pgn (sf_ lo_ hi_ : Nat → Int) (nd_ : Nat → Bool) (q_ n_ : Nat) : Nat := if nd_ n_ = true then (if q_ = nsw sf_ (lo_ n_) then 1 else 0) + (if q_ = nsw sf_ (hi_ n_) then 1 else 0) else 0
/-- which nodes are_ needed -/
def ndf (F_ N_ K_ : Nat) (sf_ lo_ hi_ rt_ : Nat → Int) : Nat → Bool := (ndk N_ sf_ lo_ hi_ (nd0 sf_ rt_ K_) (N_ - F_)).1
/-- uses; a_ root counts for_ two_ -/
def usn (F_ N_ K_ : Nat) (sf_ lo_ hi_ rt_ : Nat → Int) (q_ : Nat) : Nat := 2 * rcn sf_ rt_ K_ q_ + psm (pgn sf_ lo_ hi_ (ndf F_ N_ K_ sf_ lo_ hi_ rt_) q_) F_ (N_ - F_)
theorem inc2 {u_ : Nat → Int} {a_ b_ q_ c_ : Nat} (h_ : u_ q_ = (c_ : Int)) : (if q_ = b_ then (if b_ = a_ then u_ a_ + 1 else u_ b_) + 1 else if q_ = a_ then u_ a_ + 1 else u_ q_) = ((c_ + ((if q_ = a_ then 1 else 0) + (if q_ = b_ then 1 else 0)) : Nat) : Int) := by
  by_cases z_ : q_ = b_
  · subst z_
    rw [if_pos rfl, if_pos rfl]
    by_cases y_ : q_ = a_
    · subst y_
      rw [if_pos rfl, if_pos rfl, h_]
      omega
    · rw [if_neg y_, if_neg y_, h_]
      omega
  · rw [if_neg z_, if_neg z_]
    by_cases y_ : q_ = a_
    · subst y_
      rw [if_pos rfl, if_pos rfl, h_]
      omega
    · rw [if_neg y_, if_neg y_, h_]
      omega
theorem nsw_le {N_ : Nat} {sf_ : Nat → Int} {l_ : Int} (hs_ : ∀ m_, m_ < N_ → 0 ≤ sf_ m_ ∧ sf_ m_ ≤ 2 * (m_ : Int) + 1) (h0_ : 0 ≤ l_) (h1_ : l_ < 2 * (N_ : Int)) : (nsw sf_ l_ : Int) ≤ l_ / 2 := by
  have s_ := hs_ (l_ / 2).toNat (by omega)
  unfold nsw
  omega
theorem ndk_st {F_ N_ : Nat} {sf_ lo_ hi_ : Nat → Int} {m0_ : Nat → Bool} (hg_ : glo F_ N_ lo_ hi_) (hs_ : ∀ m_, m_ < N_ → 0 ≤ sf_ m_ ∧ sf_ m_ ≤ 2 * (m_ : Int) + 1) {j_ q_ : Nat} (hj_ : j_ < N_ - F_) (hq_ : N_ - 1 - j_ ≤ q_) : (ndk N_ sf_ lo_ hi_ m0_ (j_ + 1)).1 q_ = (ndk N_ sf_ lo_ hi_ m0_ j_).1 q_ := by
  have g_ := hg_ (N_ - 1 - j_) (by omega) (by omega)
  have b1_ := nsw_le hs_ (l_ := lo_ (N_ - 1 - j_)) (by omega) (by omega)
  have b2_ := nsw_le hs_ (l_ := hi_ (N_ - 1 - j_)) (by omega) (by omega)
  cases x_ : (ndk N_ sf_ lo_ hi_ m0_ j_).1 (N_ - 1 - j_)
  · rw [ndk_n x_]
  · rw [ndk_y x_]
    show (((ndk N_ sf_ lo_ hi_ m0_ j_).1 q_ || decide (q_ = nsw sf_ (lo_ (N_ - 1 - j_)))) || decide (q_ = nsw sf_ (hi_ (N_ - 1 - j_)))) = (ndk N_ sf_ lo_ hi_ m0_ j_).1 q_
    rw [decide_eq_false (show ¬ q_ = nsw sf_ (lo_ (N_ - 1 - j_)) by omega), decide_eq_false (show ¬ q_ = nsw sf_ (hi_ (N_ - 1 - j_)) by omega), Bool.or_false, Bool.or_false]
theorem ndk_fn {F_ N_ : Nat} {sf_ lo_ hi_ : Nat → Int} {m0_ : Nat → Bool} (hg_ : glo F_ N_ lo_ hi_) (hs_ : ∀ m_, m_ < N_ → 0 ≤ sf_ m_ ∧ sf_ m_ ≤ 2 * (m_ : Int) + 1) : ∀ (i_ j_ q_ : Nat), j_ + i_ = N_ - F_ → N_ - 1 - j_ ≤ q_ → (ndk N_ sf_ lo_ hi_ m0_ (N_ - F_)).1 q_ = (ndk N_ sf_ lo_ hi_ m0_ j_).1 q_
  | 0, j_, q_, e_, _ => by
    have e_ : j_ = N_ - F_ := e_
    rw [e_]
  | i_ + 1, j_, q_, e_, h_ => by
    rw [ndk_fn hg_ hs_ i_ (j_ + 1) q_ (by omega) (by omega)]
    exact ndk_st hg_ hs_ (by omega) h_

/-! Design.markNeeded -/
def vw_67mn : sx_Wl := ([], [59], [])
def vq_67mn (dd_ : Nat) (F_ : Nat) (S0_ : sm_S) (u_ : Option sm_V) (S1_ : sm_S) : Prop := ∃ v_ : Int, u_ = some (.inl v_) ∧ gi S1_ ∧ ai_fr (sx_W vw_67mn) S0_ S1_ ∧ (((0 ≤ v_ ∧ v_ ≤ 1000) ∧ mkd dd_ F_ S1_ (S1_.2.2.1 59 0)) ∧ ndi (S0_.1 3 dd_ 4).toNat ((S0_.1 3 dd_ 4).toNat - F_) (S0_.2.2.1 44 (0 + dd_)) (S0_.2.2.1 42 (0 + dd_)) (S0_.2.2.1 43 (0 + dd_)) (nd0 (S0_.2.2.1 44 (0 + dd_)) (fun j_ => rtv dd_ S0_ (j_ : Int)) (S0_.1 3 dd_ 3 + S0_.1 3 dd_ 2).toNat) (S1_.2.2.1 59 0) v_)
set_option maxHeartbeats 2000000 in
theorem vl_67mn {sc_ : Nat × (Nat → Int)} (dd_ : Nat) (F_ : Nat) (S0_ : sm_S) (hg_ : dgr dd_ F_ S0_) (hr_ : drt dd_ S0_) (hs_ : swp dd_ F_ S0_) : ∀ nn_ : Nat, (∀ (k_ : Int) (S_ : sm_S), gi S_ → ai_fr (sx_W vw_67mn) S0_ S_ → ((ni0 (S0_.1 3 dd_ 4).toNat k_.toNat (S0_.2.2.1 44 (0 + dd_)) (fun j_ => rtv dd_ S0_ (j_ : Int)) (S_.2.2.1 59 0)) ∧ (0 ≤ k_ ∧ k_ ≤ S0_.1 3 dd_ 3 + S0_.1 3 dd_ 2) ∧ (∀ j9_ : Nat, j9_ < 1013 → S_.2.2.1 59 0 j9_ = 0 ∨ (S_.2.2.1 59 0 j9_ = 1 ∧ (j9_ : Int) < S0_.1 3 dd_ 4 ∧ S0_.2.2.1 44 (0 + dd_) j9_ = 2 * (j9_ : Int))) ∧ (∀ i9_ : Int, 0 ≤ i9_ → i9_ < k_ → S_.2.2.1 59 0 (srp dd_ S0_ (rtv dd_ S0_ i9_)) = 1) ∧ True) → ((5000 + (100 - k_)).toNat) < nn_ → sm_T (mt_P sc_) 1 67 (7, [some (.inr (.inr (some (3, dd_)))), some (.inr (.inr (some (59, 0)))), some (.inl k_), none], [], S_) (fun ro9_ => ∃ u_ S1_, ro9_ = (.inl u_, S1_, 0) ∧ vq_67mn dd_ F_ S0_ u_ S1_)) ∧ (∀ (c_ : Int) (n_ : Int) (S_ : sm_S), gi S_ → ai_fr (sx_W vw_67mn) S0_ S_ → ((ndi (S0_.1 3 dd_ 4).toNat (S0_.1 3 dd_ 4 - 1 - n_).toNat (S0_.2.2.1 44 (0 + dd_)) (S0_.2.2.1 42 (0 + dd_)) (S0_.2.2.1 43 (0 + dd_)) (nd0 (S0_.2.2.1 44 (0 + dd_)) (fun j_ => rtv dd_ S0_ (j_ : Int)) (S0_.1 3 dd_ 3 + S0_.1 3 dd_ 2).toNat) (S_.2.2.1 59 0) c_) ∧ ((F_ : Int) - 1 ≤ n_ ∧ n_ < S0_.1 3 dd_ 4 ∧ 0 ≤ c_ ∧ c_ ≤ S0_.1 3 dd_ 4 - 1 - n_) ∧ (∀ j9_ : Nat, j9_ < 1013 → S_.2.2.1 59 0 j9_ = 0 ∨ (S_.2.2.1 59 0 j9_ = 1 ∧ (j9_ : Int) < S0_.1 3 dd_ 4 ∧ S0_.2.2.1 44 (0 + dd_) j9_ = 2 * (j9_ : Int))) ∧ (∀ i9_ : Int, 0 ≤ i9_ → i9_ < S0_.1 3 dd_ 3 + S0_.1 3 dd_ 2 → S_.2.2.1 59 0 (srp dd_ S0_ (rtv dd_ S0_ i9_)) = 1) ∧ (∀ j9_ : Nat, n_ < (j9_ : Int) → F_ ≤ j9_ → (j9_ : Int) < S0_.1 3 dd_ 4 → S_.2.2.1 59 0 j9_ = 1 → S_.2.2.1 59 0 (srp dd_ S0_ (S0_.2.2.1 42 (0 + dd_) j9_)) = 1 ∧ S_.2.2.1 59 0 (srp dd_ S0_ (S0_.2.2.1 43 (0 + dd_) j9_)) = 1) ∧ True) → ((n_ + 1).toNat) < nn_ → sm_T (mt_P sc_) 1 67 (44, [some (.inr (.inr (some (3, dd_)))), some (.inr (.inr (some (59, 0)))), some (.inl c_), some (.inl n_)], [], S_) (fun ro9_ => ∃ u_ S1_, ro9_ = (.inl u_, S1_, 0) ∧ vq_67mn dd_ F_ S0_ u_ S1_)) := by
  intro nn_
  induction nn_ with
  | zero => exact ⟨fun _ _ _ _ _ h_ => absurd h_ (Nat.not_lt_zero _), fun _ _ _ _ _ _ h_ => absurd h_ (Nat.not_lt_zero _)⟩
  | succ nn_ ih_ =>
    refine ⟨?_, ?_⟩
    · rintro k_ S_ hI_ hF_ ⟨hnd_, h0_, hz_, hq_, -⟩ hm_
      have g1_ := hg_.1
      have g2_ := hg_.2.1
      have r1_ := hr_.1
      have e2_ : S_.1 3 dd_ 2 = S0_.1 3 dd_ 2 := hF_.1 3 dd_ 2 rfl
      have e1_ : S_.1 3 dd_ 1 = S0_.1 3 dd_ 1 := hF_.1 3 dd_ 1 rfl
      have e3_ : S_.1 3 dd_ 3 = S0_.1 3 dd_ 3 := hF_.1 3 dd_ 3 rfl
      have e4_ : S_.1 3 dd_ 4 = S0_.1 3 dd_ 4 := hF_.1 3 dd_ 4 rfl
      have n13_ : S_.1 3 dd_ 4 ≤ 1013 := (hI_.1 3 dd_ 4 rfl).2
      have f44_ : S_.2.2.1 44 (0 + dd_) = S0_.2.2.1 44 (0 + dd_) := fr_arr hF_ rfl
      have f42_ : S_.2.2.1 42 (0 + dd_) = S0_.2.2.1 42 (0 + dd_) := fr_arr hF_ rfl
      have f43_ : S_.2.2.1 43 (0 + dd_) = S0_.2.2.1 43 (0 + dd_) := fr_arr hF_ rfl
      have f45_ : S_.2.2.1 45 (0 + dd_) = S0_.2.2.1 45 (0 + dd_) := fr_arr hF_ rfl
      have f46_ : S_.2.2.1 46 (0 + dd_) = S0_.2.2.1 46 (0 + dd_) := fr_arr hF_ rfl
      refine sm_T_go 2 (c1 := (9, [some (.inr (.inr (some (3, dd_)))), some (.inr (.inr (some (59, 0)))), some (.inl k_), none], [.inr (.inr (some (3, dd_))), .inl k_], S_)) rfl ?_
      refine sm_T_cal (d1 := 0) (Q1 := vq_66 dd_ S_) rfl rfl (by decide) (vc_66 dd_ S_ hI_ (by omega)) (fun u_ Sx1_ px4_ => ?_)
      obtain ⟨rfl, vx6_, rfl, px4_⟩ := px4_
      have e9_ := px4_
      refine sm_T_br (a := 3) (z := 23) rfl (fun cx7_ => ?_) (fun cx7_ => ?_)
      · have cx7_ : vx6_ ≤ k_ := of_decide_eq_true cx7_
        have bx8_ : 0 ≤ S_.1 3 dd_ 4 ∧ S_.1 3 dd_ 4 ≤ 1013 := hI_.1 3 dd_ 4 rfl
        refine sm_T_go 5 (c1 := (42, [some (.inr (.inr (some (3, dd_)))), some (.inr (.inr (some (59, 0)))), some (.inl 0), none], [.inl 1, .inl (S_.1 3 dd_ 4)], S_)) rfl ?_
        refine sm_T_bin (w := (S_.1 3 dd_ 4) - 1) rfl (bi_sub (by omega) (by omega) (by omega)) ?_ -- pc_ 42
        refine sm_T_go 1 (c1 := (44, [some (.inr (.inr (some (3, dd_)))), some (.inr (.inr (some (59, 0)))), some (.inl 0), some (.inl ((S_.1 3 dd_ 4) - 1))], [], S_)) rfl ?_
        refine ih_.2 0 ((S_.1 3 dd_ 4) - 1) S_ hI_ hF_ ⟨?_, ?_, ?_, ?_, ?_, trivial⟩ ?_
        · have j9_ : ∀ x9_ : Int, x9_ = S0_.1 3 dd_ 4 - 1 → (S0_.1 3 dd_ 4 - 1 - x9_).toNat = 0 := fun x9_ y9_ => by omega
          rw [j9_ _ (by omega), show (S0_.1 3 dd_ 3 + S0_.1 3 dd_ 2).toNat = k_.toNat by omega]
          exact ndi_0 hnd_
        · omega
        · exact hz_
        · (intro i9_ q8_ q9_; exact hq_ i9_ q8_ (by omega))
        · (intro j9_ q7_ q8_ q9_; omega)
        · omega
      · have cx7_ : ¬ (vx6_ ≤ k_) := of_decide_eq_false cx7_
        refine sm_T_go 4 (c1 := (19, [some (.inr (.inr (some (3, dd_)))), some (.inr (.inr (some (59, 0)))), some (.inl k_), none], [.inl k_, .inr (.inr (some (3, dd_))), .inr (.inr (some (3, dd_))), .inr (.inr (some (59, 0)))], S_)) rfl ?_
        refine sm_T_cal (d1 := 0) (Q1 := vq_65 k_ dd_ S_) rfl rfl (by decide) (vc_65 k_ dd_ S_ hI_ (by exact drt_fr hr_ hF_ rfl rfl rfl rfl rfl) (by omega)) (fun u_ Sx9_ px12_ => ?_)
        obtain ⟨rfl, vx14_, rfl, px12_⟩ := px12_
        have e19_ := px12_
        have v19_ : vx14_ = rtv dd_ S0_ k_ := by rw [e19_.1]; unfold rtv; rw [e3_, f45_, f46_]
        refine sm_T_cal (d1 := 0) (Q1 := vq_64 vx14_ dd_ S_) rfl rfl (by decide) (vc_64 vx14_ dd_ S_ hI_ (by omega)) (fun u_ Sx15_ px18_ => ?_)
        obtain ⟨rfl, vx20_, rfl, px18_⟩ := px18_
        have e22_ := px18_
        rw [f44_] at e22_
        have sw9_ := swl_n hs_ (l_ := rtv dd_ S0_ k_) (by omega) (by omega) (by omega)
        rw [v19_] at e22_
        rw [← e22_] at sw9_
        have sb9_ := srp_b hs_ (l_ := rtv dd_ S0_ k_) (by omega) (by omega)
        have tn9_ : (vx20_ / 2).toNat = srp dd_ S0_ (rtv dd_ S0_ k_) := by omega
        refine sm_T_go 1 (c1 := (26, [some (.inr (.inr (some (3, dd_)))), some (.inr (.inr (some (59, 0)))), some (.inl k_), none], [.inl 1, .inl vx20_, .inr (.inr (some (59, 0)))], S_)) rfl ?_
        refine sm_T_bin (w := (vx20_ / 2)) rfl (bi_shr (k := 1) (by decide) (by omega) (by omega)) ?_ -- pc_ 26
        refine sm_T_go 1 (c1 := (28, [some (.inr (.inr (some (3, dd_)))), some (.inr (.inr (some (59, 0)))), some (.inl k_), none], [.inl 1, .inl (vx20_ / 2), .inr (.inr (some (59, 0)))], S_)) rfl ?_
        refine sm_T_iast (n := 1013) rfl rfl (by omega) (by omega) ?_
        have hIx21_ : gi (sm_aI S_ 59 0 (vx20_ / 2).toNat 1) := gi_aI hI_ (show 0 ≤ 1 ∧ 1 ≤ 1 from ⟨by omega, by omega⟩)
        have hFx22_ : ai_fr (sx_W vw_67mn) S0_ (sm_aI S_ 59 0 (vx20_ / 2).toNat 1) := ai_fr_tr hF_ (ai_fr_aI rfl)
        refine sm_T_inc (a := 2) (z := 1) (v := k_) (w := k_ + 1) rfl rfl (by omega) (by omega) (by omega) ?_ -- pc_ 29
        refine sm_T_go 1 (c1 := (7, [some (.inr (.inr (some (3, dd_)))), some (.inr (.inr (some (59, 0)))), some (.inl (k_ + 1)), none], [], sm_aI S_ 59 0 (vx20_ / 2).toNat 1)) rfl ?_
        refine ih_.1 (k_ + 1) (sm_aI S_ 59 0 (vx20_ / 2).toNat 1) hIx21_ hFx22_ ⟨?_, ?_, ?_, ?_, trivial⟩ ?_
        · rw [show (k_ + 1).toNat = k_.toNat + 1 by omega]
          refine ni0_s hnd_ (fun q9_ => rd_eq.trans ?_)
          show _ = if q9_ = srp dd_ S0_ (rtv dd_ S0_ ((k_.toNat : Nat) : Int)) then 1 else _
          rw [show ((k_.toNat : Nat) : Int) = k_ by omega, ← tn9_]
        · omega
        · intro j9_ hj9_
          rw [rd_eq]
          by_cases z9_ : j9_ = srp dd_ S0_ (rtv dd_ S0_ k_)
          · rw [if_pos (by omega)]; right; rw [z9_]; exact ⟨rfl, by omega, sb9_.2.1⟩
          · rw [if_neg (by omega)]; exact hz_ j9_ hj9_
        · intro i9_ q8_ q9_
          rw [rd_eq]
          by_cases z9_ : srp dd_ S0_ (rtv dd_ S0_ i9_) = srp dd_ S0_ (rtv dd_ S0_ k_)
          · rw [if_pos (by omega)]
          · rw [if_neg (by omega)]; exact hq_ i9_ q8_ (by by_cases y9_ : i9_ = k_; (exact absurd (by rw [y9_]) z9_); omega)
        · omega
    · rintro c_ n_ S_ hI_ hF_ ⟨hnd_, h0_, hz_, hq_, hc_, -⟩ hm_
      have g1_ := hg_.1
      have g2_ := hg_.2.1
      have r1_ := hr_.1
      have e2_ : S_.1 3 dd_ 2 = S0_.1 3 dd_ 2 := hF_.1 3 dd_ 2 rfl
      have e1_ : S_.1 3 dd_ 1 = S0_.1 3 dd_ 1 := hF_.1 3 dd_ 1 rfl
      have e3_ : S_.1 3 dd_ 3 = S0_.1 3 dd_ 3 := hF_.1 3 dd_ 3 rfl
      have e4_ : S_.1 3 dd_ 4 = S0_.1 3 dd_ 4 := hF_.1 3 dd_ 4 rfl
      have n13_ : S_.1 3 dd_ 4 ≤ 1013 := (hI_.1 3 dd_ 4 rfl).2
      have f44_ : S_.2.2.1 44 (0 + dd_) = S0_.2.2.1 44 (0 + dd_) := fr_arr hF_ rfl
      have f42_ : S_.2.2.1 42 (0 + dd_) = S0_.2.2.1 42 (0 + dd_) := fr_arr hF_ rfl
      have f43_ : S_.2.2.1 43 (0 + dd_) = S0_.2.2.1 43 (0 + dd_) := fr_arr hF_ rfl
      have f45_ : S_.2.2.1 45 (0 + dd_) = S0_.2.2.1 45 (0 + dd_) := fr_arr hF_ rfl
      have f46_ : S_.2.2.1 46 (0 + dd_) = S0_.2.2.1 46 (0 + dd_) := fr_arr hF_ rfl
      refine sm_T_go 2 (c1 := (46, [some (.inr (.inr (some (3, dd_)))), some (.inr (.inr (some (59, 0)))), some (.inl c_), some (.inl n_)], [.inr (.inr (some (3, dd_))), .inl n_], S_)) rfl ?_
      refine sm_T_cal (d1 := 0) (Q1 := vq_63 dd_ S_) rfl rfl (by decide) (vc_63 dd_ S_ hI_ (by omega)) (fun u_ Sx1_ px4_ => ?_)
      obtain ⟨rfl, vx6_, rfl, px4_⟩ := px4_
      have e46_ := px4_
      refine sm_T_br (a := 2) (z := 48) rfl (fun cx7_ => ?_) (fun cx7_ => ?_)
      · have cx7_ : n_ < vx6_ := of_decide_eq_true cx7_
        refine sm_T_go 1 (c1 := (98, [some (.inr (.inr (some (3, dd_)))), some (.inr (.inr (some (59, 0)))), some (.inl c_), some (.inl n_)], [.inl c_], S_)) rfl ?_
        refine sm_T_ri rfl ⟨_, _, rfl, _, rfl, hI_, hF_, ?_⟩
        refine ⟨⟨by omega, fun j9_ hj9_ => ?_, fun i9_ q8_ q9_ => ?_, fun j9_ q7_ q8_ q9_ => ?_⟩, by (rw [show (S0_.1 3 dd_ 4 - 1 - n_).toNat = (S0_.1 3 dd_ 4).toNat - F_ by omega] at hnd_; exact hnd_)⟩
        · have q9_ := hz_ j9_ hj9_; rw [e4_, f44_]; exact q9_
        · have q7_ := hq_ i9_ q8_ (by omega); unfold srp rtv; rw [e3_, f44_, f45_, f46_]; exact q7_
        · have q6_ := hc_ j9_ (by omega) q7_ (by omega) q9_; unfold srp; rw [f42_, f43_, f44_]; exact q6_
      · have cx7_ : ¬ (n_ < vx6_) := of_decide_eq_false cx7_
        have gn_ := hg_.2.2 n_.toNat (by omega) (by omega)
        rw [← f42_, ← f43_] at gn_
        refine sm_T_go 2 (c1 := (54, [some (.inr (.inr (some (3, dd_)))), some (.inr (.inr (some (59, 0)))), some (.inl c_), some (.inl n_)], [.inl n_, .inr (.inr (some (59, 0)))], S_)) rfl ?_
        refine sm_T_iald (n := 1013) rfl rfl (by omega) (by omega) ?_
        have bx8_ : 0 ≤ S_.2.2.1 59 0 n_.toNat ∧ S_.2.2.1 59 0 n_.toNat ≤ 1 := hI_.2 59 0 _
        refine sm_T_b0 (a := 0) (z := 36) rfl (fun cx9_ => ?_) (fun cx9_ => ?_)
        · have cx9_ : (S_.2.2.1 59 0 n_.toNat) = 0 := of_decide_eq_true cx9_
          refine sm_T_inc (a := 3) (z := (-1)) (v := n_) (w := n_ - 1) rfl rfl (by omega) (by omega) (by omega) ?_ -- pc_ 91
          refine sm_T_go 1 (c1 := (44, [some (.inr (.inr (some (3, dd_)))), some (.inr (.inr (some (59, 0)))), some (.inl c_), some (.inl (n_ - 1))], [], S_)) rfl ?_
          refine ih_.2 c_ (n_ - 1) S_ hI_ hF_ ⟨?_, ?_, ?_, ?_, ?_, trivial⟩ ?_
          · have j9_ : ∀ x9_ : Int, x9_ = n_ - 1 → (S0_.1 3 dd_ 4 - 1 - x9_).toNat = (S0_.1 3 dd_ 4 - 1 - n_).toNat + 1 := fun x9_ y9_ => by omega
            rw [j9_ _ (by omega)]
            exact ndi_n (n_ := n_.toNat) hnd_ (by omega) (by omega) (by omega)
          · omega
          · exact hz_
          · exact hq_
          · intro j9_ q6_ q7_ q8_ q9_
            by_cases z9_ : (j9_ : Int) = n_
            · exfalso; rw [show j9_ = n_.toNat by omega] at q9_; omega
            · exact hc_ j9_ (by omega) q7_ q8_ q9_
          · omega
        · have cx9_ : ¬ ((S_.2.2.1 59 0 n_.toNat) = 0) := of_decide_eq_false cx9_
          refine sm_T_inc (a := 2) (z := 1) (v := c_) (w := c_ + 1) rfl rfl (by omega) (by omega) (by omega) ?_ -- pc_ 58
          refine sm_T_go 5 (c1 := (68, [some (.inr (.inr (some (3, dd_)))), some (.inr (.inr (some (59, 0)))), some (.inl (c_ + 1)), some (.inl n_)], [.inl n_, .inr (.inr (some (42, (0 + dd_)))), .inr (.inr (some (3, dd_))), .inr (.inr (some (59, 0)))], S_)) rfl ?_
          refine sm_T_iald (n := 1013) rfl rfl (by omega) (by omega) ?_
          have bx10_ : 0 ≤ S_.2.2.1 42 (0 + dd_) n_.toNat ∧ S_.2.2.1 42 (0 + dd_) n_.toNat ≤ 2025 := hI_.2 42 (0 + dd_) _
          refine sm_T_cal (d1 := 0) (Q1 := vq_64 (S_.2.2.1 42 (0 + dd_) n_.toNat) dd_ S_) rfl rfl (by decide) (vc_64 (S_.2.2.1 42 (0 + dd_) n_.toNat) dd_ S_ hI_ (by omega)) (fun u_ Sx11_ px14_ => ?_)
          obtain ⟨rfl, vx16_, rfl, px14_⟩ := px14_
          have e69_ := px14_
          rw [f44_, f42_] at e69_
          rw [f42_, f43_] at gn_
          have sw9_ := swl_n hs_ (l_ := S0_.2.2.1 42 (0 + dd_) n_.toNat) (by omega) (by omega) (by omega)
          rw [← e69_] at sw9_
          have sb9_ := srp_b hs_ (l_ := S0_.2.2.1 42 (0 + dd_) n_.toNat) (by omega) (by omega)
          have tl9_ : (vx16_ / 2).toNat = srp dd_ S0_ (S0_.2.2.1 42 (0 + dd_) n_.toNat) := by omega
          refine sm_T_go 1 (c1 := (73, [some (.inr (.inr (some (3, dd_)))), some (.inr (.inr (some (59, 0)))), some (.inl (c_ + 1)), some (.inl n_)], [.inl 1, .inl vx16_, .inr (.inr (some (59, 0)))], S_)) rfl ?_
          refine sm_T_bin (w := (vx16_ / 2)) rfl (bi_shr (k := 1) (by decide) (by omega) (by omega)) ?_ -- pc_ 73
          refine sm_T_go 1 (c1 := (75, [some (.inr (.inr (some (3, dd_)))), some (.inr (.inr (some (59, 0)))), some (.inl (c_ + 1)), some (.inl n_)], [.inl 1, .inl (vx16_ / 2), .inr (.inr (some (59, 0)))], S_)) rfl ?_
          refine sm_T_iast (n := 1013) rfl rfl (by omega) (by omega) ?_
          have hIx17_ : gi (sm_aI S_ 59 0 (vx16_ / 2).toNat 1) := gi_aI hI_ (show 0 ≤ 1 ∧ 1 ≤ 1 from ⟨by omega, by omega⟩)
          have hFx18_ : ai_fr (sx_W vw_67mn) S0_ (sm_aI S_ 59 0 (vx16_ / 2).toNat 1) := ai_fr_tr hF_ (ai_fr_aI rfl)
          refine sm_T_go 5 (c1 := (83, [some (.inr (.inr (some (3, dd_)))), some (.inr (.inr (some (59, 0)))), some (.inl (c_ + 1)), some (.inl n_)], [.inl n_, .inr (.inr (some (43, (0 + dd_)))), .inr (.inr (some (3, dd_))), .inr (.inr (some (59, 0)))], sm_aI S_ 59 0 (vx16_ / 2).toNat 1)) rfl ?_
          refine sm_T_iald (n := 1013) rfl rfl (by omega) (by omega) ?_
          have bx19_ : 0 ≤ S_.2.2.1 43 (0 + dd_) n_.toNat ∧ S_.2.2.1 43 (0 + dd_) n_.toNat ≤ 2025 := hI_.2 43 (0 + dd_) _
          refine sm_T_go 0 (c1 := (84, [some (.inr (.inr (some (3, dd_)))), some (.inr (.inr (some (59, 0)))), some (.inl (c_ + 1)), some (.inl n_)], [.inl (S_.2.2.1 43 (0 + dd_) n_.toNat), .inr (.inr (some (3, dd_))), .inr (.inr (some (59, 0)))], sm_aI S_ 59 0 (vx16_ / 2).toNat 1)) rfl ?_
          refine sm_T_cal (d1 := 0) (Q1 := vq_64 (S_.2.2.1 43 (0 + dd_) n_.toNat) dd_ (sm_aI S_ 59 0 (vx16_ / 2).toNat 1)) rfl rfl (by decide) (vc_64 (S_.2.2.1 43 (0 + dd_) n_.toNat) dd_ (sm_aI S_ 59 0 (vx16_ / 2).toNat 1) hIx17_ (by (rw [f43_]; omega))) (fun u_ Sx20_ px23_ => ?_)
          obtain ⟨rfl, vx25_, rfl, px23_⟩ := px23_
          have e84_ := px23_
          simp only [rd_ne, ne_eq, Nat.reduceEqDiff, not_false_eq_true] at e84_
          rw [f44_, f43_] at e84_
          have sw8_ := swl_n hs_ (l_ := S0_.2.2.1 43 (0 + dd_) n_.toNat) (by omega) (by omega) (by omega)
          rw [← e84_] at sw8_
          have sb8_ := srp_b hs_ (l_ := S0_.2.2.1 43 (0 + dd_) n_.toNat) (by omega) (by omega)
          have th9_ : (vx25_ / 2).toNat = srp dd_ S0_ (S0_.2.2.1 43 (0 + dd_) n_.toNat) := by omega
          refine sm_T_go 1 (c1 := (88, [some (.inr (.inr (some (3, dd_)))), some (.inr (.inr (some (59, 0)))), some (.inl (c_ + 1)), some (.inl n_)], [.inl 1, .inl vx25_, .inr (.inr (some (59, 0)))], sm_aI S_ 59 0 (vx16_ / 2).toNat 1)) rfl ?_
          refine sm_T_bin (w := (vx25_ / 2)) rfl (bi_shr (k := 1) (by decide) (by omega) (by omega)) ?_ -- pc_ 88
          refine sm_T_go 1 (c1 := (90, [some (.inr (.inr (some (3, dd_)))), some (.inr (.inr (some (59, 0)))), some (.inl (c_ + 1)), some (.inl n_)], [.inl 1, .inl (vx25_ / 2), .inr (.inr (some (59, 0)))], sm_aI S_ 59 0 (vx16_ / 2).toNat 1)) rfl ?_
          refine sm_T_iast (n := 1013) rfl rfl (by omega) (by omega) ?_
          have hIx26_ : gi (sm_aI (sm_aI S_ 59 0 (vx16_ / 2).toNat 1) 59 0 (vx25_ / 2).toNat 1) := gi_aI hIx17_ (show 0 ≤ 1 ∧ 1 ≤ 1 from ⟨by omega, by omega⟩)
          have hFx27_ : ai_fr (sx_W vw_67mn) S0_ (sm_aI (sm_aI S_ 59 0 (vx16_ / 2).toNat 1) 59 0 (vx25_ / 2).toNat 1) := ai_fr_tr hFx18_ (ai_fr_aI rfl)
          refine sm_T_inc (a := 3) (z := (-1)) (v := n_) (w := n_ - 1) rfl rfl (by omega) (by omega) (by omega) ?_ -- pc_ 91
          refine sm_T_go 1 (c1 := (44, [some (.inr (.inr (some (3, dd_)))), some (.inr (.inr (some (59, 0)))), some (.inl (c_ + 1)), some (.inl (n_ - 1))], [], sm_aI (sm_aI S_ 59 0 (vx16_ / 2).toNat 1) 59 0 (vx25_ / 2).toNat 1)) rfl ?_
          refine ih_.2 (c_ + 1) (n_ - 1) (sm_aI (sm_aI S_ 59 0 (vx16_ / 2).toNat 1) 59 0 (vx25_ / 2).toNat 1) hIx26_ hFx27_ ⟨?_, ?_, ?_, ?_, ?_, trivial⟩ ?_
          · have j9_ : ∀ x9_ : Int, x9_ = n_ - 1 → (S0_.1 3 dd_ 4 - 1 - x9_).toNat = (S0_.1 3 dd_ 4 - 1 - n_).toNat + 1 := fun x9_ y9_ => by omega
            rw [j9_ _ (by omega)]
            refine ndi_y (n_ := n_.toNat) hnd_ ?_ (by omega) (by omega) (fun q9_ => ?_)
            · rcases hz_ n_.toNat (by omega) with z9_ | z9_
              · exfalso; omega
              · exact z9_.1
            · rw [rd_eq, rd_eq]
              show _ = if q9_ = srp dd_ S0_ (S0_.2.2.1 43 (0 + dd_) n_.toNat) then 1 else if q9_ = srp dd_ S0_ (S0_.2.2.1 42 (0 + dd_) n_.toNat) then 1 else _
              rw [← tl9_, ← th9_]
          · omega
          · intro j9_ hj9_
            rw [rd_eq]
            by_cases z9_ : j9_ = srp dd_ S0_ (S0_.2.2.1 43 (0 + dd_) n_.toNat)
            · rw [if_pos (by omega)]; right; rw [z9_]; exact ⟨rfl, by omega, sb8_.2.1⟩
            · rw [if_neg (by omega), rd_eq]
              by_cases y9_ : j9_ = srp dd_ S0_ (S0_.2.2.1 42 (0 + dd_) n_.toNat)
              · rw [if_pos (by omega)]; right; rw [y9_]; exact ⟨rfl, by omega, sb9_.2.1⟩
              · rw [if_neg (by omega)]; exact hz_ j9_ hj9_
          · intro i9_ q8_ q9_
            rw [rd_eq]
            split
            · rfl
            · rw [rd_eq]; split; rfl; exact hq_ i9_ q8_ q9_
          · have mono : ∀ j8_ : Nat, S_.2.2.1 59 0 j8_ = 1 → ((sm_aI (sm_aI S_ 59 0 (vx16_ / 2).toNat 1) 59 0 (vx25_ / 2).toNat 1)).2.2.1 59 0 j8_ = 1 := fun j8_ w8_ => by rw [rd_eq]; split; rfl; (rw [rd_eq]; split; rfl; exact w8_)
            intro j9_ q6_ q7_ q8_ q9_
            by_cases z9_ : (j9_ : Int) = n_
            · rw [show j9_ = n_.toNat by omega]
              refine ⟨?_, ?_⟩
              · rw [rd_eq]; split; rfl; (rw [rd_eq, if_pos (by omega)])
              · rw [rd_eq, if_pos (by omega)]
            · have lt9_ := hg_.2.2 j9_ q7_ q8_
              have q5_ : S_.2.2.1 59 0 j9_ = 1 := by rw [rd_eq, if_neg (by omega), rd_eq, if_neg (by omega)] at q9_; exact q9_
              have w9_ := hc_ j9_ (by omega) q7_ q8_ q5_
              exact ⟨mono _ w9_.1, mono _ w9_.2⟩
          · omega
set_option maxHeartbeats 2000000 in
theorem vc_67mn {sc_ : Nat × (Nat → Int)} (dd_ : Nat) (F_ : Nat) (S0_ : sm_S) (hI_ : gi S0_) (hg_ : dgr dd_ F_ S0_) (hr_ : drt dd_ S0_) (hs_ : swp dd_ F_ S0_) : sm_T (mt_P sc_) 1 67 (0, [some (.inr (.inr (some (3, dd_)))), some (.inr (.inr (some (59, 0)))), none, none], [], S0_) (fun ro9_ => ∃ u_ S1_, ro9_ = (.inl u_, S1_, 0) ∧ vq_67mn dd_ F_ S0_ u_ S1_) := by
  have hF_ : ai_fr (sx_W vw_67mn) S0_ S0_ := ai_fr_rf
  refine sm_T_go 2 (c1 := (2, [some (.inr (.inr (some (3, dd_)))), some (.inr (.inr (some (59, 0)))), none, none], [.inl 0, .inr (.inr (some (59, 0)))], S0_)) rfl ?_
  refine sm_T_cal (d1 := 0) (Q1 := vq_2m9 0 S0_) rfl rfl (by decide) (vc_2m9 0 S0_ hI_ (by decide)) (fun u_ Sx1_ px4_ => ?_)
  obtain ⟨rfl, hIx2_, hFx3_, px4_⟩ := px4_
  have hFx5_ : ai_fr (sx_W vw_67mn) S0_ Sx1_ := ai_fr_tr hF_ (fr_le hFx3_ rfl)
  have e0_ := px4_
  refine sm_T_go 2 (c1 := (7, [some (.inr (.inr (some (3, dd_)))), some (.inr (.inr (some (59, 0)))), some (.inl 0), none], [], Sx1_)) rfl ?_
  refine (vl_67mn dd_ F_ S0_ hg_ hr_ hs_ _).1 0 Sx1_ hIx2_ hFx5_ ⟨?_, ?_, ?_, ?_, trivial⟩ (Nat.lt_succ_self _)
  · (have g1_ := hg_.1; have g2_ := hg_.2.1; exact ni0_0 (fun q9_ hq9_ => e0_ q9_ (by omega)))
  · (have r1_ := hr_.1; omega)
  · (intro j9_ hj9_; left; exact e0_ j9_ hj9_)
  · (intro i9_ q8_ q9_; omega)
/-! Mapper.findRoots -/
def vw_95n : sx_Wl := ([], [60], [])
def vq_95n (dd_ : Nat) (F_ : Nat) (S0_ : sm_S) (u_ : Option sm_V) (S1_ : sm_S) : Prop := u_ = none ∧ gi S1_ ∧ ai_fr (sx_W vw_95n) S0_ S1_ ∧ ((∀ q9_ : Nat, (q9_ : Int) < S0_.1 3 dd_ 4 → S1_.2.2.1 60 0 q9_ = if 1 < usn F_ (S0_.1 3 dd_ 4).toNat (S0_.1 3 dd_ 3 + S0_.1 3 dd_ 2).toNat (S0_.2.2.1 44 (0 + dd_)) (S0_.2.2.1 42 (0 + dd_)) (S0_.2.2.1 43 (0 + dd_)) (fun j_ => rtv dd_ S0_ (j_ : Int)) q9_ then 1 else 0) ∧ ∀ i_ : Int, 0 ≤ i_ → i_ < S0_.1 3 dd_ 3 + S0_.1 3 dd_ 2 → S1_.2.2.1 60 0 (srp dd_ S0_ (rtv dd_ S0_ i_)) ≠ 0)
set_option maxHeartbeats 3000000 in
theorem vl_95n {sc_ : Nat × (Nat → Int)} (dd_ : Nat) (F_ : Nat) (S0_ : sm_S) (hd_ : S0_.2.1 6 0 0 = some dd_) (hr_ : drt dd_ S0_) (hg_ : dgr dd_ F_ S0_) (hs_ : swp dd_ F_ S0_) (hnf_ : ∀ q9_ : Nat, (q9_ : Int) < S0_.1 3 dd_ 4 → (S0_.2.2.1 59 0 q9_ = 0 ∨ S0_.2.2.1 59 0 q9_ = 1) ∧ (S0_.2.2.1 59 0 q9_ = 1 ↔ (ndf F_ (S0_.1 3 dd_ 4).toNat (S0_.1 3 dd_ 3 + S0_.1 3 dd_ 2).toNat (S0_.2.2.1 44 (0 + dd_)) (S0_.2.2.1 42 (0 + dd_)) (S0_.2.2.1 43 (0 + dd_)) (fun j_ => rtv dd_ S0_ (j_ : Int))) q9_ = true)) : ∀ nn_ : Nat, (∀ (k_ : Int) (S_ : sm_S), gi S_ → ai_fr (sx_W vw_95n) S0_ S_ → ((∀ q9_ : Nat, (q9_ : Int) < S0_.1 3 dd_ 4 → S_.2.2.1 60 0 q9_ = 2 * ((rcn (S0_.2.2.1 44 (0 + dd_)) (fun j_ => rtv dd_ S0_ (j_ : Int)) k_.toNat q9_ : Nat) : Int)) ∧ (0 ≤ k_ ∧ k_ ≤ S0_.1 3 dd_ 3 + S0_.1 3 dd_ 2) ∧ (∀ j_ : Nat, j_ < 1013 → 0 ≤ S_.2.2.1 60 0 j_ ∧ S_.2.2.1 60 0 j_ ≤ 2 * k_) ∧ (∀ i_ : Int, 0 ≤ i_ → i_ < k_ → 2 ≤ S_.2.2.1 60 0 (srp dd_ S0_ (rtv dd_ S0_ i_))) ∧ True) → ((9000 - k_).toNat) < nn_ → sm_T (mt_P sc_) 2 95 (10, [some (.inr (.inr (some (6, 0)))), some (.inl k_)], [], S_) (fun ro9_ => ∃ u_ S1_, ro9_ = (.inl u_, S1_, 0) ∧ vq_95n dd_ F_ S0_ u_ S1_)) ∧ (∀ (n_ : Int) (S_ : sm_S), gi S_ → ai_fr (sx_W vw_95n) S0_ S_ → ((∀ q9_ : Nat, (q9_ : Int) < S0_.1 3 dd_ 4 → S_.2.2.1 60 0 q9_ = ((2 * rcn (S0_.2.2.1 44 (0 + dd_)) (fun j_ => rtv dd_ S0_ (j_ : Int)) (S0_.1 3 dd_ 3 + S0_.1 3 dd_ 2).toNat q9_ + psm (pgn (S0_.2.2.1 44 (0 + dd_)) (S0_.2.2.1 42 (0 + dd_)) (S0_.2.2.1 43 (0 + dd_)) (ndf F_ (S0_.1 3 dd_ 4).toNat (S0_.1 3 dd_ 3 + S0_.1 3 dd_ 2).toNat (S0_.2.2.1 44 (0 + dd_)) (S0_.2.2.1 42 (0 + dd_)) (S0_.2.2.1 43 (0 + dd_)) (fun j_ => rtv dd_ S0_ (j_ : Int))) q9_) F_ (n_.toNat - F_) : Nat) : Int)) ∧ ((F_ : Int) ≤ n_ ∧ n_ ≤ S0_.1 3 dd_ 4) ∧ (0 ≤ n_ ∧ n_ ≤ 1013) ∧ (∀ j_ : Nat, j_ < 1013 → 0 ≤ S_.2.2.1 60 0 j_ ∧ S_.2.2.1 60 0 j_ ≤ 100 + 2 * n_) ∧ (∀ i_ : Int, 0 ≤ i_ → i_ < S0_.1 3 dd_ 3 + S0_.1 3 dd_ 2 → 2 ≤ S_.2.2.1 60 0 (srp dd_ S0_ (rtv dd_ S0_ i_))) ∧ True) → ((5000 - n_).toNat) < nn_ → sm_T (mt_P sc_) 2 95 (61, [some (.inr (.inr (some (6, 0)))), some (.inl n_)], [], S_) (fun ro9_ => ∃ u_ S1_, ro9_ = (.inl u_, S1_, 0) ∧ vq_95n dd_ F_ S0_ u_ S1_)) ∧ (∀ (n_ : Int) (S_ : sm_S), gi S_ → ai_fr (sx_W vw_95n) S0_ S_ → ((∀ q9_ : Nat, (q9_ : Int) < S0_.1 3 dd_ 4 → S_.2.2.1 60 0 q9_ = if (q9_ : Int) < n_ then (if 1 < usn F_ (S0_.1 3 dd_ 4).toNat (S0_.1 3 dd_ 3 + S0_.1 3 dd_ 2).toNat (S0_.2.2.1 44 (0 + dd_)) (S0_.2.2.1 42 (0 + dd_)) (S0_.2.2.1 43 (0 + dd_)) (fun j_ => rtv dd_ S0_ (j_ : Int)) q9_ then 1 else 0) else ((usn F_ (S0_.1 3 dd_ 4).toNat (S0_.1 3 dd_ 3 + S0_.1 3 dd_ 2).toNat (S0_.2.2.1 44 (0 + dd_)) (S0_.2.2.1 42 (0 + dd_)) (S0_.2.2.1 43 (0 + dd_)) (fun j_ => rtv dd_ S0_ (j_ : Int)) q9_ : Nat) : Int)) ∧ (0 ≤ n_ ∧ n_ ≤ 1013) ∧ (∀ i_ : Int, 0 ≤ i_ → i_ < S0_.1 3 dd_ 3 + S0_.1 3 dd_ 2 → imq ((srp dd_ S0_ (rtv dd_ S0_ i_) : Int) < n_) (S_.2.2.1 60 0 (srp dd_ S0_ (rtv dd_ S0_ i_)) = 1) ∧ imq (n_ ≤ (srp dd_ S0_ (rtv dd_ S0_ i_) : Int)) (2 ≤ S_.2.2.1 60 0 (srp dd_ S0_ (rtv dd_ S0_ i_)))) ∧ True) → ((2000 - n_).toNat) < nn_ → sm_T (mt_P sc_) 2 95 (117, [some (.inr (.inr (some (6, 0)))), some (.inl n_)], [], S_) (fun ro9_ => ∃ u_ S1_, ro9_ = (.inl u_, S1_, 0) ∧ vq_95n dd_ F_ S0_ u_ S1_)) := by
  intro nn_
  induction nn_ with
  | zero => exact ⟨fun _ _ _ _ _ h_ => absurd h_ (Nat.not_lt_zero _), fun _ _ _ _ _ h_ => absurd h_ (Nat.not_lt_zero _), fun _ _ _ _ _ h_ => absurd h_ (Nat.not_lt_zero _)⟩
  | succ nn_ ih_ =>
    refine ⟨?_, ?_, ?_⟩
    · rintro k_ S_ hI_ hF_ ⟨hu_, h0_, hb_, hq_, -⟩ hm_
      have r1_ := hr_.1
      have c1_ : 0 ≤ S_.1 3 dd_ 1 ∧ S_.1 3 dd_ 1 ≤ 320 := hI_.1 3 dd_ 1 rfl
      have n13_ : 0 ≤ S_.1 3 dd_ 4 ∧ S_.1 3 dd_ 4 ≤ 1013 := hI_.1 3 dd_ 4 rfl
      have f1_ : S_.1 3 dd_ 1 = S0_.1 3 dd_ 1 := hF_.1 3 dd_ 1 rfl
      have f2_ : S_.1 3 dd_ 2 = S0_.1 3 dd_ 2 := hF_.1 3 dd_ 2 rfl
      have f3_ : S_.1 3 dd_ 3 = S0_.1 3 dd_ 3 := hF_.1 3 dd_ 3 rfl
      have f4_ : S_.1 3 dd_ 4 = S0_.1 3 dd_ 4 := hF_.1 3 dd_ 4 rfl
      have g1_ := hg_.1
      have f44_ : S_.2.2.1 44 (0 + dd_) = S0_.2.2.1 44 (0 + dd_) := fr_arr hF_ rfl
      have f45_ : S_.2.2.1 45 (0 + dd_) = S0_.2.2.1 45 (0 + dd_) := fr_arr hF_ rfl
      have f46_ : S_.2.2.1 46 (0 + dd_) = S0_.2.2.1 46 (0 + dd_) := fr_arr hF_ rfl
      refine sm_T_go 2 (c1 := (12, [some (.inr (.inr (some (6, 0)))), some (.inl k_)], [.inr (.inr (some (6, 0))), .inl k_], S_)) rfl ?_
      refine sm_T_gr rfl rfl ((hF_.2.1 6 0 0 rfl).trans hd_) ?_
      refine sm_T_cal (d1 := 0) (Q1 := vq_66 dd_ S_) rfl rfl (by decide) (vc_66 dd_ S_ hI_ (by omega)) (fun u_ Sx1_ px4_ => ?_)
      obtain ⟨rfl, vx6_, rfl, px4_⟩ := px4_
      have r15_ := px4_
      refine sm_T_br (a := 3) (z := 35) rfl (fun cx7_ => ?_) (fun cx7_ => ?_)
      · have cx7_ : vx6_ ≤ k_ := of_decide_eq_true cx7_
        refine sm_T_go 1 (c1 := (54, [some (.inr (.inr (some (6, 0)))), some (.inl k_)], [.inr (.inr (some (6, 0)))], S_)) rfl ?_
        refine sm_T_gr rfl rfl ((hF_.2.1 6 0 0 rfl).trans hd_) ?_
        refine sm_T_cal (d1 := 0) (Q1 := vq_63 dd_ S_) rfl rfl (by decide) (vc_63 dd_ S_ hI_ (by omega)) (fun u_ Sx8_ px11_ => ?_)
        obtain ⟨rfl, vx13_, rfl, px11_⟩ := px11_
        have a57_ := px11_
        refine sm_T_go 1 (c1 := (61, [some (.inr (.inr (some (6, 0)))), some (.inl vx13_)], [], S_)) rfl ?_
        refine ih_.2.1 vx13_ S_ hI_ hF_ ⟨?_, ?_, ?_, ?_, ?_, trivial⟩ ?_
        · intro q9_ hq9_
          have w9_ := hu_ q9_ hq9_
          rw [w9_, show (S0_.1 3 dd_ 3 + S0_.1 3 dd_ 2).toNat = k_.toNat by omega]
          have n9_ : ∀ x9_ : Int, x9_ = (F_ : Int) → x9_.toNat - F_ = 0 := fun x9_ y9_ => by omega
          rw [n9_ _ (by omega)]
          show _ = ((2 * rcn (S0_.2.2.1 44 (0 + dd_)) (fun j_ => rtv dd_ S0_ (j_ : Int)) k_.toNat q9_ + 0 : Nat) : Int)
          omega
        · (have c9_ := hg_.2.1; have c8_ := hg_.1.1; omega)
        · omega
        · (intro j_ hj_; have w9_ := hb_ j_ hj_; omega)
        · (intro i_ u_ w_; exact hq_ i_ u_ (by omega))
        · omega
      · have cx7_ : ¬ (vx6_ ≤ k_) := of_decide_eq_false cx7_
        refine sm_T_go 3 (c1 := (26, [some (.inr (.inr (some (6, 0)))), some (.inl k_)], [.inr (.inr (some (6, 0))), .inr (.inr (some (60, 0)))], S_)) rfl ?_
        refine sm_T_gr rfl rfl ((hF_.2.1 6 0 0 rfl).trans hd_) ?_
        refine sm_T_go 1 (c1 := (30, [some (.inr (.inr (some (6, 0)))), some (.inl k_)], [.inr (.inr (some (6, 0))), .inr (.inr (some (3, dd_))), .inr (.inr (some (60, 0)))], S_)) rfl ?_
        refine sm_T_gr rfl rfl ((hF_.2.1 6 0 0 rfl).trans hd_) ?_
        refine sm_T_go 1 (c1 := (34, [some (.inr (.inr (some (6, 0)))), some (.inl k_)], [.inl k_, .inr (.inr (some (3, dd_))), .inr (.inr (some (3, dd_))), .inr (.inr (some (60, 0)))], S_)) rfl ?_
        refine sm_T_cal (d1 := 0) (Q1 := vq_65 k_ dd_ S_) rfl rfl (by decide) (vc_65 k_ dd_ S_ hI_ (by exact drt_fr hr_ hF_ rfl rfl rfl rfl rfl) (by omega)) (fun u_ Sx14_ px17_ => ?_)
        obtain ⟨rfl, vx19_, rfl, px17_⟩ := px17_
        have t34_ := px17_
        have v34_ : vx19_ = rtv dd_ S0_ k_ := by (rw [t34_.1]; unfold rtv; rw [f3_, f45_, f46_])
        refine sm_T_cal (d1 := 0) (Q1 := vq_64 vx19_ dd_ S_) rfl rfl (by decide) (vc_64 vx19_ dd_ S_ hI_ (by omega)) (fun u_ Sx20_ px23_ => ?_)
        obtain ⟨rfl, vx25_, rfl, px23_⟩ := px23_
        have e37_ := px23_
        have x37_ : 0 ≤ vx25_ ∧ vx25_ ≤ 2025 := by (rw [e37_]; exact swx (hI_.2 44 (0 + dd_) _) (by omega))
        rw [f44_, v34_] at e37_
        have rb9_ := (rtv_b hr_ hs_ h0_.1 (show k_ < S0_.1 3 dd_ 3 + S0_.1 3 dd_ 2 by omega)).1
        have sw9_ := swl_n hs_ (l_ := rtv dd_ S0_ k_) rb9_.1 rb9_.2 (by omega)
        rw [← e37_] at sw9_
        have tn9_ : (vx25_ / 2).toNat = srp dd_ S0_ (rtv dd_ S0_ k_) := by omega
        have hb9_ := hb_ (vx25_ / 2).toNat (by omega)
        refine sm_T_go 1 (c1 := (41, [some (.inr (.inr (some (6, 0)))), some (.inl k_)], [.inl 1, .inl vx25_, .inr (.inr (some (60, 0)))], S_)) rfl ?_
        refine sm_T_bin (w := (vx25_ / 2)) rfl (bi_shr (k := 1) (by decide) (by omega) (by omega)) ?_ -- pc_ 41
        refine sm_T_go 1 (c1 := (43, [some (.inr (.inr (some (6, 0)))), some (.inl k_)], [.inl (vx25_ / 2), .inr (.inr (some (60, 0))), .inl (vx25_ / 2), .inr (.inr (some (60, 0)))], S_)) rfl ?_
        refine sm_T_iald (n := 1013) rfl rfl (by omega) (by omega) ?_
        have bx26_ : (-2147483648) ≤ S_.2.2.1 60 0 (vx25_ / 2).toNat ∧ S_.2.2.1 60 0 (vx25_ / 2).toNat ≤ 2147483647 := hI_.2 60 0 _
        refine sm_T_go 1 (c1 := (45, [some (.inr (.inr (some (6, 0)))), some (.inl k_)], [.inl 2, .inl (S_.2.2.1 60 0 (vx25_ / 2).toNat), .inl (vx25_ / 2), .inr (.inr (some (60, 0)))], S_)) rfl ?_
        refine sm_T_bin (w := (S_.2.2.1 60 0 (vx25_ / 2).toNat) + 2) rfl (bi_add (by omega) (by omega) (by omega)) ?_ -- pc_ 45
        refine sm_T_iast (n := 1013) rfl rfl (by omega) (by omega) ?_
        have hIx27_ : gi (sm_aI S_ 60 0 (vx25_ / 2).toNat ((S_.2.2.1 60 0 (vx25_ / 2).toNat) + 2)) := gi_aI hI_ (show (-2147483648) ≤ (S_.2.2.1 60 0 (vx25_ / 2).toNat) + 2 ∧ (S_.2.2.1 60 0 (vx25_ / 2).toNat) + 2 ≤ 2147483647 from ⟨by omega, by omega⟩)
        have hFx28_ : ai_fr (sx_W vw_95n) S0_ (sm_aI S_ 60 0 (vx25_ / 2).toNat ((S_.2.2.1 60 0 (vx25_ / 2).toNat) + 2)) := ai_fr_tr hF_ (ai_fr_aI rfl)
        refine sm_T_inc (a := 1) (z := 1) (v := k_) (w := k_ + 1) rfl rfl (by omega) (by omega) (by omega) ?_ -- pc_ 47
        refine sm_T_go 1 (c1 := (10, [some (.inr (.inr (some (6, 0)))), some (.inl (k_ + 1))], [], sm_aI S_ 60 0 (vx25_ / 2).toNat ((S_.2.2.1 60 0 (vx25_ / 2).toNat) + 2))) rfl ?_
        refine ih_.1 (k_ + 1) (sm_aI S_ 60 0 (vx25_ / 2).toNat ((S_.2.2.1 60 0 (vx25_ / 2).toNat) + 2)) hIx27_ hFx28_ ⟨?_, ?_, ?_, ?_, trivial⟩ ?_
        · intro q9_ hq9_
          have w9_ := hu_ q9_ hq9_
          rw [show (k_ + 1).toNat = k_.toNat + 1 by omega, rd_eq]
          show _ = 2 * ((rcn (S0_.2.2.1 44 (0 + dd_)) (fun j_ => rtv dd_ S0_ (j_ : Int)) k_.toNat q9_ + (if q9_ = srp dd_ S0_ (rtv dd_ S0_ ((k_.toNat : Nat) : Int)) then 1 else 0) : Nat) : Int)
          rw [show ((k_.toNat : Nat) : Int) = k_ by omega]
          by_cases z9_ : q9_ = srp dd_ S0_ (rtv dd_ S0_ k_)
          · rw [if_pos (by omega), if_pos z9_, tn9_, ← z9_, w9_]; omega
          · rw [if_neg (by omega), if_neg z9_, w9_]; omega
        · omega
        · intro j_ hj_
          rw [rd_eq]
          have w9_ := hb_ j_ hj_
          split
          · omega
          · omega
        · intro i_ u_ w_
          rw [rd_eq]
          by_cases y_ : i_ = k_
          · rw [if_pos (by rw [y_, tn9_])]; omega
          · have w8_ := hq_ i_ u_ (by omega)
            split
            · omega
            · exact w8_
        · omega
    · rintro n_ S_ hI_ hF_ ⟨hu_, hn9_, h0_, hb_, hq_, -⟩ hm_
      have r1_ := hr_.1
      have c1_ : 0 ≤ S_.1 3 dd_ 1 ∧ S_.1 3 dd_ 1 ≤ 320 := hI_.1 3 dd_ 1 rfl
      have n13_ : 0 ≤ S_.1 3 dd_ 4 ∧ S_.1 3 dd_ 4 ≤ 1013 := hI_.1 3 dd_ 4 rfl
      have f1_ : S_.1 3 dd_ 1 = S0_.1 3 dd_ 1 := hF_.1 3 dd_ 1 rfl
      have f2_ : S_.1 3 dd_ 2 = S0_.1 3 dd_ 2 := hF_.1 3 dd_ 2 rfl
      have f3_ : S_.1 3 dd_ 3 = S0_.1 3 dd_ 3 := hF_.1 3 dd_ 3 rfl
      have f4_ : S_.1 3 dd_ 4 = S0_.1 3 dd_ 4 := hF_.1 3 dd_ 4 rfl
      have g1_ := hg_.1
      have f44_ : S_.2.2.1 44 (0 + dd_) = S0_.2.2.1 44 (0 + dd_) := fr_arr hF_ rfl
      have f45_ : S_.2.2.1 45 (0 + dd_) = S0_.2.2.1 45 (0 + dd_) := fr_arr hF_ rfl
      have f46_ : S_.2.2.1 46 (0 + dd_) = S0_.2.2.1 46 (0 + dd_) := fr_arr hF_ rfl
      refine sm_T_go 2 (c1 := (63, [some (.inr (.inr (some (6, 0)))), some (.inl n_)], [.inr (.inr (some (6, 0))), .inl n_], S_)) rfl ?_
      refine sm_T_gr rfl rfl ((hF_.2.1 6 0 0 rfl).trans hd_) ?_
      have bx1_ : 0 ≤ S_.1 3 dd_ 4 ∧ S_.1 3 dd_ 4 ≤ 1013 := hI_.1 3 dd_ 4 rfl
      refine sm_T_go 1 (c1 := (69, [some (.inr (.inr (some (6, 0)))), some (.inl n_)], [.inl (S_.1 3 dd_ 4), .inl n_], S_)) rfl ?_
      refine sm_T_br (a := 3) (z := 46) rfl (fun cx2_ => ?_) (fun cx2_ => ?_)
      · have cx2_ : (S_.1 3 dd_ 4) ≤ n_ := of_decide_eq_true cx2_
        refine sm_T_go 2 (c1 := (117, [some (.inr (.inr (some (6, 0)))), some (.inl 0)], [], S_)) rfl ?_
        refine ih_.2.2 0 S_ hI_ hF_ ⟨?_, ?_, ?_, trivial⟩ ?_
        · intro q9_ hq9_
          have w9_ := hu_ q9_ hq9_
          rw [if_neg (by omega), w9_]
          unfold usn
          rw [show n_.toNat - F_ = (S0_.1 3 dd_ 4).toNat - F_ by omega]
        · omega
        · intro i_ u_ w_
          exact ⟨fun q9_ => by (exfalso; omega), fun _ => hq_ i_ u_ w_⟩
        · omega
      · have cx2_ : ¬ ((S_.1 3 dd_ 4) ≤ n_) := of_decide_eq_false cx2_
        refine sm_T_go 3 (c1 := (77, [some (.inr (.inr (some (6, 0)))), some (.inl n_)], [.inl n_, .inr (.inr (some (59, 0)))], S_)) rfl ?_
        refine sm_T_iald (n := 1013) rfl rfl (by omega) (by omega) ?_
        have bx3_ : 0 ≤ S_.2.2.1 59 0 n_.toNat ∧ S_.2.2.1 59 0 n_.toNat ≤ 1 := hI_.2 59 0 _
        refine sm_T_b0 (a := 0) (z := 31) rfl (fun cx4_ => ?_) (fun cx4_ => ?_)
        · have cx4_ : (S_.2.2.1 59 0 n_.toNat) = 0 := of_decide_eq_true cx4_
          refine sm_T_inc (a := 1) (z := 1) (v := n_) (w := n_ + 1) rfl rfl (by omega) (by omega) (by omega) ?_ -- pc_ 109
          refine sm_T_go 1 (c1 := (61, [some (.inr (.inr (some (6, 0)))), some (.inl (n_ + 1))], [], S_)) rfl ?_
          refine ih_.2.1 (n_ + 1) S_ hI_ hF_ ⟨?_, ?_, ?_, ?_, ?_, trivial⟩ ?_
          · intro q9_ hq9_
            have w9_ := hu_ q9_ hq9_
            have nf9_ := hnf_ n_.toNat (by omega)
            have f59_ : S_.2.2.1 59 0 = S0_.2.2.1 59 0 := fr_arr hF_ rfl
            have fb9_ : (ndf F_ (S0_.1 3 dd_ 4).toNat (S0_.1 3 dd_ 3 + S0_.1 3 dd_ 2).toNat (S0_.2.2.1 44 (0 + dd_)) (S0_.2.2.1 42 (0 + dd_)) (S0_.2.2.1 43 (0 + dd_)) (fun j_ => rtv dd_ S0_ (j_ : Int))) n_.toNat ≠ true := fun z9_ => by (have y9_ := nf9_.2.mpr z9_; rw [← f59_] at y9_; omega)
            rw [w9_, show (n_ + 1).toNat - F_ = (n_.toNat - F_) + 1 by omega]
            show _ = ((2 * rcn (S0_.2.2.1 44 (0 + dd_)) (fun j_ => rtv dd_ S0_ (j_ : Int)) (S0_.1 3 dd_ 3 + S0_.1 3 dd_ 2).toNat q9_ + (psm (pgn (S0_.2.2.1 44 (0 + dd_)) (S0_.2.2.1 42 (0 + dd_)) (S0_.2.2.1 43 (0 + dd_)) (ndf F_ (S0_.1 3 dd_ 4).toNat (S0_.1 3 dd_ 3 + S0_.1 3 dd_ 2).toNat (S0_.2.2.1 44 (0 + dd_)) (S0_.2.2.1 42 (0 + dd_)) (S0_.2.2.1 43 (0 + dd_)) (fun j_ => rtv dd_ S0_ (j_ : Int))) q9_) F_ (n_.toNat - F_) + pgn (S0_.2.2.1 44 (0 + dd_)) (S0_.2.2.1 42 (0 + dd_)) (S0_.2.2.1 43 (0 + dd_)) (ndf F_ (S0_.1 3 dd_ 4).toNat (S0_.1 3 dd_ 3 + S0_.1 3 dd_ 2).toNat (S0_.2.2.1 44 (0 + dd_)) (S0_.2.2.1 42 (0 + dd_)) (S0_.2.2.1 43 (0 + dd_)) (fun j_ => rtv dd_ S0_ (j_ : Int))) q9_ (F_ + (n_.toNat - F_))) : Nat) : Int)
            rw [show F_ + (n_.toNat - F_) = n_.toNat by omega]
            unfold pgn
            rw [if_neg fb9_]
            omega
          · omega
          · omega
          · first | (intro j_ hj_; rw [rd_eq]; have w9_ := hb6_ j_ hj_; split; (omega); (omega)) | (intro j_ hj_; have w9_ := hb_ j_ hj_; omega)
          · first | exact hq_ | (intro i_ u_ w_; rw [rd_eq]; have w9_ := hq6_ _ (hq_ i_ u_ w_); split; (rename_i z9_; rw [z9_] at w9_; omega); (exact w9_))
          · omega
        · have cx4_ : ¬ ((S_.2.2.1 59 0 n_.toNat) = 0) := of_decide_eq_false cx4_
          refine sm_T_go 4 (c1 := (87, [some (.inr (.inr (some (6, 0)))), some (.inl n_)], [.inl n_, .inr (.inr (some (6, 0))), .inr (.inr (some (60, 0)))], S_)) rfl ?_
          refine sm_T_cal (d1 := 1) (Q1 := vq_92 n_ dd_ S_) rfl rfl (by decide) (vc_92 n_ dd_ S_ hI_ (by exact (hF_.2.1 6 0 0 rfl).trans hd_) (by omega)) (fun u_ Sx5_ px8_ => ?_)
          obtain ⟨rfl, vx10_, rfl, px8_⟩ := px8_
          have l87_ := px8_.1
          have v87_ : vx10_ = (srp dd_ S0_ (S0_.2.2.1 42 (0 + dd_) n_.toNat) : Int) := by (have q9_ := px8_.2 F_ (dgr_fr hg_ hF_ rfl rfl rfl rfl rfl) (swp_fr hs_ hF_ rfl rfl rfl rfl) (by omega) (by rw [hF_.1 3 dd_ 4 rfl]; omega); unfold srp at q9_ ⊢; rw [fr_arr (t := 44) (i := 0 + dd_) hF_ rfl, fr_arr (t := 42) (i := 0 + dd_) hF_ rfl] at q9_; exact q9_)
          have nf9_ := hnf_ n_.toNat (by omega)
          have n87_ : (vx10_).toNat = srp dd_ S0_ (S0_.2.2.1 42 (0 + dd_) n_.toNat) := by omega
          have hb8_ := hb_ (vx10_).toNat (by omega)
          refine sm_T_go 1 (c1 := (91, [some (.inr (.inr (some (6, 0)))), some (.inl n_)], [.inl vx10_, .inr (.inr (some (60, 0))), .inl vx10_, .inr (.inr (some (60, 0)))], S_)) rfl ?_
          refine sm_T_iald (n := 1013) rfl rfl (by omega) (by omega) ?_
          have bx11_ : (-2147483648) ≤ S_.2.2.1 60 0 vx10_.toNat ∧ S_.2.2.1 60 0 vx10_.toNat ≤ 2147483647 := hI_.2 60 0 _
          refine sm_T_go 1 (c1 := (93, [some (.inr (.inr (some (6, 0)))), some (.inl n_)], [.inl 1, .inl (S_.2.2.1 60 0 vx10_.toNat), .inl vx10_, .inr (.inr (some (60, 0)))], S_)) rfl ?_
          refine sm_T_bin (w := (S_.2.2.1 60 0 vx10_.toNat) + 1) rfl (bi_add (by omega) (by omega) (by omega)) ?_ -- pc_ 93
          refine sm_T_iast (n := 1013) rfl rfl (by omega) (by omega) ?_
          have hIx12_ : gi (sm_aI S_ 60 0 vx10_.toNat ((S_.2.2.1 60 0 vx10_.toNat) + 1)) := gi_aI hI_ (show (-2147483648) ≤ (S_.2.2.1 60 0 vx10_.toNat) + 1 ∧ (S_.2.2.1 60 0 vx10_.toNat) + 1 ≤ 2147483647 from ⟨by omega, by omega⟩)
          have hFx13_ : ai_fr (sx_W vw_95n) S0_ (sm_aI S_ 60 0 vx10_.toNat ((S_.2.2.1 60 0 vx10_.toNat) + 1)) := ai_fr_tr hF_ (ai_fr_aI rfl)
          refine sm_T_go 4 (c1 := (101, [some (.inr (.inr (some (6, 0)))), some (.inl n_)], [.inl n_, .inr (.inr (some (6, 0))), .inr (.inr (some (60, 0)))], sm_aI S_ 60 0 vx10_.toNat ((S_.2.2.1 60 0 vx10_.toNat) + 1))) rfl ?_
          refine sm_T_cal (d1 := 1) (Q1 := vq_93 n_ dd_ (sm_aI S_ 60 0 vx10_.toNat ((S_.2.2.1 60 0 vx10_.toNat) + 1))) rfl rfl (by decide) (vc_93 n_ dd_ (sm_aI S_ 60 0 vx10_.toNat ((S_.2.2.1 60 0 vx10_.toNat) + 1)) hIx12_ (by exact (hFx13_.2.1 6 0 0 rfl).trans hd_) (by omega)) (fun u_ Sx14_ px17_ => ?_)
          obtain ⟨rfl, vx19_, rfl, px17_⟩ := px17_
          have l101_ := px17_.1
          have v101_ : vx19_ = (srp dd_ S0_ (S0_.2.2.1 43 (0 + dd_) n_.toNat) : Int) := by (have q9_ := px17_.2 F_ (dgr_fr hg_ hFx13_ rfl rfl rfl rfl rfl) (swp_fr hs_ hFx13_ rfl rfl rfl rfl) (by omega) (by rw [hFx13_.1 3 dd_ 4 rfl]; omega); unfold srp at q9_ ⊢; rw [fr_arr (t := 44) (i := 0 + dd_) hFx13_ rfl, fr_arr (t := 43) (i := 0 + dd_) hFx13_ rfl] at q9_; exact q9_)
          have n101_ : (vx19_).toNat = srp dd_ S0_ (S0_.2.2.1 43 (0 + dd_) n_.toNat) := by omega
          have hb6_ : ∀ j_ : Nat, j_ < 1013 → 0 ≤ (sm_aI S_ 60 0 vx10_.toNat ((S_.2.2.1 60 0 vx10_.toNat) + 1)).2.2.1 60 0 j_ ∧ (sm_aI S_ 60 0 vx10_.toNat ((S_.2.2.1 60 0 vx10_.toNat) + 1)).2.2.1 60 0 j_ ≤ 101 + 2 * n_ := by (intro j_ hj_; rw [rd_eq]; have w9_ := hb_ j_ hj_; split; (omega); (omega))
          have hb7_ := hb6_ (vx19_).toNat (by omega)
          have hq6_ : ∀ j_ : Nat, 2 ≤ S_.2.2.1 60 0 j_ → 2 ≤ (sm_aI S_ 60 0 vx10_.toNat ((S_.2.2.1 60 0 vx10_.toNat) + 1)).2.2.1 60 0 j_ := by (intro j_ hj_; rw [rd_eq]; split; (rename_i z9_; rw [z9_] at hj_; omega); (omega))
          refine sm_T_go 1 (c1 := (105, [some (.inr (.inr (some (6, 0)))), some (.inl n_)], [.inl vx19_, .inr (.inr (some (60, 0))), .inl vx19_, .inr (.inr (some (60, 0)))], sm_aI S_ 60 0 vx10_.toNat ((S_.2.2.1 60 0 vx10_.toNat) + 1))) rfl ?_
          refine sm_T_iald (n := 1013) rfl rfl (by omega) (by omega) ?_
          have bx20_ : (-2147483648) ≤ (sm_aI S_ 60 0 vx10_.toNat ((S_.2.2.1 60 0 vx10_.toNat) + 1)).2.2.1 60 0 vx19_.toNat ∧ (sm_aI S_ 60 0 vx10_.toNat ((S_.2.2.1 60 0 vx10_.toNat) + 1)).2.2.1 60 0 vx19_.toNat ≤ 2147483647 := hIx12_.2 60 0 _
          refine sm_T_go 1 (c1 := (107, [some (.inr (.inr (some (6, 0)))), some (.inl n_)], [.inl 1, .inl ((sm_aI S_ 60 0 vx10_.toNat ((S_.2.2.1 60 0 vx10_.toNat) + 1)).2.2.1 60 0 vx19_.toNat), .inl vx19_, .inr (.inr (some (60, 0)))], sm_aI S_ 60 0 vx10_.toNat ((S_.2.2.1 60 0 vx10_.toNat) + 1))) rfl ?_
          refine sm_T_bin (w := ((sm_aI S_ 60 0 vx10_.toNat ((S_.2.2.1 60 0 vx10_.toNat) + 1)).2.2.1 60 0 vx19_.toNat) + 1) rfl (bi_add (by omega) (by omega) (by omega)) ?_ -- pc_ 107
          refine sm_T_iast (n := 1013) rfl rfl (by omega) (by omega) ?_
          have hIx21_ : gi (sm_aI (sm_aI S_ 60 0 vx10_.toNat ((S_.2.2.1 60 0 vx10_.toNat) + 1)) 60 0 vx19_.toNat (((sm_aI S_ 60 0 vx10_.toNat ((S_.2.2.1 60 0 vx10_.toNat) + 1)).2.2.1 60 0 vx19_.toNat) + 1)) := gi_aI hIx12_ (show (-2147483648) ≤ ((sm_aI S_ 60 0 vx10_.toNat ((S_.2.2.1 60 0 vx10_.toNat) + 1)).2.2.1 60 0 vx19_.toNat) + 1 ∧ ((sm_aI S_ 60 0 vx10_.toNat ((S_.2.2.1 60 0 vx10_.toNat) + 1)).2.2.1 60 0 vx19_.toNat) + 1 ≤ 2147483647 from ⟨by omega, by omega⟩)
          have hFx22_ : ai_fr (sx_W vw_95n) S0_ (sm_aI (sm_aI S_ 60 0 vx10_.toNat ((S_.2.2.1 60 0 vx10_.toNat) + 1)) 60 0 vx19_.toNat (((sm_aI S_ 60 0 vx10_.toNat ((S_.2.2.1 60 0 vx10_.toNat) + 1)).2.2.1 60 0 vx19_.toNat) + 1)) := ai_fr_tr hFx13_ (ai_fr_aI rfl)
          refine sm_T_inc (a := 1) (z := 1) (v := n_) (w := n_ + 1) rfl rfl (by omega) (by omega) (by omega) ?_ -- pc_ 109
          refine sm_T_go 1 (c1 := (61, [some (.inr (.inr (some (6, 0)))), some (.inl (n_ + 1))], [], sm_aI (sm_aI S_ 60 0 vx10_.toNat ((S_.2.2.1 60 0 vx10_.toNat) + 1)) 60 0 vx19_.toNat (((sm_aI S_ 60 0 vx10_.toNat ((S_.2.2.1 60 0 vx10_.toNat) + 1)).2.2.1 60 0 vx19_.toNat) + 1))) rfl ?_
          refine ih_.2.1 (n_ + 1) (sm_aI (sm_aI S_ 60 0 vx10_.toNat ((S_.2.2.1 60 0 vx10_.toNat) + 1)) 60 0 vx19_.toNat (((sm_aI S_ 60 0 vx10_.toNat ((S_.2.2.1 60 0 vx10_.toNat) + 1)).2.2.1 60 0 vx19_.toNat) + 1)) hIx21_ hFx22_ ⟨?_, ?_, ?_, ?_, ?_, trivial⟩ ?_
          · intro q9_ hq9_
            have w9_ := hu_ q9_ hq9_
            have f59_ : S_.2.2.1 59 0 = S0_.2.2.1 59 0 := fr_arr hF_ rfl
            have tb9_ : (ndf F_ (S0_.1 3 dd_ 4).toNat (S0_.1 3 dd_ 3 + S0_.1 3 dd_ 2).toNat (S0_.2.2.1 44 (0 + dd_)) (S0_.2.2.1 42 (0 + dd_)) (S0_.2.2.1 43 (0 + dd_)) (fun j_ => rtv dd_ S0_ (j_ : Int))) n_.toNat = true := nf9_.2.mp (by (rcases nf9_.1 with y9_ | y9_; (rw [← f59_] at y9_; exfalso; omega); exact y9_))
            rw [show (n_ + 1).toNat - F_ = (n_.toNat - F_) + 1 by omega]
            show _ = ((2 * rcn (S0_.2.2.1 44 (0 + dd_)) (fun j_ => rtv dd_ S0_ (j_ : Int)) (S0_.1 3 dd_ 3 + S0_.1 3 dd_ 2).toNat q9_ + (psm (pgn (S0_.2.2.1 44 (0 + dd_)) (S0_.2.2.1 42 (0 + dd_)) (S0_.2.2.1 43 (0 + dd_)) (ndf F_ (S0_.1 3 dd_ 4).toNat (S0_.1 3 dd_ 3 + S0_.1 3 dd_ 2).toNat (S0_.2.2.1 44 (0 + dd_)) (S0_.2.2.1 42 (0 + dd_)) (S0_.2.2.1 43 (0 + dd_)) (fun j_ => rtv dd_ S0_ (j_ : Int))) q9_) F_ (n_.toNat - F_) + pgn (S0_.2.2.1 44 (0 + dd_)) (S0_.2.2.1 42 (0 + dd_)) (S0_.2.2.1 43 (0 + dd_)) (ndf F_ (S0_.1 3 dd_ 4).toNat (S0_.1 3 dd_ 3 + S0_.1 3 dd_ 2).toNat (S0_.2.2.1 44 (0 + dd_)) (S0_.2.2.1 42 (0 + dd_)) (S0_.2.2.1 43 (0 + dd_)) (fun j_ => rtv dd_ S0_ (j_ : Int))) q9_ (F_ + (n_.toNat - F_))) : Nat) : Int)
            rw [show F_ + (n_.toNat - F_) = n_.toNat by omega]
            unfold pgn
            rw [if_pos tb9_, rd_eq, rd_eq, rd_eq, n87_, n101_]
            exact (inc2 w9_).trans (congrArg (fun x_ : Nat => (x_ : Int)) (Nat.add_assoc _ _ _))
          · omega
          · omega
          · first | (intro j_ hj_; rw [rd_eq]; have w9_ := hb6_ j_ hj_; split; (omega); (omega)) | (intro j_ hj_; have w9_ := hb_ j_ hj_; omega)
          · first | exact hq_ | (intro i_ u_ w_; rw [rd_eq]; have w9_ := hq6_ _ (hq_ i_ u_ w_); split; (rename_i z9_; rw [z9_] at w9_; omega); (exact w9_))
          · omega
    · rintro n_ S_ hI_ hF_ ⟨hu_, h0_, hq2_, -⟩ hm_
      have r1_ := hr_.1
      have c1_ : 0 ≤ S_.1 3 dd_ 1 ∧ S_.1 3 dd_ 1 ≤ 320 := hI_.1 3 dd_ 1 rfl
      have n13_ : 0 ≤ S_.1 3 dd_ 4 ∧ S_.1 3 dd_ 4 ≤ 1013 := hI_.1 3 dd_ 4 rfl
      have f1_ : S_.1 3 dd_ 1 = S0_.1 3 dd_ 1 := hF_.1 3 dd_ 1 rfl
      have f2_ : S_.1 3 dd_ 2 = S0_.1 3 dd_ 2 := hF_.1 3 dd_ 2 rfl
      have f3_ : S_.1 3 dd_ 3 = S0_.1 3 dd_ 3 := hF_.1 3 dd_ 3 rfl
      have f4_ : S_.1 3 dd_ 4 = S0_.1 3 dd_ 4 := hF_.1 3 dd_ 4 rfl
      have g1_ := hg_.1
      have f44_ : S_.2.2.1 44 (0 + dd_) = S0_.2.2.1 44 (0 + dd_) := fr_arr hF_ rfl
      have f45_ : S_.2.2.1 45 (0 + dd_) = S0_.2.2.1 45 (0 + dd_) := fr_arr hF_ rfl
      have f46_ : S_.2.2.1 46 (0 + dd_) = S0_.2.2.1 46 (0 + dd_) := fr_arr hF_ rfl
      refine sm_T_go 2 (c1 := (119, [some (.inr (.inr (some (6, 0)))), some (.inl n_)], [.inr (.inr (some (6, 0))), .inl n_], S_)) rfl ?_
      refine sm_T_gr rfl rfl ((hF_.2.1 6 0 0 rfl).trans hd_) ?_
      have bx1_ : 0 ≤ S_.1 3 dd_ 4 ∧ S_.1 3 dd_ 4 ≤ 1013 := hI_.1 3 dd_ 4 rfl
      refine sm_T_go 1 (c1 := (125, [some (.inr (.inr (some (6, 0)))), some (.inl n_)], [.inl (S_.1 3 dd_ 4), .inl n_], S_)) rfl ?_
      refine sm_T_br (a := 3) (z := 30) rfl (fun cx2_ => ?_) (fun cx2_ => ?_)
      · have cx2_ : (S_.1 3 dd_ 4) ≤ n_ := of_decide_eq_true cx2_
        refine sm_T_rv rfl ⟨_, _, rfl, rfl, hI_, hF_, ?_⟩
        refine ⟨fun q9_ hq9_ => by (have w9_ := hu_ q9_ hq9_; rw [if_pos (by omega)] at w9_; exact w9_), ?_⟩
        intro i_ u_ w_
        have z9_ := (hq2_ i_ u_ w_).1
        have zb_ := (rtv_b hr_ hs_ u_ w_).2
        have z7_ := z9_ (by omega)
        omega
      · have cx2_ : ¬ ((S_.1 3 dd_ 4) ≤ n_) := of_decide_eq_false cx2_
        refine sm_T_go 6 (c1 := (138, [some (.inr (.inr (some (6, 0)))), some (.inl n_)], [.inl n_, .inr (.inr (some (60, 0))), .inl n_, .inr (.inr (some (60, 0)))], S_)) rfl ?_
        refine sm_T_iald (n := 1013) rfl rfl (by omega) (by omega) ?_
        have bx3_ : (-2147483648) ≤ S_.2.2.1 60 0 n_.toNat ∧ S_.2.2.1 60 0 n_.toNat ≤ 2147483647 := hI_.2 60 0 _
        refine sm_T_go 1 (c1 := (140, [some (.inr (.inr (some (6, 0)))), some (.inl n_)], [.inl 1, .inl (S_.2.2.1 60 0 n_.toNat), .inl n_, .inr (.inr (some (60, 0)))], S_)) rfl ?_
        refine sm_T_br (a := 5) (z := 7) rfl (fun cx4_ => ?_) (fun cx4_ => ?_)
        · have cx4_ : (S_.2.2.1 60 0 n_.toNat) ≤ 1 := of_decide_eq_true cx4_
          refine sm_T_go 1 (c1 := (148, [some (.inr (.inr (some (6, 0)))), some (.inl n_)], [.inl 0, .inl n_, .inr (.inr (some (60, 0)))], S_)) rfl ?_
          refine sm_T_iast (n := 1013) rfl rfl (by omega) (by omega) ?_
          have hIx5_ : gi (sm_aI S_ 60 0 n_.toNat 0) := gi_aI hI_ (show (-2147483648) ≤ 0 ∧ 0 ≤ 2147483647 from ⟨by omega, by omega⟩)
          have hFx6_ : ai_fr (sx_W vw_95n) S0_ (sm_aI S_ 60 0 n_.toNat 0) := ai_fr_tr hF_ (ai_fr_aI rfl)
          refine sm_T_inc (a := 1) (z := 1) (v := n_) (w := n_ + 1) rfl rfl (by omega) (by omega) (by omega) ?_ -- pc_ 149
          refine sm_T_go 1 (c1 := (117, [some (.inr (.inr (some (6, 0)))), some (.inl (n_ + 1))], [], sm_aI S_ 60 0 n_.toNat 0)) rfl ?_
          refine ih_.2.2 (n_ + 1) (sm_aI S_ 60 0 n_.toNat 0) hIx5_ hFx6_ ⟨?_, ?_, ?_, trivial⟩ ?_
          · intro q9_ hq9_
            have w9_ := hu_ q9_ hq9_
            rw [rd_eq]
            by_cases z9_ : q9_ = n_.toNat
            · rw [if_pos z9_, if_pos (show (q9_ : Int) < n_ + 1 by omega)]; rw [if_neg (show ¬ (q9_ : Int) < n_ by omega)] at w9_; rw [z9_] at w9_ ⊢; first | (rw [if_pos (by omega)]) | (rw [if_neg (by omega)])
            · rw [if_neg z9_, w9_]; by_cases y9_ : (q9_ : Int) < n_
              · rw [if_pos y9_, if_pos (show (q9_ : Int) < n_ + 1 by omega)]
              · rw [if_neg y9_, if_neg (show ¬ (q9_ : Int) < n_ + 1 by omega)]
          · omega
          · intro i_ u_ w_
            have z9_ := hq2_ i_ u_ w_
            rw [rd_eq]
            by_cases y_ : (srp dd_ S0_ (rtv dd_ S0_ i_) : Int) = n_
            · have z8_ := z9_.2 (by omega)
              rw [if_pos (by omega)]
              refine ⟨fun _ => ?_, fun q9_ => ?_⟩
              · first | rfl | (exfalso; have z6_ : srp dd_ S0_ (rtv dd_ S0_ i_) = n_.toNat := (by omega); rw [z6_] at z8_; omega)
              · exfalso; omega
            · rw [if_neg (by omega)]
              exact ⟨fun q9_ => z9_.1 (by omega), fun q9_ => z9_.2 (by omega)⟩
          · omega
        · have cx4_ : ¬ ((S_.2.2.1 60 0 n_.toNat) ≤ 1) := of_decide_eq_false cx4_
          refine sm_T_go 2 (c1 := (148, [some (.inr (.inr (some (6, 0)))), some (.inl n_)], [.inl 1, .inl n_, .inr (.inr (some (60, 0)))], S_)) rfl ?_
          refine sm_T_iast (n := 1013) rfl rfl (by omega) (by omega) ?_
          have hIx7_ : gi (sm_aI S_ 60 0 n_.toNat 1) := gi_aI hI_ (show (-2147483648) ≤ 1 ∧ 1 ≤ 2147483647 from ⟨by omega, by omega⟩)
          have hFx8_ : ai_fr (sx_W vw_95n) S0_ (sm_aI S_ 60 0 n_.toNat 1) := ai_fr_tr hF_ (ai_fr_aI rfl)
          refine sm_T_inc (a := 1) (z := 1) (v := n_) (w := n_ + 1) rfl rfl (by omega) (by omega) (by omega) ?_ -- pc_ 149
          refine sm_T_go 1 (c1 := (117, [some (.inr (.inr (some (6, 0)))), some (.inl (n_ + 1))], [], sm_aI S_ 60 0 n_.toNat 1)) rfl ?_
          refine ih_.2.2 (n_ + 1) (sm_aI S_ 60 0 n_.toNat 1) hIx7_ hFx8_ ⟨?_, ?_, ?_, trivial⟩ ?_
          · intro q9_ hq9_
            have w9_ := hu_ q9_ hq9_
            rw [rd_eq]
            by_cases z9_ : q9_ = n_.toNat
            · rw [if_pos z9_, if_pos (show (q9_ : Int) < n_ + 1 by omega)]; rw [if_neg (show ¬ (q9_ : Int) < n_ by omega)] at w9_; rw [z9_] at w9_ ⊢; first | (rw [if_pos (by omega)]) | (rw [if_neg (by omega)])
            · rw [if_neg z9_, w9_]; by_cases y9_ : (q9_ : Int) < n_
              · rw [if_pos y9_, if_pos (show (q9_ : Int) < n_ + 1 by omega)]
              · rw [if_neg y9_, if_neg (show ¬ (q9_ : Int) < n_ + 1 by omega)]
          · omega
          · intro i_ u_ w_
            have z9_ := hq2_ i_ u_ w_
            rw [rd_eq]
            by_cases y_ : (srp dd_ S0_ (rtv dd_ S0_ i_) : Int) = n_
            · have z8_ := z9_.2 (by omega)
              rw [if_pos (by omega)]
              refine ⟨fun _ => ?_, fun q9_ => ?_⟩
              · first | rfl | (exfalso; have z6_ : srp dd_ S0_ (rtv dd_ S0_ i_) = n_.toNat := (by omega); rw [z6_] at z8_; omega)
              · exfalso; omega
            · rw [if_neg (by omega)]
              exact ⟨fun q9_ => z9_.1 (by omega), fun q9_ => z9_.2 (by omega)⟩
          · omega
set_option maxHeartbeats 3000000 in
theorem vc_95n {sc_ : Nat × (Nat → Int)} (dd_ : Nat) (F_ : Nat) (S0_ : sm_S) (hI_ : gi S0_) (hd_ : S0_.2.1 6 0 0 = some dd_) (hr_ : drt dd_ S0_) (hg_ : dgr dd_ F_ S0_) (hs_ : swp dd_ F_ S0_) (hnf_ : ∀ q9_ : Nat, (q9_ : Int) < S0_.1 3 dd_ 4 → (S0_.2.2.1 59 0 q9_ = 0 ∨ S0_.2.2.1 59 0 q9_ = 1) ∧ (S0_.2.2.1 59 0 q9_ = 1 ↔ (ndf F_ (S0_.1 3 dd_ 4).toNat (S0_.1 3 dd_ 3 + S0_.1 3 dd_ 2).toNat (S0_.2.2.1 44 (0 + dd_)) (S0_.2.2.1 42 (0 + dd_)) (S0_.2.2.1 43 (0 + dd_)) (fun j_ => rtv dd_ S0_ (j_ : Int))) q9_ = true)) : sm_T (mt_P sc_) 2 95 (0, [some (.inr (.inr (some (6, 0)))), none], [], S0_) (fun ro9_ => ∃ u_ S1_, ro9_ = (.inl u_, S1_, 0) ∧ vq_95n dd_ F_ S0_ u_ S1_) := by
  have hF_ : ai_fr (sx_W vw_95n) S0_ S0_ := ai_fr_rf
  have r1_ := hr_.1
  have g1_ := hg_.1
  refine sm_T_go 3 (c1 := (5, [some (.inr (.inr (some (6, 0)))), none], [.inl 0, .inr (.inr (some (60, 0)))], S0_)) rfl ?_
  refine sm_T_cal (d1 := 0) (Q1 := vq_2r0 0 S0_) rfl rfl (by decide) (vc_2r0 0 S0_ hI_ (by decide)) (fun u_ Sx1_ px4_ => ?_)
  obtain ⟨rfl, hIx2_, hFx3_, px4_⟩ := px4_
  have hFx5_ : ai_fr (sx_W vw_95n) S0_ Sx1_ := ai_fr_tr hF_ (fr_le hFx3_ rfl)
  have e5_ := px4_
  refine sm_T_go 2 (c1 := (10, [some (.inr (.inr (some (6, 0)))), some (.inl 0)], [], Sx1_)) rfl ?_
  refine (vl_95n dd_ F_ S0_ hd_ hr_ hg_ hs_ hnf_ _).1 0 Sx1_ hIx2_ hFx5_ ⟨?_, ?_, ?_, ?_, trivial⟩ (Nat.lt_succ_self _)
  · (intro q9_ hq9_; have c9_ := hg_.2.1; have c8_ := hg_.1.2.1; rw [e5_ q9_ (by omega)]; rfl)
  · omega
  · (intro j_ hj_; rw [e5_ j_ hj_]; omega)
  · (intro i_ u_ w_; exfalso; omega)
end
