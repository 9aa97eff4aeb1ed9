/-! 99.ztZ -/
section
/-! what design keeps: the class; written by wip/p55/gen/vg -/
/-! Builder.takeOutputs -/
def vw_45n : sx_Wl := ([], [45], [])
def vq_45n (m_ : Int) (tb_ : Nat → Int) (tn_ : Nat) (A_ : pA) (mm_ : Nat) (dd_ : Nat) (e_ : gE) (N_ : Nat) (S0_ : sm_S) (u_ : Option sm_V) (S1_ : sm_S) : Prop := u_ = none ∧ gi S1_ ∧ ai_fr (sx_W vw_45n) S0_ S1_ ∧ (idf dd_ S0_ S1_ ∧ ((∀ k9_ : Nat, (k9_ : Int) < su (t_in A_ 1 mm_) (A_.1 mm_) → 0 ≤ S1_.2.2.1 45 (0 + dd_) k9_ ∧ S1_.2.2.1 45 (0 + dd_) k9_ < 2 * (N_ : Int)) ∧ otr A_ mm_ (A_.1 mm_) e_ (S1_.2.2.1 45 (0 + dd_))))
set_option maxHeartbeats 1000000 in
theorem vl_45n {sc_ : Nat × (Nat → Int)} (m_ : Int) (tb_ : Nat → Int) (tn_ : Nat) (A_ : pA) (mm_ : Nat) (dd_ : Nat) (e_ : gE) (N_ : Nat) (S0_ : sm_S) (hd_ : S0_.2.1 1 0 1 = some dd_) (hm1_ : m_ = (mm_ : Int) ∧ mm_ ≤ 15) (her_ : er1 tb_ tn_ A_ mm_ S0_) (hA_ : a_ok tb_ tn_ A_ mm_) (hsu_ : su (t_in A_ 1 mm_) (A_.1 mm_) ≤ 16) (hE_ : ∀ s9_, s9_ < 40 → rwv (S0_.2.2.1 26 0) (8 * s9_) (e_ s9_)) (hln_ : ∀ s9_, s9_ < A_.1 mm_ → A_.2.2.1 (40 * mm_ + s9_) ≠ 5 → ((e_ s9_).length : Int) = A_.2.2.2.1 (40 * mm_ + s9_)) (hlw_ : ∀ s9_, lwl N_ (e_ s9_)) : ∀ nn_ : Nat, (∀ (md_ : Int) (s_ : Int) (S_ : sm_S), gi S_ → ai_fr (sx_W vw_45n) S0_ S_ → ((0 ≤ s_ ∧ s_ ≤ (A_.1 mm_ : Int) ∧ md_ = su (t_in A_ 1 mm_) s_.toNat) ∧ (∀ k9_ : Nat, (k9_ : Int) < md_ → 0 ≤ S_.2.2.1 45 (0 + dd_) k9_ ∧ S_.2.2.1 45 (0 + dd_) k9_ < 2 * (N_ : Int)) ∧ (otr A_ mm_ s_.toNat e_ (S_.2.2.1 45 (0 + dd_))) ∧ (idf dd_ S0_ S_) ∧ True) → (((A_.1 mm_ : Int) - s_).toNat) < nn_ → sm_T (mt_P sc_) 1 45 (4, [some (.inr (.inr (some (1, 0)))), some (.inl m_), some (.inl md_), some (.inl s_), none], [], S_) (fun ro9_ => ∃ u_ S1_, ro9_ = (.inl u_, S1_, 0) ∧ vq_45n m_ tb_ tn_ A_ mm_ dd_ e_ N_ S0_ u_ S1_)) := by
  intro nn_
  induction nn_ with
  | zero => exact fun _ _ _ _ _ _ h_ => absurd h_ (Nat.not_lt_zero _)
  | succ nn_ ih_ =>
    rintro md_ s_ S_ hI_ hF_ ⟨h0_, h1_, h2_, hD_, -⟩ hm_
    have A40_ := (hA_.2 mm_ (Nat.le_refl _)).1
    have cn_ : S_.2.2.1 77 0 m_.toNat = (A_.1 mm_ : Int) := by rw [fr_arr (t := 77) (i := 0) hF_ rfl, show m_.toNat = mm_ by omega]; exact her_.1
    have cb_ := su_el (f_ := t_in A_ 1 mm_) (k_ := A_.1 mm_) (fun j_ hj_ => by have z_ := ((hA_.2 mm_ (Nat.le_refl _)).2 j_ hj_).2.2.1; unfold t_in; split <;> omega)
    have sv_ : s_ < (A_.1 mm_ : Int) → S_.2.2.1 79 0 (40 * m_ + s_).toNat = A_.2.2.1 (40 * mm_ + s_.toNat) ∧ S_.2.2.1 80 0 (40 * m_ + s_).toNat = A_.2.2.2.1 (40 * mm_ + s_.toNat) := by intro z_; rw [fr_arr (t := 79) (i := 0) hF_ rfl, fr_arr (t := 80) (i := 0) hF_ rfl, show (40 * m_ + s_).toNat = 40 * mm_ + s_.toNat by omega]; exact ⟨(her_.2 s_.toNat (by omega)).2.1, (her_.2 s_.toNat (by omega)).2.2.1⟩
    have s1_ : s_ < (A_.1 mm_ : Int) → su (t_in A_ 1 mm_) (s_.toNat + 1) = su (t_in A_ 1 mm_) s_.toNat + t_in A_ 1 mm_ s_.toNat ∧ su (t_in A_ 1 mm_) (s_.toNat + 1) ≤ su (t_in A_ 1 mm_) (A_.1 mm_) ∧ 0 ≤ su (t_in A_ 1 mm_) s_.toNat := fun z_ => ⟨rfl, (cb_.2.2 (s_.toNat + 1) (by omega)).2, (cb_.2.2 s_.toNat (by omega)).1⟩
    refine sm_T_go 5 (c1 := (13, [some (.inr (.inr (some (1, 0)))), some (.inl m_), some (.inl md_), some (.inl s_), none], [.inl m_, .inr (.inr (some (77, 0))), .inl s_], S_)) rfl ?_
    refine sm_T_iald (n := 17) rfl rfl (by omega) (by omega) ?_
    have bx1_ : 0 ≤ S_.2.2.1 77 0 m_.toNat ∧ S_.2.2.1 77 0 m_.toNat ≤ 40 := hI_.2 77 0 _
    refine sm_T_br (a := 3) (z := 70) rfl (fun cx2_ => ?_) (fun cx2_ => ?_)
    · have cx2_ : (S_.2.2.1 77 0 m_.toNat) ≤ s_ := of_decide_eq_true cx2_
      refine sm_T_rv rfl ⟨_, _, rfl, rfl, hI_, hF_, ?_⟩
      refine ⟨hD_, ?_⟩
      refine ⟨fun k9_ hk9_ => h1_ k9_ (by rw [show (A_.1 mm_) = s_.toNat by omega] at hk9_; omega), ?_⟩
      rw [show (A_.1 mm_) = s_.toNat by omega]
      exact h2_
    · have cx2_ : ¬ ((S_.2.2.1 77 0 m_.toNat) ≤ s_) := of_decide_eq_false cx2_
      obtain ⟨sv1_, sv2_⟩ := sv_ (by omega)
      have s2_ := s1_ (by omega)
      have wb := ((hA_.2 mm_ (Nat.le_refl _)).2 s_.toNat (by omega)).2.2.1
      refine sm_T_go 5 (c1 := (27, [some (.inr (.inr (some (1, 0)))), some (.inl m_), some (.inl md_), some (.inl s_), none], [.inl 40, .inl m_, .inr (.inr (some (79, 0)))], S_)) rfl ?_
      refine sm_T_bin (w := 40 * m_) rfl (bi_mul (by omega) (by omega) (by omega)) ?_
      refine sm_T_go 1 (c1 := (29, [some (.inr (.inr (some (1, 0)))), some (.inl m_), some (.inl md_), some (.inl s_), none], [.inl s_, .inl (40 * m_), .inr (.inr (some (79, 0)))], S_)) rfl ?_
      refine sm_T_bin (w := 40 * m_ + s_) rfl (bi_add (by omega) (by omega) (by omega)) ?_
      refine sm_T_iald (n := 640) rfl rfl (by omega) (by omega) ?_
      have bx3_ : 0 ≤ S_.2.2.1 79 0 (40 * m_ + s_).toNat ∧ S_.2.2.1 79 0 (40 * m_ + s_).toNat ≤ 5 := hI_.2 79 0 _
      refine sm_T_go 1 (c1 := (32, [some (.inr (.inr (some (1, 0)))), some (.inl m_), some (.inl md_), some (.inl s_), none], [.inl 1, .inl (S_.2.2.1 79 0 (40 * m_ + s_).toNat)], S_)) rfl ?_
      refine sm_T_br (a := 1) (z := 46) rfl (fun cx4_ => ?_) (fun cx4_ => ?_)
      · have cx4_ : (S_.2.2.1 79 0 (40 * m_ + s_).toNat) ≠ 1 := of_decide_eq_true cx4_
        have t9_ : t_in A_ 1 mm_ s_.toNat = 0 := by unfold t_in; rw [if_neg (by omega)]
        refine sm_T_inc (a := 3) (z := 1) (v := s_) (w := s_ + 1) rfl rfl (by omega) (by omega) (by omega) ?_
        refine sm_T_go 1 (c1 := (4, [some (.inr (.inr (some (1, 0)))), some (.inl m_), some (.inl md_), some (.inl (s_ + 1)), none], [], S_)) rfl ?_
        refine ih_ md_ (s_ + 1) S_ hI_ hF_ ⟨?_, ?_, ?_, ?_, trivial⟩ ?_
        · (rw [show (s_ + 1).toNat = s_.toNat + 1 by omega]; omega)
        · exact fun k9_ hk9_ => h1_ k9_ (by omega)
        · rw [show (s_ + 1).toNat = s_.toNat + 1 by omega]
          exact otr_s (k_ := 0) h2_ (fun q9_ => by omega)
        · exact hD_
        · omega
      · have cx4_ : ¬ ((S_.2.2.1 79 0 (40 * m_ + s_).toNat) ≠ 1) := of_decide_eq_false cx4_
        have t9_ : t_in A_ 1 mm_ s_.toNat = A_.2.2.2.1 (40 * mm_ + s_.toNat) := by unfold t_in; rw [if_pos (by omega)]
        refine sm_T_go 5 (c1 := (45, [some (.inr (.inr (some (1, 0)))), some (.inl m_), some (.inl md_), some (.inl s_), none], [.inl 40, .inl m_, .inr (.inr (some (80, 0)))], S_)) rfl ?_
        refine sm_T_bin (w := 40 * m_) rfl (bi_mul (by omega) (by omega) (by omega)) ?_
        refine sm_T_go 1 (c1 := (47, [some (.inr (.inr (some (1, 0)))), some (.inl m_), some (.inl md_), some (.inl s_), none], [.inl s_, .inl (40 * m_), .inr (.inr (some (80, 0)))], S_)) rfl ?_
        refine sm_T_bin (w := 40 * m_ + s_) rfl (bi_add (by omega) (by omega) (by omega)) ?_
        refine sm_T_iald (n := 640) rfl rfl (by omega) (by omega) ?_
        have bx5_ : 0 ≤ S_.2.2.1 80 0 (40 * m_ + s_).toNat ∧ S_.2.2.1 80 0 (40 * m_ + s_).toNat ≤ 8 := hI_.2 80 0 _
        refine sm_T_go 5 (c1 := (57, [some (.inr (.inr (some (1, 0)))), some (.inl m_), some (.inl md_), some (.inl s_), some (.inl (S_.2.2.1 80 0 (40 * m_ + s_).toNat))], [.inl s_, .inl 0, .inr (.inr (some (26, 0)))], S_)) rfl ?_
        refine sm_T_cal (d1 := 0) (Q1 := vq_35 0 s_ S_) rfl rfl (by decide) (vc_35 0 s_ S_ hI_ (by decide) (by omega)) (fun u_ Sx6_ px9_ => ?_)
        obtain ⟨rfl, vx11_, rfl, px9_⟩ := px9_
        have e57_ := px9_
        refine sm_T_go 1 (c1 := (61, [some (.inr (.inr (some (1, 0)))), some (.inl m_), some (.inl md_), some (.inl s_), some (.inl (S_.2.2.1 80 0 (40 * m_ + s_).toNat))], [.inr (.inr (some (1, 0))), .inl vx11_, .inr (.inr (some (26, 0)))], S_)) rfl ?_
        refine sm_T_gr rfl rfl ((hF_.2.1 1 0 1 rfl).trans hd_) ?_
        refine sm_T_go 3 (c1 := (70, [some (.inr (.inr (some (1, 0)))), some (.inl m_), some (.inl md_), some (.inl s_), some (.inl (S_.2.2.1 80 0 (40 * m_ + s_).toNat))], [.inl (S_.2.2.1 80 0 (40 * m_ + s_).toNat), .inl md_, .inr (.inr (some (45, (0 + dd_)))), .inl vx11_, .inr (.inr (some (26, 0)))], S_)) rfl ?_
        refine sm_T_nt (u := none) (S1 := sm_acI S_ 26 0 45 (0 + dd_) vx11_.toNat md_.toNat (S_.2.2.1 80 0 (40 * m_ + s_).toNat).toNat) rfl rfl (nt_acI (sc := sc_) (t := 26) (i := 0) (t' := 45) (i' := (0 + dd_)) (x := vx11_) (y := md_) (m := (S_.2.2.1 80 0 (40 * m_ + s_).toNat)) (n := 64320) (n1 := 16) rfl rfl (by omega) (by omega) (by omega) (by omega) (by omega)) ?_
        have hIx12_ : gi (sm_acI S_ 26 0 45 (0 + dd_) vx11_.toNat md_.toNat (S_.2.2.1 80 0 (40 * m_ + s_).toNat).toNat) := gi_ac hI_ (by decide) (by decide)
        have hFx13_ : ai_fr (sx_W vw_45n) S0_ (sm_acI S_ 26 0 45 (0 + dd_) vx11_.toNat md_.toNat (S_.2.2.1 80 0 (40 * m_ + s_).toNat).toNat) := ai_fr_tr hF_ (fr_ac rfl)
        have hDx14_ : idf dd_ S0_ (sm_acI S_ 26 0 45 (0 + dd_) vx11_.toNat md_.toNat (S_.2.2.1 80 0 (40 * m_ + s_).toNat).toNat) := idf_ac hD_ (Or.inr rfl)
        refine sm_T_go 2 (c1 := (76, [some (.inr (.inr (some (1, 0)))), some (.inl m_), some (.inl md_), some (.inl s_), some (.inl (S_.2.2.1 80 0 (40 * m_ + s_).toNat))], [.inl (S_.2.2.1 80 0 (40 * m_ + s_).toNat), .inl md_], sm_acI S_ 26 0 45 (0 + dd_) vx11_.toNat md_.toNat (S_.2.2.1 80 0 (40 * m_ + s_).toNat).toNat)) rfl ?_
        refine sm_T_bin (w := md_ + (S_.2.2.1 80 0 (40 * m_ + s_).toNat)) rfl (bi_add (by omega) (by omega) (by omega)) ?_
        refine sm_T_go 1 (c1 := (78, [some (.inr (.inr (some (1, 0)))), some (.inl m_), some (.inl (md_ + (S_.2.2.1 80 0 (40 * m_ + s_).toNat))), some (.inl s_), some (.inl (S_.2.2.1 80 0 (40 * m_ + s_).toNat))], [], sm_acI S_ 26 0 45 (0 + dd_) vx11_.toNat md_.toNat (S_.2.2.1 80 0 (40 * m_ + s_).toNat).toNat)) rfl ?_
        refine sm_T_inc (a := 3) (z := 1) (v := s_) (w := s_ + 1) rfl rfl (by omega) (by omega) (by omega) ?_
        refine sm_T_go 1 (c1 := (4, [some (.inr (.inr (some (1, 0)))), some (.inl m_), some (.inl (md_ + (S_.2.2.1 80 0 (40 * m_ + s_).toNat))), some (.inl (s_ + 1)), some (.inl (S_.2.2.1 80 0 (40 * m_ + s_).toNat))], [], sm_acI S_ 26 0 45 (0 + dd_) vx11_.toNat md_.toNat (S_.2.2.1 80 0 (40 * m_ + s_).toNat).toNat)) rfl ?_
        refine sm_T_wk [some (.inr (.inr (some (1, 0)))), some (.inl m_), some (.inl (md_ + (S_.2.2.1 80 0 (40 * m_ + s_).toNat))), some (.inl (s_ + 1)), none] (by exact ⟨rfl, rfl, rfl, rfl, trivial⟩) ?_
        refine ih_ (md_ + (S_.2.2.1 80 0 (40 * m_ + s_).toNat)) (s_ + 1) (sm_acI S_ 26 0 45 (0 + dd_) vx11_.toNat md_.toNat (S_.2.2.1 80 0 (40 * m_ + s_).toNat).toNat) hIx12_ hFx13_ ⟨?_, ?_, ?_, ?_, trivial⟩ ?_
        · (rw [show (s_ + 1).toNat = s_.toNat + 1 by omega]; omega)
        · intro k9_ hk9_
          rw [sm_acI_at]
          unfold sm_cp
          have hl9_ := hln_ s_.toNat (by omega) (by omega)
          split
          · rename_i w9_
            have e9_ := rwv_lz (hE_ s_.toNat (by omega)) (hlw_ s_.toNat) (k_ := k9_ - md_.toNat) (by omega)
            rw [fr_arr (t := 26) (i := 0) hF_ rfl, show (_ : Int).toNat + (k9_ - md_.toNat) = 8 * s_.toNat + (k9_ - md_.toNat) from by omega]
            exact e9_
          · exact h1_ k9_ (by omega)
        · rw [show (s_ + 1).toNat = s_.toNat + 1 by omega, sm_acI_at]
          have hl9_ := hln_ s_.toNat (by omega) (by omega)
          refine otr_s (k_ := (A_.2.2.2.1 (40 * mm_ + s_.toNat)).toNat) (otr_cg hA_ (by omega) hln_ h2_ (fun j9_ hj9_ => sm_cp_o (by omega))) (fun q9_ => ⟨by omega, fun j9_ z9_ h9_ e9_ => ?_⟩)
          unfold sm_cp
          have v9_ := hE_ s_.toNat (by omega) j9_ z9_ e9_
          rw [if_pos (by omega), fr_arr (t := 26) (i := 0) hF_ rfl, show (_ : Int).toNat + ((su (t_in A_ 1 mm_) s_.toNat).toNat + j9_ - md_.toNat) = 8 * s_.toNat + j9_ from by omega]
          exact v9_
        · exact hDx14_
        · omega
set_option maxHeartbeats 1000000 in
theorem vc_45n {sc_ : Nat × (Nat → Int)} (m_ : Int) (tb_ : Nat → Int) (tn_ : Nat) (A_ : pA) (mm_ : Nat) (dd_ : Nat) (e_ : gE) (N_ : Nat) (S0_ : sm_S) (hI_ : gi S0_) (hd_ : S0_.2.1 1 0 1 = some dd_) (hm1_ : m_ = (mm_ : Int) ∧ mm_ ≤ 15) (her_ : er1 tb_ tn_ A_ mm_ S0_) (hA_ : a_ok tb_ tn_ A_ mm_) (hsu_ : su (t_in A_ 1 mm_) (A_.1 mm_) ≤ 16) (hE_ : ∀ s9_, s9_ < 40 → rwv (S0_.2.2.1 26 0) (8 * s9_) (e_ s9_)) (hln_ : ∀ s9_, s9_ < A_.1 mm_ → A_.2.2.1 (40 * mm_ + s9_) ≠ 5 → ((e_ s9_).length : Int) = A_.2.2.2.1 (40 * mm_ + s9_)) (hlw_ : ∀ s9_, lwl N_ (e_ s9_)) : sm_T (mt_P sc_) 1 45 (0, [some (.inr (.inr (some (1, 0)))), some (.inl m_), none, none, none], [], S0_) (fun ro9_ => ∃ u_ S1_, ro9_ = (.inl u_, S1_, 0) ∧ vq_45n m_ tb_ tn_ A_ mm_ dd_ e_ N_ S0_ u_ S1_) := by
  have hF_ : ai_fr (sx_W vw_45n) S0_ S0_ := ai_fr_rf
  have hD_ : idf dd_ S0_ S0_ := idf_rf
  refine sm_T_go 4 (c1 := (4, [some (.inr (.inr (some (1, 0)))), some (.inl m_), some (.inl 0), some (.inl 0), none], [], S0_)) rfl ?_
  refine (vl_45n m_ tb_ tn_ A_ mm_ dd_ e_ N_ S0_ hd_ hm1_ her_ hA_ hsu_ hE_ hln_ hlw_ _) 0 0 S0_ hI_ hF_ ⟨?_, ?_, ?_, ?_, trivial⟩ (Nat.lt_succ_self _)
  · exact ⟨by decide, by omega, rfl⟩
  · (intro k9_ hk9_; omega)
  · (intro s9_ hs9_; exact absurd hs9_ (Nat.not_lt_zero _))
  · exact hD_

/-- the_ class keeps outputs, next values and beginning of_ a_ text -/
def dcn (dd_ : Nat) (r_ : pD) (z_ : gQ × gE) (S_ : sm_S) : Prop := S_.1 3 dd_ 5 = (dnx r_).2 ∧ (∀ i_, i_ < d_R r_ → S_.2.2.1 46 (0 + dd_) i_ = (dnx r_).1 i_) ∧ otr r_.1 (d_tp r_) (r_.1.1 (d_tp r_)) z_.2 (S_.2.2.1 45 (0 + dd_))
theorem dcn_fr {w_ : sx_Wl} {dd_ : Nat} {r_ : pD} {z_ : gQ × gE} {S_ S'_ : sm_S} (h_ : dcn dd_ r_ z_ S_) (g_ : ai_fr (sx_W w_) S_ S'_) (h1_ : (sx_W w_).1 3 5 = false := by rfl) (h2_ : (sx_W w_).2.1 46 = false := by rfl) (h3_ : (sx_W w_).2.1 45 = false := by rfl) : dcn dd_ r_ z_ S'_ := by
  unfold dcn
  rw [g_.1 3 dd_ 5 h1_, fr_arr (t := 46) g_ h2_, fr_arr (t := 45) g_ h3_]
  exact h_
/-- whom the_ nodes of_ the_ class's design stand for_ -/
def dcs (dd_ F_ : Nat) (S_ : sm_S) : Prop := glo F_ (S_.1 3 dd_ 4).toNat (S_.2.2.1 42 (0 + dd_)) (S_.2.2.1 43 (0 + dd_)) ∧ swd F_ (S_.1 3 dd_ 4).toNat (S_.2.2.1 42 (0 + dd_)) (S_.2.2.1 43 (0 + dd_)) (S_.2.2.1 44 (0 + dd_)) ∧ drt dd_ S_
theorem dcs_fr {w_ : sx_Wl} {dd_ F_ : Nat} {S_ S'_ : sm_S} (h_ : dcs dd_ F_ S_) (g_ : ai_fr (sx_W w_) S_ S'_) (h1_ : (sx_W w_).1 3 4 = false := by rfl) (h2_ : (sx_W w_).2.1 42 = false := by rfl) (h3_ : (sx_W w_).2.1 43 = false := by rfl) (h4_ : (sx_W w_).2.1 44 = false := by rfl) (h5_ : (sx_W w_).1 3 3 = false := by rfl) (h6_ : (sx_W w_).1 3 2 = false := by rfl) (h7_ : (sx_W w_).2.1 45 = false := by rfl) (h8_ : (sx_W w_).2.1 46 = false := by rfl) : dcs dd_ F_ S'_ := by
  obtain ⟨a1_, a2_, a3_⟩ := h_
  refine ⟨?_, ?_, drt_fr a3_ g_ h5_ h6_ h1_ h7_ h8_⟩
  · rw [g_.1 3 dd_ 4 h1_, fr_arr (t := 42) g_ h2_, fr_arr (t := 43) g_ h3_]; exact a1_
  · rw [g_.1 3 dd_ 4 h1_, fr_arr (t := 42) g_ h2_, fr_arr (t := 43) g_ h3_, fr_arr (t := 44) g_ h4_]; exact a2_
theorem cxn_0 {dd_ F_ I_ f_ fc_ : Nat} {G_ : pGr} {k_ : Nat} {E_ : gE} {O_ : gO} {V_ : gV} {S_ : sm_S} (h_ : cxs dd_ F_ I_ f_ fc_ ((G_, 0, k_), E_, O_, V_) S_) : cxn dd_ 0 nx0 S_ := by
  have q_ := h_.2.2.2.2.2.2.2.2.2.1
  have q1_ : S_.1 3 dd_ 5 < 2 ^ 0 := q_.2
  have q2_ : (2 : Int) ^ 0 = 1 := rfl
  refine ⟨?_, fun i_ hi_ => absurd hi_ (Nat.not_lt_zero _)⟩
  show S_.1 3 dd_ 5 = 0
  omega

/-! Builder.build -/
def vw_31n : sx_Wl := ([(1, 3), (1, 6), (1, 8), (1, 9), (1, 13), (3, 0), (3, 1), (3, 2), (3, 3), (3, 4), (3, 5), (3, 6), (3, 7), (3, 8), (3, 9), (10, 6), (10, 7)], [26, 27, 28, 29, 30, 31, 32, 33, 42, 43, 44, 45, 46, 47], [(1, 1)])
def vq_31n (b_ : Nat → Int) (n_ : Nat) (r_ : pD) (dd_ : Nat) (S0_ : sm_S) (u_ : Option sm_V) (S1_ : sm_S) : Prop := u_ = none ∧ gi S1_ ∧ ai_fr (sx_W vw_31n) S0_ S1_ ∧ (idf dd_ S0_ S1_ ∧ (d_lm r_ = 0 ∧ (∃ z_, d_gr r_ z_ ∧ z_.1.1.length ≤ 1000 ∧ dgx dd_ r_ z_ S1_ ∧ dcn dd_ r_ z_ S1_ ∧ S1_.1 3 dd_ 6 = (dnx r_).2 ∧ dcs dd_ (1 + d_I r_ + d_R r_) S1_ ∧ dct dd_ (1 + d_I r_ + d_R r_) S1_) ∧ S1_.1 3 dd_ 0 = 1 ∧ dOk dd_ S1_))
def vx_31n (b_ : Nat → Int) (n_ : Nat) (r_ : pD) (dd_ : Nat) (S0_ : sm_S) (S1_ : sm_S) : Prop := gi S1_ ∧ ai_fr (sx_W vw_31n) S0_ S1_ ∧ (idf dd_ S0_ S1_ ∧ (∃ e_, dfl r_ e_ ∧ ter S1_ e_) ∧ S1_.1 3 dd_ 0 = S0_.1 3 dd_ 0)
set_option maxHeartbeats 4000000 in
theorem vc_31n {sc_ : Nat × (Nat → Int)} (b_ : Nat → Int) (n_ : Nat) (r_ : pD) (dd_ : Nat) (S0_ : sm_S) (hI_ : gi S0_) (hr_ : p_de b_ n_ = .inr r_) (hb_ : br b_ n_ r_.1 r_.2.1 r_.2.2.1 r_.2.2.2.2 S0_) (hmc_ : ∀ k_ : Nat, k_ ≤ r_.2.2.1 → S0_.2.2.1 76 0 k_ = (r_.2.2.2.1 k_ : Int)) (h1_ : 1 ≤ r_.2.2.1) (hn_ : n_ ≤ 1280) : sm_T (mt_P sc_) 27 31 (0, [some (.inr (.inr (some (1, 0)))), some (.inr (.inr (some (3, dd_)))), none, none, none], [], S0_) (fun ro9_ => (∃ u_ S1_, ro9_ = (.inl u_, S1_, 0) ∧ vq_31n b_ n_ r_ dd_ S0_ u_ S1_) ∨ ∃ S1_, ro9_ = (.inr 2, S1_, 1) ∧ vx_31n b_ n_ r_ dd_ S0_ S1_) := by
  have hF_ : ai_fr (sx_W vw_31n) S0_ S0_ := ai_fr_rf
  have hD_ : idf dd_ S0_ S0_ := idf_rf
  obtain ⟨b1_, b2_, ba_, b4_, b5_⟩ := hb_
  have tp9_ : d_tp r_ + 1 = r_.2.2.1 := by unfold d_tp; omega
  have tn9_ : (d_tp r_ : Int) = S0_.1 7 0 3 - 1 := by omega
  have nm9_ := b4_.2 (d_tp r_) (by omega)
  have nm8_ : S0_.2.2.1 75 0 (S0_.1 7 0 3 - 1).toNat = ((16 * r_.2.1 (d_tp r_) + lx_sz b_ n_ (r_.2.1 (d_tp r_)) : Nat) : Int) := by rw [show (S0_.1 7 0 3 - 1).toNat = d_tp r_ by omega]; exact nm9_.1
  have nm7_ := nm9_.2.1
  have nm6_ := nmp_sz nm9_.2
  have cc0_ := ccd_of hn_ hr_ b5_ hI_ hmc_
  clear nm9_
  have hIx1_ : gi (sm_pR S0_ 1 0 1 (some dd_)) := gi_pR hI_
  have hFx2_ : ai_fr (sx_W vw_31n) S0_ (sm_pR S0_ 1 0 1 (some dd_)) := ai_fr_tr hF_ (ai_fr_pR rfl)
  have tx3_ : (sm_pR S0_ 1 0 1 (some dd_)).2.1 1 0 1 = some dd_ := (sm_up_self (f := S0_.2.1) (t := 1) (i := 0) (k := 1) (v := some dd_))
  have hDx4_ : idf dd_ S0_ (sm_pR S0_ 1 0 1 (some dd_)) := idf_pR hD_
  have bx5_ : 0 ≤ S0_.1 7 0 3 ∧ S0_.1 7 0 3 ≤ 16 := hI_.1 7 0 3 rfl
  refine sm_T_go 7 (c1 := (13, [some (.inr (.inr (some (1, 0)))), some (.inr (.inr (some (3, dd_)))), none, none, none], [.inl 1, .inl (S0_.1 7 0 3)], sm_pR S0_ 1 0 1 (some dd_))) rfl ?_
  refine sm_T_bin (w := (S0_.1 7 0 3) - 1) rfl (bi_sub (by omega) (by omega) (by omega)) ?_
  refine sm_T_go 2 (c1 := (16, [some (.inr (.inr (some (1, 0)))), some (.inr (.inr (some (3, dd_)))), some (.inl ((S0_.1 7 0 3) - 1)), none, none], [.inl ((S0_.1 7 0 3) - 1)], sm_pR S0_ 1 0 1 (some dd_))) rfl ?_
  refine sm_T_b0 (a := 3) (z := 4) rfl (fun cx6_ => ?_) (fun cx6_ => ?_)
  · have cx6_ : 0 ≤ (S0_.1 7 0 3) - 1 := of_decide_eq_true cx6_
    refine sm_T_go 4 (c1 := (28, [some (.inr (.inr (some (1, 0)))), some (.inr (.inr (some (3, dd_)))), some (.inl ((S0_.1 7 0 3) - 1)), none, none], [.inl ((S0_.1 7 0 3) - 1), .inr (.inr (some (75, 0)))], sm_pR S0_ 1 0 1 (some dd_))) rfl ?_
    refine sm_T_iald (n := 16) rfl rfl (by omega) (by omega) ?_
    have bx7_ : 0 ≤ S0_.2.2.1 75 0 ((S0_.1 7 0 3) - 1).toNat ∧ S0_.2.2.1 75 0 ((S0_.1 7 0 3) - 1).toNat ≤ 65535 := hI_.2 75 0 _
    refine sm_T_go 1 (c1 := (30, [some (.inr (.inr (some (1, 0)))), some (.inr (.inr (some (3, dd_)))), some (.inl ((S0_.1 7 0 3) - 1)), none, none], [.inl 4, .inl (S0_.2.2.1 75 0 ((S0_.1 7 0 3) - 1).toNat)], sm_pR S0_ 1 0 1 (some dd_))) rfl ?_
    refine sm_T_bin (w := ((S0_.2.2.1 75 0 ((S0_.1 7 0 3) - 1).toNat) / 16)) rfl (bi_shr (k := 4) (by decide) (by omega) (by omega)) ?_
    refine sm_T_go 3 (c1 := (34, [some (.inr (.inr (some (1, 0)))), some (.inr (.inr (some (3, dd_)))), some (.inl ((S0_.1 7 0 3) - 1)), some (.inl ((S0_.2.2.1 75 0 ((S0_.1 7 0 3) - 1).toNat) / 16)), none], [.inl ((S0_.1 7 0 3) - 1), .inr (.inr (some (1, 0)))], sm_pR S0_ 1 0 1 (some dd_))) rfl ?_
    refine sm_T_cal (d1 := 1) (Q1 := vq_32d ((S0_.1 7 0 3) - 1) b_ n_ r_.1 (d_tp r_) dd_ (sm_pR S0_ 1 0 1 (some dd_))) rfl rfl (by decide) (vc_32d ((S0_.1 7 0 3) - 1) b_ n_ r_.1 (d_tp r_) dd_ (sm_pR S0_ 1 0 1 (some dd_)) hIx1_ (by omega) (by (intro k9_ h9_; exact er1_fr (ba_ k9_ (by omega)).2 (ai_fr_pR (W_ := sx_W ([], [], [(1, 1)])) rfl) rfl rfl rfl rfl rfl)) (by exact (ba_ _ (by omega)).1) (by exact tx3_)) (fun u_ Sx8_ px11_ => ?_)
    obtain ⟨vx13_, rfl, hIx9_, hFx10_, px11_⟩ := px11_
    have hFx12_ : ai_fr (sx_W vw_31n) S0_ Sx8_ := ai_fr_tr hFx2_ (fr_le hFx10_ rfl)
    obtain ⟨dx15_, px11_⟩ := px11_
    have hDx14_ : idf dd_ S0_ Sx8_ := idf_tr hDx4_ dx15_
    have tx16_ : Sx8_.2.1 1 0 1 = some dd_ := (hFx10_.2.1 1 0 1 rfl).trans tx3_
    have e34_ := px11_
    have us34_ : Sx8_.1 3 dd_ 0 = S0_.1 3 dd_ 0 := hFx10_.1 3 dd_ 0 rfl
    have gu_ := g_uq (fun m9_ h9_ => (ba_ m9_ h9_).1) (r_ := Sx8_.2.2.1 31 0) (i_ := Sx8_.2.2.1 30 0) (fun m9_ h9_ => ⟨(e34_.2.1 m9_ (by omega)).2, (e34_.2.1 m9_ (by omega)).1⟩) (d_tp r_ + 1) (d_tp r_) (by omega) (by omega)
    have lm_ : vx13_ = d_lm r_ := by rw [e34_.1, gu_.1, gu_.2]; rfl
    have e34c := e34_.2.2
    have er34_ : ∀ k9_, k9_ ≤ d_tp r_ → er1 b_ n_ r_.1 k9_ Sx8_ := fun k9_ h9_ => er1_fr (ba_ k9_ (by omega)).2 hFx12_ rfl rfl rfl rfl rfl
    have lmb_ : 0 ≤ vx13_ ∧ vx13_ ≤ 22 := by rw [lm_]; exact lm_b
    clear e34_
    refine sm_T_go 2 (c1 := (41, [some (.inr (.inr (some (1, 0)))), some (.inr (.inr (some (3, dd_)))), some (.inl ((S0_.1 7 0 3) - 1)), some (.inl ((S0_.2.2.1 75 0 ((S0_.1 7 0 3) - 1).toNat) / 16)), some (.inl vx13_)], [.inl vx13_], Sx8_)) rfl ?_
    refine sm_T_b0 (a := 0) (z := 16) rfl (fun cx17_ => ?_) (fun cx17_ => ?_)
    · have cx17_ : vx13_ = 0 := of_decide_eq_true cx17_
      have l0_ : d_lm r_ = 0 := by omega
      obtain ⟨z_, hz_, zR_, zl_⟩ := d_zz hn_ hr_ l0_
      have l9_ := lm_0 l0_
      obtain ⟨i1_, i2_, i3_, i4_, i5_⟩ := d_in hn_ hr_
      obtain ⟨a1_, a2_, a3_⟩ := e34c (by omega)
      have a2b := a2_.trans gu_.1
      refine sm_T_go 2 (c1 := (59, [some (.inr (.inr (some (1, 0)))), some (.inr (.inr (some (3, dd_)))), some (.inl ((S0_.1 7 0 3) - 1)), some (.inl ((S0_.2.2.1 75 0 ((S0_.1 7 0 3) - 1).toNat) / 16)), some (.inl vx13_)], [.inl ((S0_.1 7 0 3) - 1), .inr (.inr (some (1, 0)))], Sx8_)) rfl ?_
      refine sm_T_cal (d1 := 1) (Q1 := vq_34 ((S0_.1 7 0 3) - 1) b_ n_ r_.1 (d_tp r_) dd_ (1 + d_I r_ + d_R r_) (d_I r_) Sx8_) rfl rfl (by decide) (vc_34 ((S0_.1 7 0 3) - 1) b_ n_ r_.1 (d_tp r_) dd_ (1 + d_I r_ + d_R r_) (d_I r_) Sx8_ hIx9_ (by exact tx16_) (by omega) (by omega) (by omega) (by exact er34_ _ (Nat.le_refl _)) (by exact (ba_ _ (by omega)).1) (by omega)) (fun u_ Sx18_ px21_ => ?_)
      obtain ⟨rfl, hIx19_, hFx20_, px21_⟩ := px21_
      have hFx22_ : ai_fr (sx_W vw_31n) S0_ Sx18_ := ai_fr_tr hFx12_ (fr_le hFx20_ rfl)
      obtain ⟨dx24_, px21_⟩ := px21_
      have hDx23_ : idf dd_ S0_ Sx18_ := idf_tr hDx14_ dx24_
      have tx25_ : Sx18_.2.1 1 0 1 = some dd_ := (hFx20_.2.1 1 0 1 rfl).trans tx16_
      have e59_ := px21_
      have us59_ : Sx18_.1 3 dd_ 0 = S0_.1 3 dd_ 0 := (hFx20_.1 3 dd_ 0 rfl).trans us34_
      have er59_ : ∀ k9_, k9_ ≤ d_tp r_ → er1 b_ n_ r_.1 k9_ Sx18_ := fun k9_ h9_ => er1_fr (ba_ k9_ (by omega)).2 hFx22_ rfl rfl rfl rfl rfl
      have cc59_ : ccd (dC r_) (d_tp r_) Sx18_ := ccd_fr cc0_ (Nat.le_refl _) hFx22_ rfl rfl
      have n59_ := hFx20_.1 3 dd_ 3 rfl
      have m59_ := hFx20_.1 3 dd_ 2 rfl
      have o59_ := hFx20_.1 3 dd_ 1 rfl
      refine sm_T_go 4 (c1 := (66, [some (.inr (.inr (some (1, 0)))), some (.inr (.inr (some (3, dd_)))), some (.inl ((S0_.1 7 0 3) - 1)), some (.inl ((S0_.2.2.1 75 0 ((S0_.1 7 0 3) - 1).toNat) / 16)), some (.inl vx13_)], [.inl 0, .inl 0, .inl ((S0_.1 7 0 3) - 1), .inr (.inr (some (1, 0)))], Sx18_)) rfl ?_
      refine sm_T_cal (d1 := 26) (Q1 := vq_36n ((S0_.1 7 0 3) - 1) 0 0 b_ n_ r_.1 (dC r_) (d_tp r_) 0 dd_ (1 + d_I r_ + d_R r_) (d_I r_) ([], 0, 1) (ein r_.1 (d_tp r_)) z_ nx0 (dnx r_) 0 Sx18_) rfl rfl (by decide) (vc_36nx 16 ((S0_.1 7 0 3) - 1) 0 0 b_ n_ r_.1 (dC r_) (d_tp r_) 0 dd_ (1 + d_I r_ + d_R r_) (d_I r_) ([], 0, 1) (ein r_.1 (d_tp r_)) z_ nx0 (dnx r_) 0 Sx18_ hIx19_ (by exact hIx19_) (by exact tx25_) (by omega) (by rfl) (by omega) (by exact er59_) (by exact (ba_ _ (by omega)).1) (by exact cc59_) (by exact e59_) (by decide) (by (rw [zR_]; omega)) (by exact ⟨by omega, fun k9_ x9_ y9_ q9_ => by simp at q9_⟩) (by exact fun a9_ => ein_w (ba_ _ (by omega)).1 (by omega) (Nat.le_refl _) a9_) (by exact cxn_0 e59_) (by exact hz_) (by exact rfl)) (fun u_ Sx26_ px29_ => ?_)
      obtain ⟨rfl, hIx27_, hFx28_, px29_⟩ := px29_
      have hFx30_ : ai_fr (sx_W vw_31n) S0_ Sx26_ := ai_fr_tr hFx22_ (fr_le hFx28_ rfl)
      obtain ⟨dx32_, px29_⟩ := px29_
      have hDx31_ : idf dd_ S0_ Sx26_ := idf_tr hDx23_ dx32_
      have tx33_ : Sx26_.2.1 1 0 1 = some dd_ := (hFx28_.2.1 1 0 1 rfl).trans tx25_
      have e66_ := px29_
      have us66_ : Sx26_.1 3 dd_ 0 = S0_.1 3 dd_ 0 := (hFx28_.1 3 dd_ 0 rfl).trans us59_
      have cf66_ := cgl_f e66_.1
      have n66_ := hFx28_.1 3 dd_ 3 rfl
      have m66_ := hFx28_.1 3 dd_ 2 rfl
      have o66_ := hFx28_.1 3 dd_ 1 rfl
      have er66_ := er1_fr (er59_ (d_tp r_) (Nat.le_refl _)) hFx28_ rfl rfl rfl rfl rfl
      have bx34_ : 0 ≤ Sx26_.1 1 0 8 ∧ Sx26_.1 1 0 8 ≤ 1 := hIx27_.1 1 0 8 rfl
      refine sm_T_go 2 (c1 := (73, [some (.inr (.inr (some (1, 0)))), some (.inr (.inr (some (3, dd_)))), some (.inl ((S0_.1 7 0 3) - 1)), some (.inl ((S0_.2.2.1 75 0 ((S0_.1 7 0 3) - 1).toNat) / 16)), some (.inl vx13_)], [.inl (Sx26_.1 1 0 8)], Sx26_)) rfl ?_
      refine sm_T_b0 (a := 0) (z := 16) rfl (fun cx35_ => ?_) (fun cx35_ => ?_)
      · have cx35_ : (Sx26_.1 1 0 8) = 0 := of_decide_eq_true cx35_
        have zk_ : z_.1.1.length ≤ 1000 := cf66_.1.mp (by omega)
        obtain ⟨o1_, -, xn_⟩ := e66_.2 zk_
        have ww_ := (exm_w 16 _ _ _ _ hz_).2.2 (by omega) (by omega) ⟨by omega, fun k9_ x9_ y9_ q9_ => by simp at q9_⟩ (fun a9_ => ein_w (ba_ _ (by omega)).1 (by omega) (Nat.le_refl _) a9_)
        have nd_ := cgl_n e66_.1 zk_
        have cn66_ : cxn dd_ (d_R r_) (dnx r_) Sx26_ := by rw [← zR_]; exact xn_
        have gx_ : dgx dd_ r_ z_ Sx26_ := ⟨⟨by omega, by omega, by omega, nd_⟩, (cgl_x e66_.1 zk_).2.2.2.2.2.1⟩
        have dg : dgr dd_ (1 + d_I r_ + d_R r_) Sx26_ := cgx_dgr (cgl_x e66_.1 zk_) ww_.1 (by omega) (by omega)
        refine sm_T_go 2 (c1 := (91, [some (.inr (.inr (some (1, 0)))), some (.inr (.inr (some (3, dd_)))), some (.inl ((S0_.1 7 0 3) - 1)), some (.inl ((S0_.2.2.1 75 0 ((S0_.1 7 0 3) - 1).toNat) / 16)), some (.inl vx13_)], [.inl ((S0_.1 7 0 3) - 1), .inr (.inr (some (1, 0)))], Sx26_)) rfl ?_
        refine sm_T_cal (d1 := 1) (Q1 := vq_45n ((S0_.1 7 0 3) - 1) b_ n_ r_.1 (d_tp r_) dd_ z_.2 ((1 + d_I r_ + d_R r_) + z_.1.1.length) Sx26_) rfl rfl (by decide) (vc_45n ((S0_.1 7 0 3) - 1) b_ n_ r_.1 (d_tp r_) dd_ z_.2 ((1 + d_I r_ + d_R r_) + z_.1.1.length) Sx26_ hIx27_ (by exact tx33_) (by omega) (by exact er66_) (by exact (ba_ _ (by omega)).1) (by omega) (by (intro s9_ h9_; have w9_ := (o1_.2.2.2.2.2.2 s9_ h9_).1; rw [show 8 * (40 * 0 + s9_) = 8 * s9_ by omega] at w9_; exact w9_)) (by exact zl_) (by exact ww_.2)) (fun u_ Sx36_ px39_ => ?_)
        obtain ⟨rfl, hIx37_, hFx38_, px39_⟩ := px39_
        have hFx40_ : ai_fr (sx_W vw_31n) S0_ Sx36_ := ai_fr_tr hFx30_ (fr_le hFx38_ rfl)
        obtain ⟨dx42_, px39_⟩ := px39_
        have hDx41_ : idf dd_ S0_ Sx36_ := idf_tr hDx31_ dx42_
        have tx43_ : Sx36_.2.1 1 0 1 = some dd_ := (hFx38_.2.1 1 0 1 rfl).trans tx33_
        have ex44_ : Sx36_.1 1 0 8 = Sx26_.1 1 0 8 := hFx38_.1 1 0 8 rfl
        have e91_ := (px39_).1
        have xn91_ := cxn_fr cn66_ hFx38_
        have cy91_ : dcn dd_ r_ z_ Sx36_ := ⟨xn91_.1, xn91_.2, (px39_).2⟩
        have n91_ := hFx38_.1 3 dd_ 3 rfl
        have m91_ := hFx38_.1 3 dd_ 2 rfl
        have nd91_ := hFx38_.1 3 dd_ 4 rfl
        have gx91_ := dgx_fr gx_ hFx38_ rfl rfl rfl rfl rfl rfl
        have dg91_ := dgr_fr dg hFx38_ rfl rfl rfl rfl rfl
        have dr91_ : drt dd_ Sx36_ := ⟨by omega, fun k9_ h9_ => by rw [nd91_, nd_]; exact e91_ k9_ (by omega), fun k9_ h9_ => by rw [nd91_, fr_arr (t := 46) hFx38_ rfl]; exact o1_.1.2 k9_ (by rw [zR_]; omega)⟩
        have bg91_ : 0 ≤ Sx36_.1 3 dd_ 5 ∧ Sx36_.1 3 dd_ 5 < 2 ^ (Sx36_.1 3 dd_ 2).toNat := by rw [hFx38_.1 3 dd_ 5 rfl, show (Sx36_.1 3 dd_ 2).toNat = z_.1.2.1 by rw [zR_]; omega]; exact o1_.1.1
        refine sm_T_go 1 (c1 := (95, [some (.inr (.inr (some (1, 0)))), some (.inr (.inr (some (3, dd_)))), some (.inl ((S0_.1 7 0 3) - 1)), some (.inl ((S0_.2.2.1 75 0 ((S0_.1 7 0 3) - 1).toNat) / 16)), some (.inl vx13_)], [.inr (.inr (some (1, 0)))], Sx36_)) rfl ?_
        refine sm_T_cal (d1 := 1) (Q1 := vq_46 dd_ (1 + d_I r_ + d_R r_) Sx36_) rfl rfl (by decide) (vc_46 dd_ (1 + d_I r_ + d_R r_) Sx36_ hIx37_ (by exact tx43_) (by exact dg91_) (by exact dr91_)) (fun u_ Sx45_ px48_ => ?_)
        obtain ⟨rfl, hIx46_, hFx47_, px48_⟩ := px48_
        have hFx49_ : ai_fr (sx_W vw_31n) S0_ Sx45_ := ai_fr_tr hFx40_ (fr_le hFx47_ rfl)
        obtain ⟨dx51_, px48_⟩ := px48_
        have hDx50_ : idf dd_ S0_ Sx45_ := idf_tr hDx41_ dx51_
        have tx52_ : Sx45_.2.1 1 0 1 = some dd_ := (hFx47_.2.1 1 0 1 rfl).trans tx43_
        have cy95_ := dcn_fr cy91_ hFx47_
        have gx95_ := dgx_fr gx91_ hFx47_ rfl rfl rfl rfl rfl rfl
        have dg95_ := dgr_fr dg91_ hFx47_ rfl rfl rfl rfl rfl
        have dr95_ := drt_fr dr91_ hFx47_ rfl rfl rfl rfl rfl
        have bg95_ : 0 ≤ Sx45_.1 3 dd_ 5 ∧ Sx45_.1 3 dd_ 5 < 2 ^ (Sx45_.1 3 dd_ 2).toNat := by rw [hFx47_.1 3 dd_ 5 rfl, hFx47_.1 3 dd_ 2 rfl]; exact bg91_
        refine sm_T_go 1 (c1 := (99, [some (.inr (.inr (some (1, 0)))), some (.inr (.inr (some (3, dd_)))), some (.inl ((S0_.1 7 0 3) - 1)), some (.inl ((S0_.2.2.1 75 0 ((S0_.1 7 0 3) - 1).toNat) / 16)), some (.inl vx13_)], [.inr (.inr (some (1, 0)))], Sx45_)) rfl ?_
        refine sm_T_cal (d1 := 1) (Q1 := vq_47n dd_ (1 + d_I r_ + d_R r_) Sx45_) rfl rfl (by decide) (vc_47n dd_ (1 + d_I r_ + d_R r_) Sx45_ hIx46_ (by exact tx52_) (by exact dg95_)) (fun u_ Sx53_ px56_ => ?_)
        obtain ⟨rfl, hIx54_, hFx55_, px56_⟩ := px56_
        have hFx57_ : ai_fr (sx_W vw_31n) S0_ Sx53_ := ai_fr_tr hFx49_ (fr_le hFx55_ rfl)
        obtain ⟨dx59_, px56_⟩ := px56_
        have hDx58_ : idf dd_ S0_ Sx53_ := idf_tr hDx50_ dx59_
        have tx60_ : Sx53_.2.1 1 0 1 = some dd_ := (hFx55_.2.1 1 0 1 rfl).trans tx52_
        have sw99_ := (px56_).1
        have sr99_ := (px56_).2
        have sq99_ := swq_d (by omega) sr99_
        have cy99_ := dcn_fr cy95_ hFx55_
        have gx99_ := dgx_fr gx95_ hFx55_ rfl rfl rfl rfl rfl rfl
        have dg99_ := dgr_fr dg95_ hFx55_ rfl rfl rfl rfl rfl
        have cs99_ : dcs dd_ (1 + d_I r_ + d_R r_) Sx53_ := ⟨glo_of dg99_ (by have g9_ := dg99_.2.1; omega), sq99_, drt_fr dr95_ hFx55_ rfl rfl rfl rfl rfl⟩
        have dr99_ := drt_fr dr95_ hFx55_ rfl rfl rfl rfl rfl
        have bg99_ : 0 ≤ Sx53_.1 3 dd_ 5 ∧ Sx53_.1 3 dd_ 5 < 2 ^ (Sx53_.1 3 dd_ 2).toNat := by rw [hFx55_.1 3 dd_ 5 rfl, hFx55_.1 3 dd_ 2 rfl]; exact bg95_
        refine sm_T_go 1 (c1 := (103, [some (.inr (.inr (some (1, 0)))), some (.inr (.inr (some (3, dd_)))), some (.inl ((S0_.1 7 0 3) - 1)), some (.inl ((S0_.2.2.1 75 0 ((S0_.1 7 0 3) - 1).toNat) / 16)), some (.inl vx13_)], [.inr (.inr (some (1, 0)))], Sx53_)) rfl ?_
        refine sm_T_cal (d1 := 1) (Q1 := vq_51n dd_ (1 + d_I r_ + d_R r_) Sx53_) rfl rfl (by decide) (vc_51n dd_ (1 + d_I r_ + d_R r_) Sx53_ hIx54_ (by exact tx60_) (by exact dg99_) (by exact dr99_)) (fun u_ Sx61_ px64_ => ?_)
        obtain ⟨rfl, hIx62_, hFx63_, px64_⟩ := px64_
        have hFx65_ : ai_fr (sx_W vw_31n) S0_ Sx61_ := ai_fr_tr hFx57_ (fr_le hFx63_ rfl)
        obtain ⟨dx67_, px64_⟩ := px64_
        have hDx66_ : idf dd_ S0_ Sx61_ := idf_tr hDx58_ dx67_
        have tx68_ : Sx61_.2.1 1 0 1 = some dd_ := (hFx63_.2.1 1 0 1 rfl).trans tx60_
        have tb103_ := (px64_).1
        have ct103_ : dct dd_ (1 + d_I r_ + d_R r_) Sx61_ := dct_of (by omega) (by have g9_ := dg99_.1.1; omega) (by have g9_ := dg99_.1; omega) (by have g9_ := dr99_.1; omega) sr99_ hFx63_ (px64_).2
        have sw103_ := swp_fr sw99_ hFx63_ rfl rfl rfl rfl
        have cy103_ := dcn_fr cy99_ hFx63_
        have gx103_ := dgx_fr gx99_ hFx63_ rfl rfl rfl rfl rfl rfl
        have cs103_ := dcs_fr cs99_ hFx63_
        have dg103_ := dgr_fr dg99_ hFx63_ rfl rfl rfl rfl rfl
        have dr103_ := drt_fr dr99_ hFx63_ rfl rfl rfl rfl rfl
        have bg103_ : 0 ≤ Sx61_.1 3 dd_ 5 ∧ Sx61_.1 3 dd_ 5 < 2 ^ (Sx61_.1 3 dd_ 2).toNat := by rw [hFx63_.1 3 dd_ 5 rfl, hFx63_.1 3 dd_ 2 rfl]; exact bg99_
        refine sm_T_go 1 (c1 := (107, [some (.inr (.inr (some (1, 0)))), some (.inr (.inr (some (3, dd_)))), some (.inl ((S0_.1 7 0 3) - 1)), some (.inl ((S0_.2.2.1 75 0 ((S0_.1 7 0 3) - 1).toNat) / 16)), some (.inl vx13_)], [.inr (.inr (some (1, 0)))], Sx61_)) rfl ?_
        refine sm_T_gr rfl rfl tx68_ ?_
        refine sm_T_go 1 (c1 := (111, [some (.inr (.inr (some (1, 0)))), some (.inr (.inr (some (3, dd_)))), some (.inl ((S0_.1 7 0 3) - 1)), some (.inl ((S0_.2.2.1 75 0 ((S0_.1 7 0 3) - 1).toNat) / 16)), some (.inl vx13_)], [.inr (.inr (some (1, 0))), .inr (.inr (some (3, dd_)))], Sx61_)) rfl ?_
        refine sm_T_gr rfl rfl tx68_ ?_
        refine sm_T_go 2 (c1 := (118, [some (.inr (.inr (some (1, 0)))), some (.inr (.inr (some (3, dd_)))), some (.inl ((S0_.1 7 0 3) - 1)), some (.inl ((S0_.2.2.1 75 0 ((S0_.1 7 0 3) - 1).toNat) / 16)), some (.inl vx13_)], [.inr (.inr (some (33, 0))), .inr (.inr (some (3, dd_))), .inr (.inr (some (3, dd_)))], Sx61_)) rfl ?_
        refine sm_T_cal (d1 := 1) (Q1 := vq_67s dd_ (1 + d_I r_ + d_R r_) Sx61_) rfl rfl (by decide) (vc_67s dd_ (1 + d_I r_ + d_R r_) Sx61_ hIx62_ (by exact dg103_) (by exact dr103_) (by exact sw103_)) (fun u_ Sx69_ px72_ => ?_)
        obtain ⟨vx74_, rfl, hIx70_, hFx71_, px72_⟩ := px72_
        have hFx73_ : ai_fr (sx_W vw_31n) S0_ Sx69_ := ai_fr_tr hFx65_ (fr_le hFx71_ rfl)
        have hDx75_ : idf dd_ S0_ Sx69_ := idf_tr hDx66_ (idf_fr hFx71_ (by decide) (by decide))
        have tx76_ : Sx69_.2.1 1 0 1 = some dd_ := (hFx71_.2.1 1 0 1 rfl).trans tx68_
        have e118_ := (px72_).1
        have tb118_ := dtb_fr tb103_ hFx71_ rfl rfl
        have sw118_ := swp_fr sw103_ hFx71_ rfl rfl rfl rfl
        have cy118_ := dcn_fr cy103_ hFx71_
        have gx118_ := dgx_fr gx103_ hFx71_ rfl rfl rfl rfl rfl rfl
        have cs118_ := dcs_fr cs103_ hFx71_
        have ct118_ := dct_fr ct103_ hFx71_
        have dg118_ := dgr_fr dg103_ hFx71_ rfl rfl rfl rfl rfl
        have dr118_ := drt_fr dr103_ hFx71_ rfl rfl rfl rfl rfl
        have bg118_ : 0 ≤ Sx69_.1 3 dd_ 5 ∧ Sx69_.1 3 dd_ 5 < 2 ^ (Sx69_.1 3 dd_ 2).toNat := by rw [hFx71_.1 3 dd_ 5 rfl, hFx71_.1 3 dd_ 2 rfl]; exact bg103_
        have hIx77_ : gi (sm_pI Sx69_ 3 dd_ 8 vx74_) := gi_pI hIx70_ (show 0 ≤ vx74_ ∧ vx74_ ≤ 1000 from ⟨by omega, by omega⟩)
        have hFx78_ : ai_fr (sx_W vw_31n) S0_ (sm_pI Sx69_ 3 dd_ 8 vx74_) := ai_fr_tr hFx73_ (ai_fr_pI rfl)
        have hDx79_ : idf dd_ S0_ (sm_pI Sx69_ 3 dd_ 8 vx74_) := idf_pI hDx75_ (Or.inr rfl)
        refine sm_T_go 2 (c1 := (125, [some (.inr (.inr (some (1, 0)))), some (.inr (.inr (some (3, dd_)))), some (.inl ((S0_.1 7 0 3) - 1)), some (.inl ((S0_.2.2.1 75 0 ((S0_.1 7 0 3) - 1).toNat) / 16)), some (.inl vx13_)], [.inr (.inr (some (1, 0)))], sm_pI Sx69_ 3 dd_ 8 vx74_)) rfl ?_
        refine sm_T_gr rfl rfl tx76_ ?_
        refine sm_T_go 1 (c1 := (129, [some (.inr (.inr (some (1, 0)))), some (.inr (.inr (some (3, dd_)))), some (.inl ((S0_.1 7 0 3) - 1)), some (.inl ((S0_.2.2.1 75 0 ((S0_.1 7 0 3) - 1).toNat) / 16)), some (.inl vx13_)], [.inr (.inr (some (1, 0))), .inr (.inr (some (3, dd_)))], sm_pI Sx69_ 3 dd_ 8 vx74_)) rfl ?_
        refine sm_T_cal (d1 := 1) (Q1 := vq_52 dd_ (1 + d_I r_ + d_R r_) (sm_pI Sx69_ 3 dd_ 8 vx74_)) rfl rfl (by decide) (vc_52 dd_ (1 + d_I r_ + d_R r_) (sm_pI Sx69_ 3 dd_ 8 vx74_) hIx77_ (by exact tx76_) (by exact dgr_fr (w_ := ([(3, 8)], [], [])) dg118_ (ai_fr_pI rfl) rfl rfl rfl rfl rfl) (by exact (drt_fr (w_ := ([(3, 8)], [], [])) dr118_ (ai_fr_pI rfl) rfl rfl rfl rfl rfl).1.2.2.2) (by exact dtb_fr (w_ := ([(3, 8)], [], [])) tb118_ (ai_fr_pI rfl) rfl rfl) (by (rw [rf_nk (by decide), rf_nk (by decide)]; exact bg118_))) (fun u_ Sx80_ px83_ => ?_)
        obtain ⟨vx85_, rfl, hIx81_, hFx82_, px83_⟩ := px83_
        have hFx84_ : ai_fr (sx_W vw_31n) S0_ Sx80_ := ai_fr_tr hFx78_ (fr_le hFx82_ rfl)
        obtain ⟨dx87_, px83_⟩ := px83_
        have hDx86_ : idf dd_ S0_ Sx80_ := idf_tr hDx79_ dx87_
        have tx88_ : Sx80_.2.1 1 0 1 = some dd_ := (hFx82_.2.1 1 0 1 rfl).trans tx76_
        have e129_ := px83_
        have f129_ := ai_fr_tr (ai_fr_pI (W := sx_W ([(3, 0), (3, 6), (3, 8), (3, 9)], [33], [])) (t := 3) (i := dd_) (k := 8) rfl) (fr_le hFx82_ rfl)
        have bg129_ : 0 ≤ Sx80_.1 3 dd_ 5 ∧ Sx80_.1 3 dd_ 5 < 2 ^ (Sx80_.1 3 dd_ 2).toNat := by rw [f129_.1 3 dd_ 5 rfl, f129_.1 3 dd_ 2 rfl]; exact bg118_
        have hIx89_ : gi (sm_pI Sx80_ 3 dd_ 9 vx85_) := gi_pI hIx81_ (show 0 ≤ vx85_ ∧ vx85_ ≤ 64 from ⟨by omega, by omega⟩)
        have hFx90_ : ai_fr (sx_W vw_31n) S0_ (sm_pI Sx80_ 3 dd_ 9 vx85_) := ai_fr_tr hFx84_ (ai_fr_pI rfl)
        have hDx91_ : idf dd_ S0_ (sm_pI Sx80_ 3 dd_ 9 vx85_) := idf_pI hDx86_ (Or.inr rfl)
        refine sm_T_go 2 (c1 := (136, [some (.inr (.inr (some (1, 0)))), some (.inr (.inr (some (3, dd_)))), some (.inl ((S0_.1 7 0 3) - 1)), some (.inl ((S0_.2.2.1 75 0 ((S0_.1 7 0 3) - 1).toNat) / 16)), some (.inl vx13_)], [.inr (.inr (some (1, 0)))], sm_pI Sx80_ 3 dd_ 9 vx85_)) rfl ?_
        refine sm_T_gr rfl rfl tx88_ ?_
        refine sm_T_go 1 (c1 := (140, [some (.inr (.inr (some (1, 0)))), some (.inr (.inr (some (3, dd_)))), some (.inl ((S0_.1 7 0 3) - 1)), some (.inl ((S0_.2.2.1 75 0 ((S0_.1 7 0 3) - 1).toNat) / 16)), some (.inl vx13_)], [.inr (.inr (some (1, 0))), .inr (.inr (some (3, dd_)))], sm_pI Sx80_ 3 dd_ 9 vx85_)) rfl ?_
        refine sm_T_gr rfl rfl tx88_ ?_
        have bx92_ : 0 ≤ Sx80_.1 3 dd_ 5 ∧ Sx80_.1 3 dd_ 5 ≤ 63 := hIx81_.1 3 dd_ 5 rfl
        have ex93_ : (sm_pI Sx80_ 3 dd_ 9 vx85_).1 3 dd_ 5 = (Sx80_.1 3 dd_ 5) := by (try simp only [rf_eq, rf_nk, rf_nt, rd_fa, rd_af, ne_eq, Nat.reduceEqDiff, not_false_eq_true])
        have hIx94_ : gi (sm_pI (sm_pI Sx80_ 3 dd_ 9 vx85_) 3 dd_ 6 ((sm_pI Sx80_ 3 dd_ 9 vx85_).1 3 dd_ 5)) := gi_pI hIx89_ (show 0 ≤ ((sm_pI Sx80_ 3 dd_ 9 vx85_).1 3 dd_ 5) ∧ ((sm_pI Sx80_ 3 dd_ 9 vx85_).1 3 dd_ 5) ≤ 63 from ⟨by omega, by omega⟩)
        have hFx95_ : ai_fr (sx_W vw_31n) S0_ (sm_pI (sm_pI Sx80_ 3 dd_ 9 vx85_) 3 dd_ 6 ((sm_pI Sx80_ 3 dd_ 9 vx85_).1 3 dd_ 5)) := ai_fr_tr hFx90_ (ai_fr_pI rfl)
        have hDx96_ : idf dd_ S0_ (sm_pI (sm_pI Sx80_ 3 dd_ 9 vx85_) 3 dd_ 6 ((sm_pI Sx80_ 3 dd_ 9 vx85_).1 3 dd_ 5)) := idf_pI hDx91_ (Or.inr rfl)
        refine sm_T_go 3 (c1 := (150, [some (.inr (.inr (some (1, 0)))), some (.inr (.inr (some (3, dd_)))), some (.inl ((S0_.1 7 0 3) - 1)), some (.inl ((S0_.2.2.1 75 0 ((S0_.1 7 0 3) - 1).toNat) / 16)), some (.inl vx13_)], [.inr (.inr (some (1, 0)))], sm_pI (sm_pI Sx80_ 3 dd_ 9 vx85_) 3 dd_ 6 ((sm_pI Sx80_ 3 dd_ 9 vx85_).1 3 dd_ 5))) rfl ?_
        refine sm_T_gr rfl rfl tx88_ ?_
        have hIx97_ : gi (sm_pI (sm_pI (sm_pI Sx80_ 3 dd_ 9 vx85_) 3 dd_ 6 ((sm_pI Sx80_ 3 dd_ 9 vx85_).1 3 dd_ 5)) 3 dd_ 0 1) := gi_pI hIx94_ (show 0 ≤ 1 ∧ 1 ≤ 1 from ⟨by omega, by omega⟩)
        have hFx98_ : ai_fr (sx_W vw_31n) S0_ (sm_pI (sm_pI (sm_pI Sx80_ 3 dd_ 9 vx85_) 3 dd_ 6 ((sm_pI Sx80_ 3 dd_ 9 vx85_).1 3 dd_ 5)) 3 dd_ 0 1) := ai_fr_tr hFx95_ (ai_fr_pI rfl)
        have hDx99_ : idf dd_ S0_ (sm_pI (sm_pI (sm_pI Sx80_ 3 dd_ 9 vx85_) 3 dd_ 6 ((sm_pI Sx80_ 3 dd_ 9 vx85_).1 3 dd_ 5)) 3 dd_ 0 1) := idf_pI hDx96_ (Or.inr rfl)
        refine sm_T_go 2 (c1 := (157, [some (.inr (.inr (some (1, 0)))), some (.inr (.inr (some (3, dd_)))), some (.inl ((S0_.1 7 0 3) - 1)), some (.inl ((S0_.2.2.1 75 0 ((S0_.1 7 0 3) - 1).toNat) / 16)), some (.inl vx13_)], [], sm_pI (sm_pI (sm_pI Sx80_ 3 dd_ 9 vx85_) 3 dd_ 6 ((sm_pI Sx80_ 3 dd_ 9 vx85_).1 3 dd_ 5)) 3 dd_ 0 1)) rfl ?_
        refine sm_T_rv rfl (Or.inl ⟨_, _, rfl, rfl, hIx97_, hFx98_, ?_⟩)
        refine ⟨hDx99_, ?_⟩
        have fz_ : ai_fr (sx_W ([(3, 0), (3, 6), (3, 8), (3, 9)], [33], [])) _ ((sm_pI (sm_pI (sm_pI Sx80_ 3 dd_ 9 vx85_) 3 dd_ 6 ((sm_pI Sx80_ 3 dd_ 9 vx85_).1 3 dd_ 5)) 3 dd_ 0 1)) := ai_fr_tr (ai_fr_tr (ai_fr_tr f129_ (ai_fr_pI rfl)) (ai_fr_pI rfl)) (ai_fr_pI rfl)
        refine ⟨l0_, ⟨z_, hz_, zk_, dgx_fr gx118_ fz_ rfl rfl rfl rfl rfl rfl, dcn_fr cy118_ fz_, by ((try simp only [rd_eq, rd_ne, rf_eq, rf_nk, rf_nt, rd_fa, rd_af, rd_fl, rd_al, rd_lf, rd_la, rd_leq, rd_lne, rd_fr, rd_ar, ne_eq, Nat.reduceEqDiff, not_false_eq_true]); exact (f129_.1 3 dd_ 5 rfl).trans cy118_.1), dcs_fr cs118_ fz_, dct_fr ct118_ fz_⟩, rf_eq, (1 + d_I r_ + d_R r_), dgr_fr dg118_ fz_ rfl rfl rfl rfl rfl, drt_fr dr118_ fz_ rfl rfl rfl rfl rfl, swp_fr sw118_ fz_ rfl rfl rfl rfl, dtb_fr tb118_ fz_ rfl rfl, ?_, ?_⟩
        · rw [fz_.1 3 dd_ 5 rfl, fz_.1 3 dd_ 2 rfl]; exact bg118_
        · rw [fz_.1 3 dd_ 2 rfl]; (try simp only [rd_eq, rd_ne, rf_eq, rf_nk, rf_nt, rd_fa, rd_af, rd_fl, rd_al, rd_lf, rd_la, rd_leq, rd_lne, rd_fr, rd_ar, ne_eq, Nat.reduceEqDiff, not_false_eq_true]); rw [f129_.1 3 dd_ 2 rfl] at bg129_; exact bg129_
      · have cx35_ : ¬ ((Sx26_.1 1 0 8) = 0) := of_decide_eq_false cx35_
        refine sm_T_go 5 (c1 := (86, [some (.inr (.inr (some (1, 0)))), some (.inr (.inr (some (3, dd_)))), some (.inl ((S0_.1 7 0 3) - 1)), some (.inl ((S0_.2.2.1 75 0 ((S0_.1 7 0 3) - 1).toNat) / 16)), some (.inl vx13_)], [.inl ((S0_.2.2.1 75 0 ((S0_.1 7 0 3) - 1).toNat) / 16), .inl 23, .inr (.inr (some (10, 0)))], Sx26_)) rfl ?_
        refine sm_T_calx (d1 := 0) (Q1 := vq_187 23 ((S0_.2.2.1 75 0 ((S0_.1 7 0 3) - 1).toNat) / 16) Sx26_) (Q2 := vx_187 23 ((S0_.2.2.1 75 0 ((S0_.1 7 0 3) - 1).toNat) / 16) Sx26_) rfl rfl (by decide) (vc_187 23 ((S0_.2.2.1 75 0 ((S0_.1 7 0 3) - 1).toNat) / 16) Sx26_ hIx27_ (by omega) (by omega)) rfl (fun Sx100_ px103_ => ?_) (fun u_ Sx100_ px103_ => ?_)
        · obtain ⟨hIx101_, hFx102_, px103_⟩ := px103_
          refine Or.inr ⟨_, rfl, hIx101_, ai_fr_tr hFx30_ (fr_le hFx102_ rfl), ?_⟩
          have y9_ := px103_
          refine ⟨idf_tr hDx31_ (idf_fr hFx102_ (by decide) (by decide)), ⟨(23, r_.2.1 (d_tp r_)), ⟨rfl, Or.inr ⟨l0_, ⟨z_, hz_, by have := cf66_.1; omega⟩, rfl⟩⟩, ⟨y9_.1, ?_⟩⟩, ?_⟩
          · show _ = ((r_.2.1 (d_tp r_) : Nat) : Int); have y8_ := y9_.2; omega
          · exact (hFx102_.1 3 dd_ 0 rfl).trans us66_
        · exact (px103_.2.2.2).elim
    · have cx17_ : ¬ (vx13_ = 0) := of_decide_eq_false cx17_
      refine sm_T_go 5 (c1 := (54, [some (.inr (.inr (some (1, 0)))), some (.inr (.inr (some (3, dd_)))), some (.inl ((S0_.1 7 0 3) - 1)), some (.inl ((S0_.2.2.1 75 0 ((S0_.1 7 0 3) - 1).toNat) / 16)), some (.inl vx13_)], [.inl ((S0_.2.2.1 75 0 ((S0_.1 7 0 3) - 1).toNat) / 16), .inl vx13_, .inr (.inr (some (10, 0)))], Sx8_)) rfl ?_
      refine sm_T_calx (d1 := 0) (Q1 := vq_187 vx13_ ((S0_.2.2.1 75 0 ((S0_.1 7 0 3) - 1).toNat) / 16) Sx8_) (Q2 := vx_187 vx13_ ((S0_.2.2.1 75 0 ((S0_.1 7 0 3) - 1).toNat) / 16) Sx8_) rfl rfl (by decide) (vc_187 vx13_ ((S0_.2.2.1 75 0 ((S0_.1 7 0 3) - 1).toNat) / 16) Sx8_ hIx9_ (by omega) (by omega)) rfl (fun Sx105_ px108_ => ?_) (fun u_ Sx105_ px108_ => ?_)
      · obtain ⟨hIx106_, hFx107_, px108_⟩ := px108_
        refine Or.inr ⟨_, rfl, hIx106_, ai_fr_tr hFx12_ (fr_le hFx107_ rfl), ?_⟩
        have y9_ := px108_
        refine ⟨idf_tr hDx14_ (idf_fr hFx107_ (by decide) (by decide)), ⟨(d_lm r_, r_.2.1 (d_tp r_)), ⟨rfl, Or.inl ⟨by rw [← lm_]; omega, rfl⟩⟩, ⟨y9_.1.trans lm_, ?_⟩⟩, ?_⟩
        · show _ = ((r_.2.1 (d_tp r_) : Nat) : Int); have y8_ := y9_.2; omega
        · exact (hFx107_.1 3 dd_ 0 rfl).trans us34_
      · exact (px108_.2.2.2).elim
  · have cx6_ : ¬ (0 ≤ (S0_.1 7 0 3) - 1) := of_decide_eq_false cx6_
    exfalso; omega
/-! ChipFlow.design -/
def vw_213n : sx_Wl := ([(1, 3), (1, 6), (1, 8), (1, 9), (1, 13), (3, 0), (3, 1), (3, 2), (3, 3), (3, 4), (3, 5), (3, 6), (3, 7), (3, 8), (3, 9), (7, 2), (7, 3), (7, 14), (7, 16), (7, 17), (10, 1), (10, 2), (10, 3), (10, 4), (10, 5), (10, 6), (10, 7), (10, 8), (12, 10)], [26, 27, 28, 29, 30, 31, 32, 33, 42, 43, 44, 45, 46, 47, 74, 75, 76, 77, 78, 79, 80, 81, 82, 83, 84], [(1, 1), (7, 11)])
def vq_213n (b_ : Nat → Int) (n_ : Nat) (S0_ : sm_S) (u_ : Option sm_V) (S1_ : sm_S) : Prop := ∃ v_ : Int, u_ = some (.inl v_) ∧ gi S1_ ∧ ai_fr (sx_W vw_213n) S0_ S1_ ∧ (∃ sl_ : Nat, sl_ < 6 ∧ S0_.1 3 sl_ 0 = 0 ∧ (∀ j_ : Nat, j_ < sl_ → S0_.1 3 j_ 0 = 1) ∧ (S1_.1 10 0 1) = 0 ∧ idf sl_ S0_ S1_ ∧ (((∃ r_ z_, dok b_ n_ r_ z_ ∧ dgx sl_ r_ z_ S1_ ∧ dcn sl_ r_ z_ S1_ ∧ S1_.1 3 sl_ 6 = (dnx r_).2 ∧ dcs sl_ (1 + d_I r_ + d_R r_) S1_ ∧ dct sl_ (1 + d_I r_ + d_R r_) S1_) ∧ S1_.1 3 sl_ 0 = 1 ∧ dOk sl_ S1_ ∧ v_ = (sl_ : Int) ∧ S1_.1 12 0 10 = 0) ∨ (¬ dacc b_ n_ ∧ S1_.1 3 sl_ 0 = 0 ∧ ∃ e_, dfe b_ n_ e_ ∧ v_ = -1 - (e_.2 : Int) ∧ S1_.1 12 0 10 = e_.1)))
def vx_213n (b_ : Nat → Int) (n_ : Nat) (S0_ : sm_S) (S1_ : sm_S) : Prop := gi S1_ ∧ ai_fr (sx_W vw_213n) S0_ S1_ ∧ ((∀ j_ : Nat, j_ < 6 → S0_.1 3 j_ 0 = 1) ∧ S1_ = S0_)
set_option maxHeartbeats 2000000 in
theorem vc_213n {sc_ : Nat × (Nat → Int)} (b_ : Nat → Int) (n_ : Nat) (S0_ : sm_S) (hI_ : gi S0_) (hb_ : S0_.2.2.1 98 0 = b_) (hn_ : (S0_.1 10 0 1) = (n_ : Int)) (hn1_ : n_ ≤ 1280) : sm_T (mt_P sc_) 28 213 (0, [some (.inr (.inr (some (12, 0)))), none, none, none], [], S0_) (fun ro9_ => (∃ u_ S1_ k9_, ro9_ = (.inl u_, S1_, k9_) ∧ k9_ ≤ 1 ∧ vq_213n b_ n_ S0_ u_ S1_) ∨ ∃ S1_, ro9_ = (.inr 3, S1_, 1) ∧ vx_213n b_ n_ S0_ S1_) := by
  have hF_ : ai_fr (sx_W vw_213n) S0_ S0_ := ai_fr_rf
  refine sm_T_go 1 (c1 := (1, [some (.inr (.inr (some (12, 0)))), none, none, none], [.inr (.inr (some (12, 0)))], S0_)) rfl ?_
  refine sm_T_cal (d1 := 0) (Q1 := vq_273  S0_) rfl rfl (by decide) (vc_273  S0_ hI_ ) (fun u_ Sx1_ px4_ => ?_)
  obtain ⟨rfl, vx6_, rfl, px4_⟩ := px4_
  obtain ⟨sl_, hsl_⟩ : ∃ sl_ : Nat, (vx6_ = -1 ∧ ∀ j_ : Nat, j_ < 6 → S0_.1 3 j_ 0 = 1) ∨ (vx6_ = (sl_ : Int) ∧ sl_ < 6 ∧ S0_.1 3 sl_ 0 = 0 ∧ ∀ j_ : Nat, j_ < sl_ → S0_.1 3 j_ 0 = 1) := by rcases px4_ with z_ | ⟨u_, z_⟩; exact ⟨0, Or.inl z_⟩; exact ⟨u_, Or.inr z_⟩
  clear px4_
  obtain ⟨sv_, hsv_⟩ : ∃ sv_, sv_ = vx6_ := ⟨_, rfl⟩
  rw [← hsv_] at hsl_
  refine sm_T_go 3 (c1 := (7, [some (.inr (.inr (some (12, 0)))), some (.inl vx6_), none, none], [.inl (-1), .inl vx6_], S0_)) rfl ?_
  refine sm_T_br (a := 0) (z := 7) rfl (fun cx7_ => ?_) (fun cx7_ => ?_)
  · have cx7_ : vx6_ = (-1) := of_decide_eq_true cx7_
    have ha0_ : ∀ j_ : Nat, j_ < 6 → S0_.1 3 j_ 0 = 1 := by rcases hsl_ with z_ | z_; exact z_.2; (exfalso; have := z_.1; omega)
    refine sm_T_go 1 (c1 := (15, [some (.inr (.inr (some (12, 0)))), some (.inl vx6_), none, none], [.inl 0], S0_)) rfl ?_
    refine sm_T_calg (d1_ := 0) (ex_ := 3) (Q1_ := vq_268 0 S0_) (Q2_ := vx_268 0 S0_) rfl rfl (by decide) (vc_268 0 S0_ hI_ ) rfl rfl (fun Sx8_ px11_ => ?_) (fun u_ Sx8_ px11_ => ?_)
    · obtain ⟨hIx9_, hFx10_, px11_⟩ := px11_
      refine Or.inr ⟨_, rfl, hIx9_, ai_fr_tr hF_ (fr_le hFx10_ rfl), ?_⟩
      obtain ⟨z1_, z2_⟩ := px11_
      first | (exact absurd z1_ (by decide)) | (exact ⟨ha0_, z2_⟩)
    obtain ⟨rfl, hIx9_, hFx10_, px11_⟩ := px11_
    have hFx12_ : ai_fr (sx_W vw_213n) S0_ Sx8_ := ai_fr_tr hF_ (fr_le hFx10_ rfl)
    have e15_ := px11_
    obtain ⟨hs1_, hs2_, hs3_, hs4_⟩ : sv_ = (sl_ : Int) ∧ sl_ < 6 ∧ S0_.1 3 sl_ 0 = 0 ∧ ∀ j_ : Nat, j_ < sl_ → S0_.1 3 j_ 0 = 1 := by first | (exact absurd rfl e15_) | (rcases hsl_ with z_ | z_; (exact absurd z_.1 nv_); exact z_)
    clear hsl_
    have hb15_ := (fr_arr (t := 98) (i := 0) hFx10_ rfl).trans hb_
    have hn15_ := (hFx10_.1 10 0 1 rfl).trans hn_
    have d15_ : idf sl_ S0_ Sx8_ := idf_fr hFx10_ (by decide) (by decide)
    have u15_ : Sx8_.1 3 sl_ 0 = S0_.1 3 sl_ 0 := hFx10_.1 3 sl_ 0 rfl
    have hIx13_ : gi (sm_pI Sx8_ 12 0 10 0) := gi_pI hIx9_ (show 0 ≤ 0 ∧ 0 ≤ 23 from ⟨by omega, by omega⟩)
    have hFx14_ : ai_fr (sx_W vw_213n) S0_ (sm_pI Sx8_ 12 0 10 0) := ai_fr_tr hFx12_ (ai_fr_pI rfl)
    refine sm_T_go 7 (c1 := (29, [some (.inr (.inr (some (12, 0)))), some (.inl vx6_), some (.inl vx6_), none], [.inr (.inr (some (7, 0)))], sm_pI Sx8_ 12 0 10 0)) rfl ?_
    refine sm_T_calh (d1_ := 7) (ex_ := 2) (Q1_ := vq_115 b_ n_ (sm_pI Sx8_ 12 0 10 0)) (Q2_ := vx_115 b_ n_ (sm_pI Sx8_ 12 0 10 0)) rfl rfl (by decide) (vc_115 b_ n_ (sm_pI Sx8_ 12 0 10 0) hIx13_ (by exact hb15_) (by exact hn15_) (by exact hn1_)) rfl rfl (Nat.le_of_ble_eq_true rfl) (fun Sx15_ px18_ => ?_) (fun u_ Sx15_ px18_ => ?_)
    · obtain ⟨hIx16_, hFx17_, px18_⟩ := px18_
      have hFx19_ : ai_fr (sx_W vw_213n) S0_ Sx15_ := ai_fr_tr hFx14_ (fr_le hFx17_ rfl)
      obtain ⟨e9_, w1_, te_⟩ := px18_
      have na_ := dacc_l w1_
      have de9_ : dfe b_ n_ e9_ := Or.inl w1_
      have dz_ : idf sl_ S0_ Sx15_ := idf_tr (idf_pI d15_ (Or.inl (by decide))) (idf_fr hFx17_ (by decide) (by decide))
      have uz_ : Sx15_.1 3 sl_ 0 = 0 := ((hFx17_.1 3 sl_ 0 rfl).trans (rf_nt (by decide))).trans (u15_.trans hs3_)
      refine sm_T_go 0 (c1 := (49, [some (.inr (.inr (some (12, 0)))), some (.inl vx6_), some (.inl vx6_), none], [], Sx15_)) rfl ?_
      have bx20_ : 0 ≤ Sx15_.1 10 0 6 ∧ Sx15_.1 10 0 6 ≤ 23 := hIx16_.1 10 0 6 rfl
      have hIx21_ : gi (sm_pI Sx15_ 12 0 10 (Sx15_.1 10 0 6)) := gi_pI hIx16_ (show 0 ≤ (Sx15_.1 10 0 6) ∧ (Sx15_.1 10 0 6) ≤ 23 from ⟨by omega, by omega⟩)
      have hFx22_ : ai_fr (sx_W vw_213n) S0_ (sm_pI Sx15_ 12 0 10 (Sx15_.1 10 0 6)) := ai_fr_tr hFx19_ (ai_fr_pI rfl)
      have bx23_ : 0 ≤ Sx15_.1 10 0 7 ∧ Sx15_.1 10 0 7 ≤ 4095 := hIx16_.1 10 0 7 rfl
      refine sm_T_go 9 (c1 := (68, [some (.inr (.inr (some (12, 0)))), some (.inl vx6_), some (.inl vx6_), none], [.inl (Sx15_.1 10 0 7), .inl (-1)], sm_pI Sx15_ 12 0 10 (Sx15_.1 10 0 6))) rfl ?_
      refine sm_T_bin (w := -(Sx15_.1 10 0 7) - 1) rfl (bi_sub (by omega) (by omega) (by omega)) ?_
      have hIx24_ : gi (sm_pI (sm_pI Sx15_ 12 0 10 (Sx15_.1 10 0 6)) 10 0 1 0) := gi_pI hIx21_ (show 0 ≤ 0 ∧ 0 ≤ 1280 from ⟨by omega, by omega⟩)
      have hFx25_ : ai_fr (sx_W vw_213n) S0_ (sm_pI (sm_pI Sx15_ 12 0 10 (Sx15_.1 10 0 6)) 10 0 1 0) := ai_fr_tr hFx22_ (ai_fr_pI rfl)
      refine sm_T_go 6 (c1 := (79, [some (.inr (.inr (some (12, 0)))), some (.inl vx6_), some (.inl (-(Sx15_.1 10 0 7) - 1)), none], [.inl (-(Sx15_.1 10 0 7) - 1)], sm_pI (sm_pI Sx15_ 12 0 10 (Sx15_.1 10 0 6)) 10 0 1 0)) rfl ?_
      refine sm_T_ri rfl (Or.inl ⟨_, _, _, rfl, Nat.le_of_ble_eq_true rfl, _, rfl, hIx24_, hFx25_, ?_⟩)
      first | (exact absurd rfl e15_) | (refine ⟨sl_, hs2_, hs3_, hs4_, rf_eq, idf_pI d42_ (Or.inl (by decide)), Or.inl ⟨⟨r9_, z9_, ac_, dgx_fr (w_ := ([(10, 1)], [], [])) x6_ (ai_fr_pI rfl) rfl rfl rfl rfl rfl rfl, dcn_fr (w_ := ([(10, 1)], [], [])) x7_ (ai_fr_pI rfl), (rf_nt (by decide)).trans x8_, dcs_fr (w_ := ([(10, 1)], [], [])) xs (ai_fr_pI rfl), dct_fr (w_ := ([(10, 1)], [], [])) xt_ (ai_fr_pI rfl)⟩, (rf_nt (by decide)).trans x4_, ?_, by omega, (rf_nt (by decide)).trans lf42_⟩⟩; obtain ⟨F9_, y1_, y2_, y3_, y4_, y5_⟩ := x5_; have fz_ : ai_fr (sx_W ([(10, 1)], [], [])) _ ((sm_pI (sm_pI Sx15_ 12 0 10 (Sx15_.1 10 0 6)) 10 0 1 0)) := ai_fr_pI rfl; refine ⟨F9_, dgr_fr y1_ fz_ rfl rfl rfl rfl rfl, drt_fr y2_ fz_ rfl rfl rfl rfl rfl, swp_fr y3_ fz_ rfl rfl rfl rfl, dtb_fr y4_ fz_ rfl rfl, ?_⟩; rw [fz_.1 3 sl_ 5 rfl, fz_.1 3 sl_ 6 rfl, fz_.1 3 sl_ 2 rfl]; exact y5_) | (refine ⟨sl_, hs2_, hs3_, hs4_, rf_eq, idf_pI (idf_pI dz_ (Or.inl (by decide))) (Or.inl (by decide)), Or.inr ⟨na_, ?_, e9_, de9_, ?_, ?_⟩⟩; exact (rf_nt (by decide)).trans ((rf_nt (by decide)).trans uz_); (have t9_ := te_.2; omega); exact (rf_nt (by decide)).trans (rf_eq.trans te_.1))
    obtain ⟨rfl, hIx16_, hFx17_, px18_⟩ := px18_
    have hFx19_ : ai_fr (sx_W vw_213n) S0_ Sx15_ := ai_fr_tr hFx14_ (fr_le hFx17_ rfl)
    obtain ⟨r9_, w1_, w2_, w3_, w4_⟩ := px18_
    have lf29_ : Sx15_.1 12 0 10 = 0 := (hFx17_.1 12 0 10 rfl).trans rf_eq
    have d29_ : idf sl_ S0_ Sx15_ := idf_tr (idf_pI d15_ (Or.inl (by decide))) (idf_fr hFx17_ (by decide) (by decide))
    have u29_ : Sx15_.1 3 sl_ 0 = 0 := ((hFx17_.1 3 sl_ 0 rfl).trans (rf_nt (by decide))).trans (u15_.trans hs3_)
    refine sm_T_go 5 (c1 := (41, [some (.inr (.inr (some (12, 0)))), some (.inl vx6_), some (.inl vx6_), none], [.inl vx6_, .inr (.inr (some (110, 0))), .inr (.inr (some (1, 0)))], Sx15_)) rfl ?_
    refine sm_T_aald (t0 := 4) (n := 6) rfl rfl (by omega) (by omega) ?_
    refine sm_T_calh (d1_ := 27) (ex_ := 2) (Q1_ := vq_31n b_ n_ r9_ (vx6_.toNat) Sx15_) (Q2_ := vx_31n b_ n_ r9_ (vx6_.toNat) Sx15_) rfl rfl (by decide) (vc_31n b_ n_ r9_ (vx6_.toNat) Sx15_ hIx16_ (by exact w1_) (by exact w2_) (by exact w3_) (by exact w4_) (by exact hn1_)) rfl rfl (Nat.le_of_ble_eq_true rfl) (fun Sx26_ px29_ => ?_) (fun u_ Sx26_ px29_ => ?_)
    · obtain ⟨hIx27_, hFx28_, px29_⟩ := px29_
      have hFx30_ : ai_fr (sx_W vw_213n) S0_ Sx26_ := ai_fr_tr hFx19_ (fr_le hFx28_ rfl)
      obtain ⟨q1_, ⟨e9_, q2_, te_⟩, q3_⟩ := px29_
      rw [← hsv_, hs1_, Int.toNat_natCast] at q1_ q3_
      have na_ := dfl_na w1_ q2_
      have de9_ : dfe b_ n_ e9_ := Or.inr ⟨r9_, w1_, q2_⟩
      have dz_ : idf sl_ S0_ Sx26_ := idf_tr d29_ q1_
      have uz_ : Sx26_.1 3 sl_ 0 = 0 := q3_.trans u29_
      refine sm_T_go 0 (c1 := (49, [some (.inr (.inr (some (12, 0)))), some (.inl vx6_), some (.inl vx6_), none], [], Sx26_)) rfl ?_
      have bx31_ : 0 ≤ Sx26_.1 10 0 6 ∧ Sx26_.1 10 0 6 ≤ 23 := hIx27_.1 10 0 6 rfl
      have hIx32_ : gi (sm_pI Sx26_ 12 0 10 (Sx26_.1 10 0 6)) := gi_pI hIx27_ (show 0 ≤ (Sx26_.1 10 0 6) ∧ (Sx26_.1 10 0 6) ≤ 23 from ⟨by omega, by omega⟩)
      have hFx33_ : ai_fr (sx_W vw_213n) S0_ (sm_pI Sx26_ 12 0 10 (Sx26_.1 10 0 6)) := ai_fr_tr hFx30_ (ai_fr_pI rfl)
      have bx34_ : 0 ≤ Sx26_.1 10 0 7 ∧ Sx26_.1 10 0 7 ≤ 4095 := hIx27_.1 10 0 7 rfl
      refine sm_T_go 9 (c1 := (68, [some (.inr (.inr (some (12, 0)))), some (.inl vx6_), some (.inl vx6_), none], [.inl (Sx26_.1 10 0 7), .inl (-1)], sm_pI Sx26_ 12 0 10 (Sx26_.1 10 0 6))) rfl ?_
      refine sm_T_bin (w := -(Sx26_.1 10 0 7) - 1) rfl (bi_sub (by omega) (by omega) (by omega)) ?_
      have hIx35_ : gi (sm_pI (sm_pI Sx26_ 12 0 10 (Sx26_.1 10 0 6)) 10 0 1 0) := gi_pI hIx32_ (show 0 ≤ 0 ∧ 0 ≤ 1280 from ⟨by omega, by omega⟩)
      have hFx36_ : ai_fr (sx_W vw_213n) S0_ (sm_pI (sm_pI Sx26_ 12 0 10 (Sx26_.1 10 0 6)) 10 0 1 0) := ai_fr_tr hFx33_ (ai_fr_pI rfl)
      refine sm_T_go 6 (c1 := (79, [some (.inr (.inr (some (12, 0)))), some (.inl vx6_), some (.inl (-(Sx26_.1 10 0 7) - 1)), none], [.inl (-(Sx26_.1 10 0 7) - 1)], sm_pI (sm_pI Sx26_ 12 0 10 (Sx26_.1 10 0 6)) 10 0 1 0)) rfl ?_
      refine sm_T_ri rfl (Or.inl ⟨_, _, _, rfl, Nat.le_of_ble_eq_true rfl, _, rfl, hIx35_, hFx36_, ?_⟩)
      first | (exact absurd rfl e15_) | (refine ⟨sl_, hs2_, hs3_, hs4_, rf_eq, idf_pI d42_ (Or.inl (by decide)), Or.inl ⟨⟨r9_, z9_, ac_, dgx_fr (w_ := ([(10, 1)], [], [])) x6_ (ai_fr_pI rfl) rfl rfl rfl rfl rfl rfl, dcn_fr (w_ := ([(10, 1)], [], [])) x7_ (ai_fr_pI rfl), (rf_nt (by decide)).trans x8_, dcs_fr (w_ := ([(10, 1)], [], [])) xs (ai_fr_pI rfl), dct_fr (w_ := ([(10, 1)], [], [])) xt_ (ai_fr_pI rfl)⟩, (rf_nt (by decide)).trans x4_, ?_, by omega, (rf_nt (by decide)).trans lf42_⟩⟩; obtain ⟨F9_, y1_, y2_, y3_, y4_, y5_⟩ := x5_; have fz_ : ai_fr (sx_W ([(10, 1)], [], [])) _ ((sm_pI (sm_pI Sx26_ 12 0 10 (Sx26_.1 10 0 6)) 10 0 1 0)) := ai_fr_pI rfl; refine ⟨F9_, dgr_fr y1_ fz_ rfl rfl rfl rfl rfl, drt_fr y2_ fz_ rfl rfl rfl rfl rfl, swp_fr y3_ fz_ rfl rfl rfl rfl, dtb_fr y4_ fz_ rfl rfl, ?_⟩; rw [fz_.1 3 sl_ 5 rfl, fz_.1 3 sl_ 6 rfl, fz_.1 3 sl_ 2 rfl]; exact y5_) | (refine ⟨sl_, hs2_, hs3_, hs4_, rf_eq, idf_pI (idf_pI dz_ (Or.inl (by decide))) (Or.inl (by decide)), Or.inr ⟨na_, ?_, e9_, de9_, ?_, ?_⟩⟩; exact (rf_nt (by decide)).trans ((rf_nt (by decide)).trans uz_); (have t9_ := te_.2; omega); exact (rf_nt (by decide)).trans (rf_eq.trans te_.1))
    obtain ⟨rfl, hIx27_, hFx28_, px29_⟩ := px29_
    have hFx30_ : ai_fr (sx_W vw_213n) S0_ Sx26_ := ai_fr_tr hFx19_ (fr_le hFx28_ rfl)
    obtain ⟨dx37_, px29_⟩ := px29_
    have e42_ := px29_
    have k42_ := dx37_
    rw [← hsv_, hs1_, Int.toNat_natCast] at e42_ k42_
    have lf42_ : Sx26_.1 12 0 10 = 0 := (hFx28_.1 12 0 10 rfl).trans lf29_
    have d42_ : idf sl_ S0_ Sx26_ := idf_tr d29_ k42_
    obtain ⟨x1_, ⟨z9_, x2_, x3_, x6_, x7_, x8_, xs, xt_⟩, x4_, x5_⟩ := e42_
    have ac_ : dok b_ n_ r9_ z9_ := ⟨w1_, x1_, x2_, x3_⟩
    have hIx38_ : gi (sm_pI Sx26_ 10 0 1 0) := gi_pI hIx27_ (show 0 ≤ 0 ∧ 0 ≤ 1280 from ⟨by omega, by omega⟩)
    have hFx39_ : ai_fr (sx_W vw_213n) S0_ (sm_pI Sx26_ 10 0 1 0) := ai_fr_tr hFx30_ (ai_fr_pI rfl)
    refine sm_T_go 6 (c1 := (79, [some (.inr (.inr (some (12, 0)))), some (.inl vx6_), some (.inl vx6_), none], [.inl vx6_], sm_pI Sx26_ 10 0 1 0)) rfl ?_
    refine sm_T_ri rfl (Or.inl ⟨_, _, _, rfl, Nat.le_of_ble_eq_true rfl, _, rfl, hIx38_, hFx39_, ?_⟩)
    first | (exact absurd rfl e15_) | (refine ⟨sl_, hs2_, hs3_, hs4_, rf_eq, idf_pI d42_ (Or.inl (by decide)), Or.inl ⟨⟨r9_, z9_, ac_, dgx_fr (w_ := ([(10, 1)], [], [])) x6_ (ai_fr_pI rfl) rfl rfl rfl rfl rfl rfl, dcn_fr (w_ := ([(10, 1)], [], [])) x7_ (ai_fr_pI rfl), (rf_nt (by decide)).trans x8_, dcs_fr (w_ := ([(10, 1)], [], [])) xs (ai_fr_pI rfl), dct_fr (w_ := ([(10, 1)], [], [])) xt_ (ai_fr_pI rfl)⟩, (rf_nt (by decide)).trans x4_, ?_, by omega, (rf_nt (by decide)).trans lf42_⟩⟩; obtain ⟨F9_, y1_, y2_, y3_, y4_, y5_⟩ := x5_; have fz_ : ai_fr (sx_W ([(10, 1)], [], [])) _ ((sm_pI Sx26_ 10 0 1 0)) := ai_fr_pI rfl; refine ⟨F9_, dgr_fr y1_ fz_ rfl rfl rfl rfl rfl, drt_fr y2_ fz_ rfl rfl rfl rfl rfl, swp_fr y3_ fz_ rfl rfl rfl rfl, dtb_fr y4_ fz_ rfl rfl, ?_⟩; rw [fz_.1 3 sl_ 5 rfl, fz_.1 3 sl_ 6 rfl, fz_.1 3 sl_ 2 rfl]; exact y5_) | (refine ⟨sl_, hs2_, hs3_, hs4_, rf_eq, idf_pI (idf_pI dz_ (Or.inl (by decide))) (Or.inl (by decide)), Or.inr ⟨na_, ?_, e9_, de9_, ?_, ?_⟩⟩; exact (rf_nt (by decide)).trans ((rf_nt (by decide)).trans uz_); (have t9_ := te_.2; omega); exact (rf_nt (by decide)).trans (rf_eq.trans te_.1))
  · have cx7_ : ¬ (vx6_ = (-1)) := of_decide_eq_false cx7_
    have nv_ := cx7_
    rw [← hsv_] at nv_
    refine sm_T_go 2 (c1 := (15, [some (.inr (.inr (some (12, 0)))), some (.inl vx6_), none, none], [.inl 1], S0_)) rfl ?_
    refine sm_T_calg (d1_ := 0) (ex_ := 3) (Q1_ := vq_268 1 S0_) (Q2_ := vx_268 1 S0_) rfl rfl (by decide) (vc_268 1 S0_ hI_ ) rfl rfl (fun Sx40_ px43_ => ?_) (fun u_ Sx40_ px43_ => ?_)
    · obtain ⟨hIx41_, hFx42_, px43_⟩ := px43_
      refine Or.inr ⟨_, rfl, hIx41_, ai_fr_tr hF_ (fr_le hFx42_ rfl), ?_⟩
      obtain ⟨z1_, z2_⟩ := px43_
      first | (exact absurd z1_ (by decide)) | (exact ⟨ha0_, z2_⟩)
    obtain ⟨rfl, hIx41_, hFx42_, px43_⟩ := px43_
    have hFx44_ : ai_fr (sx_W vw_213n) S0_ Sx40_ := ai_fr_tr hF_ (fr_le hFx42_ rfl)
    have e15_ := px43_
    obtain ⟨hs1_, hs2_, hs3_, hs4_⟩ : sv_ = (sl_ : Int) ∧ sl_ < 6 ∧ S0_.1 3 sl_ 0 = 0 ∧ ∀ j_ : Nat, j_ < sl_ → S0_.1 3 j_ 0 = 1 := by first | (exact absurd rfl e15_) | (rcases hsl_ with z_ | z_; (exact absurd z_.1 nv_); exact z_)
    clear hsl_
    have hb15_ := (fr_arr (t := 98) (i := 0) hFx42_ rfl).trans hb_
    have hn15_ := (hFx42_.1 10 0 1 rfl).trans hn_
    have d15_ : idf sl_ S0_ Sx40_ := idf_fr hFx42_ (by decide) (by decide)
    have u15_ : Sx40_.1 3 sl_ 0 = S0_.1 3 sl_ 0 := hFx42_.1 3 sl_ 0 rfl
    have hIx45_ : gi (sm_pI Sx40_ 12 0 10 0) := gi_pI hIx41_ (show 0 ≤ 0 ∧ 0 ≤ 23 from ⟨by omega, by omega⟩)
    have hFx46_ : ai_fr (sx_W vw_213n) S0_ (sm_pI Sx40_ 12 0 10 0) := ai_fr_tr hFx44_ (ai_fr_pI rfl)
    refine sm_T_go 7 (c1 := (29, [some (.inr (.inr (some (12, 0)))), some (.inl vx6_), some (.inl vx6_), none], [.inr (.inr (some (7, 0)))], sm_pI Sx40_ 12 0 10 0)) rfl ?_
    refine sm_T_calh (d1_ := 7) (ex_ := 2) (Q1_ := vq_115 b_ n_ (sm_pI Sx40_ 12 0 10 0)) (Q2_ := vx_115 b_ n_ (sm_pI Sx40_ 12 0 10 0)) rfl rfl (by decide) (vc_115 b_ n_ (sm_pI Sx40_ 12 0 10 0) hIx45_ (by exact hb15_) (by exact hn15_) (by exact hn1_)) rfl rfl (Nat.le_of_ble_eq_true rfl) (fun Sx47_ px50_ => ?_) (fun u_ Sx47_ px50_ => ?_)
    · obtain ⟨hIx48_, hFx49_, px50_⟩ := px50_
      have hFx51_ : ai_fr (sx_W vw_213n) S0_ Sx47_ := ai_fr_tr hFx46_ (fr_le hFx49_ rfl)
      obtain ⟨e9_, w1_, te_⟩ := px50_
      have na_ := dacc_l w1_
      have de9_ : dfe b_ n_ e9_ := Or.inl w1_
      have dz_ : idf sl_ S0_ Sx47_ := idf_tr (idf_pI d15_ (Or.inl (by decide))) (idf_fr hFx49_ (by decide) (by decide))
      have uz_ : Sx47_.1 3 sl_ 0 = 0 := ((hFx49_.1 3 sl_ 0 rfl).trans (rf_nt (by decide))).trans (u15_.trans hs3_)
      refine sm_T_go 0 (c1 := (49, [some (.inr (.inr (some (12, 0)))), some (.inl vx6_), some (.inl vx6_), none], [], Sx47_)) rfl ?_
      have bx52_ : 0 ≤ Sx47_.1 10 0 6 ∧ Sx47_.1 10 0 6 ≤ 23 := hIx48_.1 10 0 6 rfl
      have hIx53_ : gi (sm_pI Sx47_ 12 0 10 (Sx47_.1 10 0 6)) := gi_pI hIx48_ (show 0 ≤ (Sx47_.1 10 0 6) ∧ (Sx47_.1 10 0 6) ≤ 23 from ⟨by omega, by omega⟩)
      have hFx54_ : ai_fr (sx_W vw_213n) S0_ (sm_pI Sx47_ 12 0 10 (Sx47_.1 10 0 6)) := ai_fr_tr hFx51_ (ai_fr_pI rfl)
      have bx55_ : 0 ≤ Sx47_.1 10 0 7 ∧ Sx47_.1 10 0 7 ≤ 4095 := hIx48_.1 10 0 7 rfl
      refine sm_T_go 9 (c1 := (68, [some (.inr (.inr (some (12, 0)))), some (.inl vx6_), some (.inl vx6_), none], [.inl (Sx47_.1 10 0 7), .inl (-1)], sm_pI Sx47_ 12 0 10 (Sx47_.1 10 0 6))) rfl ?_
      refine sm_T_bin (w := -(Sx47_.1 10 0 7) - 1) rfl (bi_sub (by omega) (by omega) (by omega)) ?_
      have hIx56_ : gi (sm_pI (sm_pI Sx47_ 12 0 10 (Sx47_.1 10 0 6)) 10 0 1 0) := gi_pI hIx53_ (show 0 ≤ 0 ∧ 0 ≤ 1280 from ⟨by omega, by omega⟩)
      have hFx57_ : ai_fr (sx_W vw_213n) S0_ (sm_pI (sm_pI Sx47_ 12 0 10 (Sx47_.1 10 0 6)) 10 0 1 0) := ai_fr_tr hFx54_ (ai_fr_pI rfl)
      refine sm_T_go 6 (c1 := (79, [some (.inr (.inr (some (12, 0)))), some (.inl vx6_), some (.inl (-(Sx47_.1 10 0 7) - 1)), none], [.inl (-(Sx47_.1 10 0 7) - 1)], sm_pI (sm_pI Sx47_ 12 0 10 (Sx47_.1 10 0 6)) 10 0 1 0)) rfl ?_
      refine sm_T_ri rfl (Or.inl ⟨_, _, _, rfl, Nat.le_of_ble_eq_true rfl, _, rfl, hIx56_, hFx57_, ?_⟩)
      first | (exact absurd rfl e15_) | (refine ⟨sl_, hs2_, hs3_, hs4_, rf_eq, idf_pI d42_ (Or.inl (by decide)), Or.inl ⟨⟨r9_, z9_, ac_, dgx_fr (w_ := ([(10, 1)], [], [])) x6_ (ai_fr_pI rfl) rfl rfl rfl rfl rfl rfl, dcn_fr (w_ := ([(10, 1)], [], [])) x7_ (ai_fr_pI rfl), (rf_nt (by decide)).trans x8_, dcs_fr (w_ := ([(10, 1)], [], [])) xs (ai_fr_pI rfl), dct_fr (w_ := ([(10, 1)], [], [])) xt_ (ai_fr_pI rfl)⟩, (rf_nt (by decide)).trans x4_, ?_, by omega, (rf_nt (by decide)).trans lf42_⟩⟩; obtain ⟨F9_, y1_, y2_, y3_, y4_, y5_⟩ := x5_; have fz_ : ai_fr (sx_W ([(10, 1)], [], [])) _ ((sm_pI (sm_pI Sx47_ 12 0 10 (Sx47_.1 10 0 6)) 10 0 1 0)) := ai_fr_pI rfl; refine ⟨F9_, dgr_fr y1_ fz_ rfl rfl rfl rfl rfl, drt_fr y2_ fz_ rfl rfl rfl rfl rfl, swp_fr y3_ fz_ rfl rfl rfl rfl, dtb_fr y4_ fz_ rfl rfl, ?_⟩; rw [fz_.1 3 sl_ 5 rfl, fz_.1 3 sl_ 6 rfl, fz_.1 3 sl_ 2 rfl]; exact y5_) | (refine ⟨sl_, hs2_, hs3_, hs4_, rf_eq, idf_pI (idf_pI dz_ (Or.inl (by decide))) (Or.inl (by decide)), Or.inr ⟨na_, ?_, e9_, de9_, ?_, ?_⟩⟩; exact (rf_nt (by decide)).trans ((rf_nt (by decide)).trans uz_); (have t9_ := te_.2; omega); exact (rf_nt (by decide)).trans (rf_eq.trans te_.1))
    obtain ⟨rfl, hIx48_, hFx49_, px50_⟩ := px50_
    have hFx51_ : ai_fr (sx_W vw_213n) S0_ Sx47_ := ai_fr_tr hFx46_ (fr_le hFx49_ rfl)
    obtain ⟨r9_, w1_, w2_, w3_, w4_⟩ := px50_
    have lf29_ : Sx47_.1 12 0 10 = 0 := (hFx49_.1 12 0 10 rfl).trans rf_eq
    have d29_ : idf sl_ S0_ Sx47_ := idf_tr (idf_pI d15_ (Or.inl (by decide))) (idf_fr hFx49_ (by decide) (by decide))
    have u29_ : Sx47_.1 3 sl_ 0 = 0 := ((hFx49_.1 3 sl_ 0 rfl).trans (rf_nt (by decide))).trans (u15_.trans hs3_)
    refine sm_T_go 5 (c1 := (41, [some (.inr (.inr (some (12, 0)))), some (.inl vx6_), some (.inl vx6_), none], [.inl vx6_, .inr (.inr (some (110, 0))), .inr (.inr (some (1, 0)))], Sx47_)) rfl ?_
    refine sm_T_aald (t0 := 4) (n := 6) rfl rfl (by omega) (by omega) ?_
    refine sm_T_calh (d1_ := 27) (ex_ := 2) (Q1_ := vq_31n b_ n_ r9_ (vx6_.toNat) Sx47_) (Q2_ := vx_31n b_ n_ r9_ (vx6_.toNat) Sx47_) rfl rfl (by decide) (vc_31n b_ n_ r9_ (vx6_.toNat) Sx47_ hIx48_ (by exact w1_) (by exact w2_) (by exact w3_) (by exact w4_) (by exact hn1_)) rfl rfl (Nat.le_of_ble_eq_true rfl) (fun Sx58_ px61_ => ?_) (fun u_ Sx58_ px61_ => ?_)
    · obtain ⟨hIx59_, hFx60_, px61_⟩ := px61_
      have hFx62_ : ai_fr (sx_W vw_213n) S0_ Sx58_ := ai_fr_tr hFx51_ (fr_le hFx60_ rfl)
      obtain ⟨q1_, ⟨e9_, q2_, te_⟩, q3_⟩ := px61_
      rw [← hsv_, hs1_, Int.toNat_natCast] at q1_ q3_
      have na_ := dfl_na w1_ q2_
      have de9_ : dfe b_ n_ e9_ := Or.inr ⟨r9_, w1_, q2_⟩
      have dz_ : idf sl_ S0_ Sx58_ := idf_tr d29_ q1_
      have uz_ : Sx58_.1 3 sl_ 0 = 0 := q3_.trans u29_
      refine sm_T_go 0 (c1 := (49, [some (.inr (.inr (some (12, 0)))), some (.inl vx6_), some (.inl vx6_), none], [], Sx58_)) rfl ?_
      have bx63_ : 0 ≤ Sx58_.1 10 0 6 ∧ Sx58_.1 10 0 6 ≤ 23 := hIx59_.1 10 0 6 rfl
      have hIx64_ : gi (sm_pI Sx58_ 12 0 10 (Sx58_.1 10 0 6)) := gi_pI hIx59_ (show 0 ≤ (Sx58_.1 10 0 6) ∧ (Sx58_.1 10 0 6) ≤ 23 from ⟨by omega, by omega⟩)
      have hFx65_ : ai_fr (sx_W vw_213n) S0_ (sm_pI Sx58_ 12 0 10 (Sx58_.1 10 0 6)) := ai_fr_tr hFx62_ (ai_fr_pI rfl)
      have bx66_ : 0 ≤ Sx58_.1 10 0 7 ∧ Sx58_.1 10 0 7 ≤ 4095 := hIx59_.1 10 0 7 rfl
      refine sm_T_go 9 (c1 := (68, [some (.inr (.inr (some (12, 0)))), some (.inl vx6_), some (.inl vx6_), none], [.inl (Sx58_.1 10 0 7), .inl (-1)], sm_pI Sx58_ 12 0 10 (Sx58_.1 10 0 6))) rfl ?_
      refine sm_T_bin (w := -(Sx58_.1 10 0 7) - 1) rfl (bi_sub (by omega) (by omega) (by omega)) ?_
      have hIx67_ : gi (sm_pI (sm_pI Sx58_ 12 0 10 (Sx58_.1 10 0 6)) 10 0 1 0) := gi_pI hIx64_ (show 0 ≤ 0 ∧ 0 ≤ 1280 from ⟨by omega, by omega⟩)
      have hFx68_ : ai_fr (sx_W vw_213n) S0_ (sm_pI (sm_pI Sx58_ 12 0 10 (Sx58_.1 10 0 6)) 10 0 1 0) := ai_fr_tr hFx65_ (ai_fr_pI rfl)
      refine sm_T_go 6 (c1 := (79, [some (.inr (.inr (some (12, 0)))), some (.inl vx6_), some (.inl (-(Sx58_.1 10 0 7) - 1)), none], [.inl (-(Sx58_.1 10 0 7) - 1)], sm_pI (sm_pI Sx58_ 12 0 10 (Sx58_.1 10 0 6)) 10 0 1 0)) rfl ?_
      refine sm_T_ri rfl (Or.inl ⟨_, _, _, rfl, Nat.le_of_ble_eq_true rfl, _, rfl, hIx67_, hFx68_, ?_⟩)
      first | (exact absurd rfl e15_) | (refine ⟨sl_, hs2_, hs3_, hs4_, rf_eq, idf_pI d42_ (Or.inl (by decide)), Or.inl ⟨⟨r9_, z9_, ac_, dgx_fr (w_ := ([(10, 1)], [], [])) x6_ (ai_fr_pI rfl) rfl rfl rfl rfl rfl rfl, dcn_fr (w_ := ([(10, 1)], [], [])) x7_ (ai_fr_pI rfl), (rf_nt (by decide)).trans x8_, dcs_fr (w_ := ([(10, 1)], [], [])) xs (ai_fr_pI rfl), dct_fr (w_ := ([(10, 1)], [], [])) xt_ (ai_fr_pI rfl)⟩, (rf_nt (by decide)).trans x4_, ?_, by omega, (rf_nt (by decide)).trans lf42_⟩⟩; obtain ⟨F9_, y1_, y2_, y3_, y4_, y5_⟩ := x5_; have fz_ : ai_fr (sx_W ([(10, 1)], [], [])) _ ((sm_pI (sm_pI Sx58_ 12 0 10 (Sx58_.1 10 0 6)) 10 0 1 0)) := ai_fr_pI rfl; refine ⟨F9_, dgr_fr y1_ fz_ rfl rfl rfl rfl rfl, drt_fr y2_ fz_ rfl rfl rfl rfl rfl, swp_fr y3_ fz_ rfl rfl rfl rfl, dtb_fr y4_ fz_ rfl rfl, ?_⟩; rw [fz_.1 3 sl_ 5 rfl, fz_.1 3 sl_ 6 rfl, fz_.1 3 sl_ 2 rfl]; exact y5_) | (refine ⟨sl_, hs2_, hs3_, hs4_, rf_eq, idf_pI (idf_pI dz_ (Or.inl (by decide))) (Or.inl (by decide)), Or.inr ⟨na_, ?_, e9_, de9_, ?_, ?_⟩⟩; exact (rf_nt (by decide)).trans ((rf_nt (by decide)).trans uz_); (have t9_ := te_.2; omega); exact (rf_nt (by decide)).trans (rf_eq.trans te_.1))
    obtain ⟨rfl, hIx59_, hFx60_, px61_⟩ := px61_
    have hFx62_ : ai_fr (sx_W vw_213n) S0_ Sx58_ := ai_fr_tr hFx51_ (fr_le hFx60_ rfl)
    obtain ⟨dx69_, px61_⟩ := px61_
    have e42_ := px61_
    have k42_ := dx69_
    rw [← hsv_, hs1_, Int.toNat_natCast] at e42_ k42_
    have lf42_ : Sx58_.1 12 0 10 = 0 := (hFx60_.1 12 0 10 rfl).trans lf29_
    have d42_ : idf sl_ S0_ Sx58_ := idf_tr d29_ k42_
    obtain ⟨x1_, ⟨z9_, x2_, x3_, x6_, x7_, x8_, xs, xt_⟩, x4_, x5_⟩ := e42_
    have ac_ : dok b_ n_ r9_ z9_ := ⟨w1_, x1_, x2_, x3_⟩
    have hIx70_ : gi (sm_pI Sx58_ 10 0 1 0) := gi_pI hIx59_ (show 0 ≤ 0 ∧ 0 ≤ 1280 from ⟨by omega, by omega⟩)
    have hFx71_ : ai_fr (sx_W vw_213n) S0_ (sm_pI Sx58_ 10 0 1 0) := ai_fr_tr hFx62_ (ai_fr_pI rfl)
    refine sm_T_go 6 (c1 := (79, [some (.inr (.inr (some (12, 0)))), some (.inl vx6_), some (.inl vx6_), none], [.inl vx6_], sm_pI Sx58_ 10 0 1 0)) rfl ?_
    refine sm_T_ri rfl (Or.inl ⟨_, _, _, rfl, Nat.le_of_ble_eq_true rfl, _, rfl, hIx70_, hFx71_, ?_⟩)
    first | (exact absurd rfl e15_) | (refine ⟨sl_, hs2_, hs3_, hs4_, rf_eq, idf_pI d42_ (Or.inl (by decide)), Or.inl ⟨⟨r9_, z9_, ac_, dgx_fr (w_ := ([(10, 1)], [], [])) x6_ (ai_fr_pI rfl) rfl rfl rfl rfl rfl rfl, dcn_fr (w_ := ([(10, 1)], [], [])) x7_ (ai_fr_pI rfl), (rf_nt (by decide)).trans x8_, dcs_fr (w_ := ([(10, 1)], [], [])) xs (ai_fr_pI rfl), dct_fr (w_ := ([(10, 1)], [], [])) xt_ (ai_fr_pI rfl)⟩, (rf_nt (by decide)).trans x4_, ?_, by omega, (rf_nt (by decide)).trans lf42_⟩⟩; obtain ⟨F9_, y1_, y2_, y3_, y4_, y5_⟩ := x5_; have fz_ : ai_fr (sx_W ([(10, 1)], [], [])) _ ((sm_pI Sx58_ 10 0 1 0)) := ai_fr_pI rfl; refine ⟨F9_, dgr_fr y1_ fz_ rfl rfl rfl rfl rfl, drt_fr y2_ fz_ rfl rfl rfl rfl rfl, swp_fr y3_ fz_ rfl rfl rfl rfl, dtb_fr y4_ fz_ rfl rfl, ?_⟩; rw [fz_.1 3 sl_ 5 rfl, fz_.1 3 sl_ 6 rfl, fz_.1 3 sl_ 2 rfl]; exact y5_) | (refine ⟨sl_, hs2_, hs3_, hs4_, rf_eq, idf_pI (idf_pI dz_ (Or.inl (by decide))) (Or.inl (by decide)), Or.inr ⟨na_, ?_, e9_, de9_, ?_, ?_⟩⟩; exact (rf_nt (by decide)).trans ((rf_nt (by decide)).trans uz_); (have t9_ := te_.2; omega); exact (rf_nt (by decide)).trans (rf_eq.trans te_.1))
end
/-! 99.ztZ5 -/
section
/-! the mapper: needed nodes and uses; written by wip/p55/gen/vg -/

/-! uses of_ nodes -/
def psm (g_ : Nat → Nat) (a_ : Nat) : Nat → Nat
  | 0 => 0
  | l_ + 1 => psm g_ a_ l_ + g_ (a_ + l_)
theorem psm_c {g_ : Nat → Nat} {a_ : Nat} : ∀ l_ : Nat, psm g_ a_ (l_ + 1) = g_ a_ + psm g_ (a_ + 1) l_
  | 0 => by
    show 0 + g_ (a_ + 0) = g_ a_ + 0
    rw [Nat.zero_add, Nat.add_zero, Nat.add_zero]
  | l_ + 1 => by
    show psm g_ a_ (l_ + 1) + g_ (a_ + (l_ + 1)) = g_ a_ + (psm g_ (a_ + 1) l_ + g_ (a_ + 1 + l_))
    rw [psm_c l_, show a_ + 1 + l_ = a_ + (l_ + 1) by omega]
    omega
theorem psm_cg {g_ h_ : Nat → Nat} {a_ : Nat} : ∀ l_ : Nat, (∀ i_, i_ < l_ → g_ (a_ + i_) = h_ (a_ + i_)) → psm g_ a_ l_ = psm h_ a_ l_
  | 0, _ => rfl
  | l_ + 1, e_ => by
    show psm g_ a_ l_ + g_ (a_ + l_) = psm h_ a_ l_ + h_ (a_ + l_)
    rw [psm_cg l_ (fun i_ hi_ => e_ i_ (by omega)), e_ l_ (Nat.lt_succ_self l_)]
def rcn (sf_ rt_ : Nat → Int) : Nat → Nat → Nat
  | 0, _ => 0
  | k_ + 1, q_ => rcn sf_ rt_ k_ q_ + if q_ = nsw sf_ (rt_ k_) then 1 else 0
def pgn (sf_ lo_ hi_ : Nat → Int) (nd_ : Nat → Bool) (q_ n_ : Nat) : Nat := if nd_ n_ = true then (if q_ = nsw sf_ (lo_ n_) then 1 else 0) + (if q_ = nsw sf_ (hi_ n_) then 1 else 0) else 0
/-- which nodes are_ needed -/
def ndf (F_ N_ K_ : Nat) (sf_ lo_ hi_ rt_ : Nat → Int) : Nat → Bool := (ndk N_ sf_ lo_ hi_ (nd0 sf_ rt_ K_) (N_ - F_)).1
/-- uses; a_ root counts for_ two_ -/
def usn (F_ N_ K_ : Nat) (sf_ lo_ hi_ rt_ : Nat → Int) (q_ : Nat) : Nat := 2 * rcn sf_ rt_ K_ q_ + psm (pgn sf_ lo_ hi_ (ndf F_ N_ K_ sf_ lo_ hi_ rt_) q_) F_ (N_ - F_)
theorem inc2 {u_ : Nat → Int} {a_ b_ q_ c_ : Nat} (h_ : u_ q_ = (c_ : Int)) : (if q_ = b_ then (if b_ = a_ then u_ a_ + 1 else u_ b_) + 1 else if q_ = a_ then u_ a_ + 1 else u_ q_) = ((c_ + ((if q_ = a_ then 1 else 0) + (if q_ = b_ then 1 else 0)) : Nat) : Int) := by
  by_cases z_ : q_ = b_
  · subst z_
    rw [if_pos rfl, if_pos rfl]
    by_cases y_ : q_ = a_
    · subst y_
      rw [if_pos rfl, if_pos rfl, h_]
      omega
    · rw [if_neg y_, if_neg y_, h_]
      omega
  · rw [if_neg z_, if_neg z_]
    by_cases y_ : q_ = a_
    · subst y_
      rw [if_pos rfl, if_pos rfl, h_]
      omega
    · rw [if_neg y_, if_neg y_, h_]
      omega
theorem nsw_le {N_ : Nat} {sf_ : Nat → Int} {l_ : Int} (hs_ : ∀ m_, m_ < N_ → 0 ≤ sf_ m_ ∧ sf_ m_ ≤ 2 * (m_ : Int) + 1) (h0_ : 0 ≤ l_) (h1_ : l_ < 2 * (N_ : Int)) : (nsw sf_ l_ : Int) ≤ l_ / 2 := by
  have s_ := hs_ (l_ / 2).toNat (by omega)
  unfold nsw
  omega
theorem ndk_st {F_ N_ : Nat} {sf_ lo_ hi_ : Nat → Int} {m0_ : Nat → Bool} (hg_ : glo F_ N_ lo_ hi_) (hs_ : ∀ m_, m_ < N_ → 0 ≤ sf_ m_ ∧ sf_ m_ ≤ 2 * (m_ : Int) + 1) {j_ q_ : Nat} (hj_ : j_ < N_ - F_) (hq_ : N_ - 1 - j_ ≤ q_) : (ndk N_ sf_ lo_ hi_ m0_ (j_ + 1)).1 q_ = (ndk N_ sf_ lo_ hi_ m0_ j_).1 q_ := by
  have g_ := hg_ (N_ - 1 - j_) (by omega) (by omega)
  have b1_ := nsw_le hs_ (l_ := lo_ (N_ - 1 - j_)) (by omega) (by omega)
  have b2_ := nsw_le hs_ (l_ := hi_ (N_ - 1 - j_)) (by omega) (by omega)
  cases x_ : (ndk N_ sf_ lo_ hi_ m0_ j_).1 (N_ - 1 - j_)
  · rw [ndk_n x_]
  · rw [ndk_y x_]
    show (((ndk N_ sf_ lo_ hi_ m0_ j_).1 q_ || decide (q_ = nsw sf_ (lo_ (N_ - 1 - j_)))) || decide (q_ = nsw sf_ (hi_ (N_ - 1 - j_)))) = (ndk N_ sf_ lo_ hi_ m0_ j_).1 q_
    rw [decide_eq_false (show ¬ q_ = nsw sf_ (lo_ (N_ - 1 - j_)) by omega), decide_eq_false (show ¬ q_ = nsw sf_ (hi_ (N_ - 1 - j_)) by omega), Bool.or_false, Bool.or_false]
theorem ndk_fn {F_ N_ : Nat} {sf_ lo_ hi_ : Nat → Int} {m0_ : Nat → Bool} (hg_ : glo F_ N_ lo_ hi_) (hs_ : ∀ m_, m_ < N_ → 0 ≤ sf_ m_ ∧ sf_ m_ ≤ 2 * (m_ : Int) + 1) : ∀ (i_ j_ q_ : Nat), j_ + i_ = N_ - F_ → N_ - 1 - j_ ≤ q_ → (ndk N_ sf_ lo_ hi_ m0_ (N_ - F_)).1 q_ = (ndk N_ sf_ lo_ hi_ m0_ j_).1 q_
  | 0, j_, q_, e_, _ => by
    have e_ : j_ = N_ - F_ := e_
    rw [e_]
  | i_ + 1, j_, q_, e_, h_ => by
    rw [ndk_fn hg_ hs_ i_ (j_ + 1) q_ (by omega) (by omega)]
    exact ndk_st hg_ hs_ (by omega) h_

/-! Design.markNeeded -/
def vw_67mn : sx_Wl := ([], [59], [])
def vq_67mn (dd_ : Nat) (F_ : Nat) (S0_ : sm_S) (u_ : Option sm_V) (S1_ : sm_S) : Prop := ∃ v_ : Int, u_ = some (.inl v_) ∧ gi S1_ ∧ ai_fr (sx_W vw_67mn) S0_ S1_ ∧ (((0 ≤ v_ ∧ v_ ≤ 1000) ∧ mkd dd_ F_ S1_ (S1_.2.2.1 59 0)) ∧ ndi (S0_.1 3 dd_ 4).toNat ((S0_.1 3 dd_ 4).toNat - F_) (S0_.2.2.1 44 (0 + dd_)) (S0_.2.2.1 42 (0 + dd_)) (S0_.2.2.1 43 (0 + dd_)) (nd0 (S0_.2.2.1 44 (0 + dd_)) (fun j_ => rtv dd_ S0_ (j_ : Int)) (S0_.1 3 dd_ 3 + S0_.1 3 dd_ 2).toNat) (S1_.2.2.1 59 0) v_)
set_option maxHeartbeats 2000000 in
theorem vl_67mn {sc_ : Nat × (Nat → Int)} (dd_ : Nat) (F_ : Nat) (S0_ : sm_S) (hg_ : dgr dd_ F_ S0_) (hr_ : drt dd_ S0_) (hs_ : swp dd_ F_ S0_) : ∀ nn_ : Nat, (∀ (k_ : Int) (S_ : sm_S), gi S_ → ai_fr (sx_W vw_67mn) S0_ S_ → ((ni0 (S0_.1 3 dd_ 4).toNat k_.toNat (S0_.2.2.1 44 (0 + dd_)) (fun j_ => rtv dd_ S0_ (j_ : Int)) (S_.2.2.1 59 0)) ∧ (0 ≤ k_ ∧ k_ ≤ S0_.1 3 dd_ 3 + S0_.1 3 dd_ 2) ∧ (∀ j9_ : Nat, j9_ < 1013 → S_.2.2.1 59 0 j9_ = 0 ∨ (S_.2.2.1 59 0 j9_ = 1 ∧ (j9_ : Int) < S0_.1 3 dd_ 4 ∧ S0_.2.2.1 44 (0 + dd_) j9_ = 2 * (j9_ : Int))) ∧ (∀ i9_ : Int, 0 ≤ i9_ → i9_ < k_ → S_.2.2.1 59 0 (srp dd_ S0_ (rtv dd_ S0_ i9_)) = 1) ∧ True) → ((5000 + (100 - k_)).toNat) < nn_ → sm_T (mt_P sc_) 1 67 (7, [some (.inr (.inr (some (3, dd_)))), some (.inr (.inr (some (59, 0)))), some (.inl k_), none], [], S_) (fun ro9_ => ∃ u_ S1_, ro9_ = (.inl u_, S1_, 0) ∧ vq_67mn dd_ F_ S0_ u_ S1_)) ∧ (∀ (c_ : Int) (n_ : Int) (S_ : sm_S), gi S_ → ai_fr (sx_W vw_67mn) S0_ S_ → ((ndi (S0_.1 3 dd_ 4).toNat (S0_.1 3 dd_ 4 - 1 - n_).toNat (S0_.2.2.1 44 (0 + dd_)) (S0_.2.2.1 42 (0 + dd_)) (S0_.2.2.1 43 (0 + dd_)) (nd0 (S0_.2.2.1 44 (0 + dd_)) (fun j_ => rtv dd_ S0_ (j_ : Int)) (S0_.1 3 dd_ 3 + S0_.1 3 dd_ 2).toNat) (S_.2.2.1 59 0) c_) ∧ ((F_ : Int) - 1 ≤ n_ ∧ n_ < S0_.1 3 dd_ 4 ∧ 0 ≤ c_ ∧ c_ ≤ S0_.1 3 dd_ 4 - 1 - n_) ∧ (∀ j9_ : Nat, j9_ < 1013 → S_.2.2.1 59 0 j9_ = 0 ∨ (S_.2.2.1 59 0 j9_ = 1 ∧ (j9_ : Int) < S0_.1 3 dd_ 4 ∧ S0_.2.2.1 44 (0 + dd_) j9_ = 2 * (j9_ : Int))) ∧ (∀ i9_ : Int, 0 ≤ i9_ → i9_ < S0_.1 3 dd_ 3 + S0_.1 3 dd_ 2 → S_.2.2.1 59 0 (srp dd_ S0_ (rtv dd_ S0_ i9_)) = 1) ∧ (∀ j9_ : Nat, n_ < (j9_ : Int) → F_ ≤ j9_ → (j9_ : Int) < S0_.1 3 dd_ 4 → S_.2.2.1 59 0 j9_ = 1 → S_.2.2.1 59 0 (srp dd_ S0_ (S0_.2.2.1 42 (0 + dd_) j9_)) = 1 ∧ S_.2.2.1 59 0 (srp dd_ S0_ (S0_.2.2.1 43 (0 + dd_) j9_)) = 1) ∧ True) → ((n_ + 1).toNat) < nn_ → sm_T (mt_P sc_) 1 67 (44, [some (.inr (.inr (some (3, dd_)))), some (.inr (.inr (some (59, 0)))), some (.inl c_), some (.inl n_)], [], S_) (fun ro9_ => ∃ u_ S1_, ro9_ = (.inl u_, S1_, 0) ∧ vq_67mn dd_ F_ S0_ u_ S1_)) := by
  intro nn_
  induction nn_ with
  | zero => exact ⟨fun _ _ _ _ _ h_ => absurd h_ (Nat.not_lt_zero _), fun _ _ _ _ _ _ h_ => absurd h_ (Nat.not_lt_zero _)⟩
  | succ nn_ ih_ =>
    refine ⟨?_, ?_⟩
    · rintro k_ S_ hI_ hF_ ⟨hnd_, h0_, hz_, hq_, -⟩ hm_
      have g1_ := hg_.1
      have g2_ := hg_.2.1
      have r1_ := hr_.1
      have e2_ : S_.1 3 dd_ 2 = S0_.1 3 dd_ 2 := hF_.1 3 dd_ 2 rfl
      have e1_ : S_.1 3 dd_ 1 = S0_.1 3 dd_ 1 := hF_.1 3 dd_ 1 rfl
      have e3_ : S_.1 3 dd_ 3 = S0_.1 3 dd_ 3 := hF_.1 3 dd_ 3 rfl
      have e4_ : S_.1 3 dd_ 4 = S0_.1 3 dd_ 4 := hF_.1 3 dd_ 4 rfl
      have n13_ : S_.1 3 dd_ 4 ≤ 1013 := (hI_.1 3 dd_ 4 rfl).2
      have f44_ : S_.2.2.1 44 (0 + dd_) = S0_.2.2.1 44 (0 + dd_) := fr_arr hF_ rfl
      have f42_ : S_.2.2.1 42 (0 + dd_) = S0_.2.2.1 42 (0 + dd_) := fr_arr hF_ rfl
      have f43_ : S_.2.2.1 43 (0 + dd_) = S0_.2.2.1 43 (0 + dd_) := fr_arr hF_ rfl
      have f45_ : S_.2.2.1 45 (0 + dd_) = S0_.2.2.1 45 (0 + dd_) := fr_arr hF_ rfl
      have f46_ : S_.2.2.1 46 (0 + dd_) = S0_.2.2.1 46 (0 + dd_) := fr_arr hF_ rfl
      refine sm_T_go 2 (c1 := (9, [some (.inr (.inr (some (3, dd_)))), some (.inr (.inr (some (59, 0)))), some (.inl k_), none], [.inr (.inr (some (3, dd_))), .inl k_], S_)) rfl ?_
      refine sm_T_cal (d1 := 0) (Q1 := vq_66 dd_ S_) rfl rfl (by decide) (vc_66 dd_ S_ hI_ (by omega)) (fun u_ Sx1_ px4_ => ?_)
      obtain ⟨rfl, vx6_, rfl, px4_⟩ := px4_
      have e9_ := px4_
      refine sm_T_br (a := 3) (z := 23) rfl (fun cx7_ => ?_) (fun cx7_ => ?_)
      · have cx7_ : vx6_ ≤ k_ := of_decide_eq_true cx7_
        have bx8_ : 0 ≤ S_.1 3 dd_ 4 ∧ S_.1 3 dd_ 4 ≤ 1013 := hI_.1 3 dd_ 4 rfl
        refine sm_T_go 5 (c1 := (42, [some (.inr (.inr (some (3, dd_)))), some (.inr (.inr (some (59, 0)))), some (.inl 0), none], [.inl 1, .inl (S_.1 3 dd_ 4)], S_)) rfl ?_
        refine sm_T_bin (w := (S_.1 3 dd_ 4) - 1) rfl (bi_sub (by omega) (by omega) (by omega)) ?_ -- pc_ 42
        refine sm_T_go 1 (c1 := (44, [some (.inr (.inr (some (3, dd_)))), some (.inr (.inr (some (59, 0)))), some (.inl 0), some (.inl ((S_.1 3 dd_ 4) - 1))], [], S_)) rfl ?_
        refine ih_.2 0 ((S_.1 3 dd_ 4) - 1) S_ hI_ hF_ ⟨?_, ?_, ?_, ?_, ?_, trivial⟩ ?_
        · have j9_ : ∀ x9_ : Int, x9_ = S0_.1 3 dd_ 4 - 1 → (S0_.1 3 dd_ 4 - 1 - x9_).toNat = 0 := fun x9_ y9_ => by omega
          rw [j9_ _ (by omega), show (S0_.1 3 dd_ 3 + S0_.1 3 dd_ 2).toNat = k_.toNat by omega]
          exact ndi_0 hnd_
        · omega
        · exact hz_
        · (intro i9_ q8_ q9_; exact hq_ i9_ q8_ (by omega))
        · (intro j9_ q7_ q8_ q9_; omega)
        · omega
      · have cx7_ : ¬ (vx6_ ≤ k_) := of_decide_eq_false cx7_
        refine sm_T_go 4 (c1 := (19, [some (.inr (.inr (some (3, dd_)))), some (.inr (.inr (some (59, 0)))), some (.inl k_), none], [.inl k_, .inr (.inr (some (3, dd_))), .inr (.inr (some (3, dd_))), .inr (.inr (some (59, 0)))], S_)) rfl ?_
        refine sm_T_cal (d1 := 0) (Q1 := vq_65 k_ dd_ S_) rfl rfl (by decide) (vc_65 k_ dd_ S_ hI_ (by exact drt_fr hr_ hF_ rfl rfl rfl rfl rfl) (by omega)) (fun u_ Sx9_ px12_ => ?_)
        obtain ⟨rfl, vx14_, rfl, px12_⟩ := px12_
        have e19_ := px12_
        have v19_ : vx14_ = rtv dd_ S0_ k_ := by rw [e19_.1]; unfold rtv; rw [e3_, f45_, f46_]
        refine sm_T_cal (d1 := 0) (Q1 := vq_64 vx14_ dd_ S_) rfl rfl (by decide) (vc_64 vx14_ dd_ S_ hI_ (by omega)) (fun u_ Sx15_ px18_ => ?_)
        obtain ⟨rfl, vx20_, rfl, px18_⟩ := px18_
        have e22_ := px18_
        rw [f44_] at e22_
        have sw9_ := swl_n hs_ (l_ := rtv dd_ S0_ k_) (by omega) (by omega) (by omega)
        rw [v19_] at e22_
        rw [← e22_] at sw9_
        have sb9_ := srp_b hs_ (l_ := rtv dd_ S0_ k_) (by omega) (by omega)
        have tn9_ : (vx20_ / 2).toNat = srp dd_ S0_ (rtv dd_ S0_ k_) := by omega
        refine sm_T_go 1 (c1 := (26, [some (.inr (.inr (some (3, dd_)))), some (.inr (.inr (some (59, 0)))), some (.inl k_), none], [.inl 1, .inl vx20_, .inr (.inr (some (59, 0)))], S_)) rfl ?_
        refine sm_T_bin (w := (vx20_ / 2)) rfl (bi_shr (k := 1) (by decide) (by omega) (by omega)) ?_ -- pc_ 26
        refine sm_T_go 1 (c1 := (28, [some (.inr (.inr (some (3, dd_)))), some (.inr (.inr (some (59, 0)))), some (.inl k_), none], [.inl 1, .inl (vx20_ / 2), .inr (.inr (some (59, 0)))], S_)) rfl ?_
        refine sm_T_iast (n := 1013) rfl rfl (by omega) (by omega) ?_
        have hIx21_ : gi (sm_aI S_ 59 0 (vx20_ / 2).toNat 1) := gi_aI hI_ (show 0 ≤ 1 ∧ 1 ≤ 1 from ⟨by omega, by omega⟩)
        have hFx22_ : ai_fr (sx_W vw_67mn) S0_ (sm_aI S_ 59 0 (vx20_ / 2).toNat 1) := ai_fr_tr hF_ (ai_fr_aI rfl)
        refine sm_T_inc (a := 2) (z := 1) (v := k_) (w := k_ + 1) rfl rfl (by omega) (by omega) (by omega) ?_ -- pc_ 29
        refine sm_T_go 1 (c1 := (7, [some (.inr (.inr (some (3, dd_)))), some (.inr (.inr (some (59, 0)))), some (.inl (k_ + 1)), none], [], sm_aI S_ 59 0 (vx20_ / 2).toNat 1)) rfl ?_
        refine ih_.1 (k_ + 1) (sm_aI S_ 59 0 (vx20_ / 2).toNat 1) hIx21_ hFx22_ ⟨?_, ?_, ?_, ?_, trivial⟩ ?_
        · rw [show (k_ + 1).toNat = k_.toNat + 1 by omega]
          refine ni0_s hnd_ (fun q9_ => rd_eq.trans ?_)
          show _ = if q9_ = srp dd_ S0_ (rtv dd_ S0_ ((k_.toNat : Nat) : Int)) then 1 else _
          rw [show ((k_.toNat : Nat) : Int) = k_ by omega, ← tn9_]
        · omega
        · intro j9_ hj9_
          rw [rd_eq]
          by_cases z9_ : j9_ = srp dd_ S0_ (rtv dd_ S0_ k_)
          · rw [if_pos (by omega)]; right; rw [z9_]; exact ⟨rfl, by omega, sb9_.2.1⟩
          · rw [if_neg (by omega)]; exact hz_ j9_ hj9_
        · intro i9_ q8_ q9_
          rw [rd_eq]
          by_cases z9_ : srp dd_ S0_ (rtv dd_ S0_ i9_) = srp dd_ S0_ (rtv dd_ S0_ k_)
          · rw [if_pos (by omega)]
          · rw [if_neg (by omega)]; exact hq_ i9_ q8_ (by by_cases y9_ : i9_ = k_; (exact absurd (by rw [y9_]) z9_); omega)
        · omega
    · rintro c_ n_ S_ hI_ hF_ ⟨hnd_, h0_, hz_, hq_, hc_, -⟩ hm_
      have g1_ := hg_.1
      have g2_ := hg_.2.1
      have r1_ := hr_.1
      have e2_ : S_.1 3 dd_ 2 = S0_.1 3 dd_ 2 := hF_.1 3 dd_ 2 rfl
      have e1_ : S_.1 3 dd_ 1 = S0_.1 3 dd_ 1 := hF_.1 3 dd_ 1 rfl
      have e3_ : S_.1 3 dd_ 3 = S0_.1 3 dd_ 3 := hF_.1 3 dd_ 3 rfl
      have e4_ : S_.1 3 dd_ 4 = S0_.1 3 dd_ 4 := hF_.1 3 dd_ 4 rfl
      have n13_ : S_.1 3 dd_ 4 ≤ 1013 := (hI_.1 3 dd_ 4 rfl).2
      have f44_ : S_.2.2.1 44 (0 + dd_) = S0_.2.2.1 44 (0 + dd_) := fr_arr hF_ rfl
      have f42_ : S_.2.2.1 42 (0 + dd_) = S0_.2.2.1 42 (0 + dd_) := fr_arr hF_ rfl
      have f43_ : S_.2.2.1 43 (0 + dd_) = S0_.2.2.1 43 (0 + dd_) := fr_arr hF_ rfl
      have f45_ : S_.2.2.1 45 (0 + dd_) = S0_.2.2.1 45 (0 + dd_) := fr_arr hF_ rfl
      have f46_ : S_.2.2.1 46 (0 + dd_) = S0_.2.2.1 46 (0 + dd_) := fr_arr hF_ rfl
      refine sm_T_go 2 (c1 := (46, [some (.inr (.inr (some (3, dd_)))), some (.inr (.inr (some (59, 0)))), some (.inl c_), some (.inl n_)], [.inr (.inr (some (3, dd_))), .inl n_], S_)) rfl ?_
      refine sm_T_cal (d1 := 0) (Q1 := vq_63 dd_ S_) rfl rfl (by decide) (vc_63 dd_ S_ hI_ (by omega)) (fun u_ Sx1_ px4_ => ?_)
      obtain ⟨rfl, vx6_, rfl, px4_⟩ := px4_
      have e46_ := px4_
      refine sm_T_br (a := 2) (z := 48) rfl (fun cx7_ => ?_) (fun cx7_ => ?_)
      · have cx7_ : n_ < vx6_ := of_decide_eq_true cx7_
        refine sm_T_go 1 (c1 := (98, [some (.inr (.inr (some (3, dd_)))), some (.inr (.inr (some (59, 0)))), some (.inl c_), some (.inl n_)], [.inl c_], S_)) rfl ?_
        refine sm_T_ri rfl ⟨_, _, rfl, _, rfl, hI_, hF_, ?_⟩
        refine ⟨⟨by omega, fun j9_ hj9_ => ?_, fun i9_ q8_ q9_ => ?_, fun j9_ q7_ q8_ q9_ => ?_⟩, by (rw [show (S0_.1 3 dd_ 4 - 1 - n_).toNat = (S0_.1 3 dd_ 4).toNat - F_ by omega] at hnd_; exact hnd_)⟩
        · have q9_ := hz_ j9_ hj9_; rw [e4_, f44_]; exact q9_
        · have q7_ := hq_ i9_ q8_ (by omega); unfold srp rtv; rw [e3_, f44_, f45_, f46_]; exact q7_
        · have q6_ := hc_ j9_ (by omega) q7_ (by omega) q9_; unfold srp; rw [f42_, f43_, f44_]; exact q6_
      · have cx7_ : ¬ (n_ < vx6_) := of_decide_eq_false cx7_
        have gn_ := hg_.2.2 n_.toNat (by omega) (by omega)
        rw [← f42_, ← f43_] at gn_
        refine sm_T_go 2 (c1 := (54, [some (.inr (.inr (some (3, dd_)))), some (.inr (.inr (some (59, 0)))), some (.inl c_), some (.inl n_)], [.inl n_, .inr (.inr (some (59, 0)))], S_)) rfl ?_
        refine sm_T_iald (n := 1013) rfl rfl (by omega) (by omega) ?_
        have bx8_ : 0 ≤ S_.2.2.1 59 0 n_.toNat ∧ S_.2.2.1 59 0 n_.toNat ≤ 1 := hI_.2 59 0 _
        refine sm_T_b0 (a := 0) (z := 36) rfl (fun cx9_ => ?_) (fun cx9_ => ?_)
        · have cx9_ : (S_.2.2.1 59 0 n_.toNat) = 0 := of_decide_eq_true cx9_
          refine sm_T_inc (a := 3) (z := (-1)) (v := n_) (w := n_ - 1) rfl rfl (by omega) (by omega) (by omega) ?_ -- pc_ 91
          refine sm_T_go 1 (c1 := (44, [some (.inr (.inr (some (3, dd_)))), some (.inr (.inr (some (59, 0)))), some (.inl c_), some (.inl (n_ - 1))], [], S_)) rfl ?_
          refine ih_.2 c_ (n_ - 1) S_ hI_ hF_ ⟨?_, ?_, ?_, ?_, ?_, trivial⟩ ?_
          · have j9_ : ∀ x9_ : Int, x9_ = n_ - 1 → (S0_.1 3 dd_ 4 - 1 - x9_).toNat = (S0_.1 3 dd_ 4 - 1 - n_).toNat + 1 := fun x9_ y9_ => by omega
            rw [j9_ _ (by omega)]
            exact ndi_n (n_ := n_.toNat) hnd_ (by omega) (by omega) (by omega)
          · omega
          · exact hz_
          · exact hq_
          · intro j9_ q6_ q7_ q8_ q9_
            by_cases z9_ : (j9_ : Int) = n_
            · exfalso; rw [show j9_ = n_.toNat by omega] at q9_; omega
            · exact hc_ j9_ (by omega) q7_ q8_ q9_
          · omega
        · have cx9_ : ¬ ((S_.2.2.1 59 0 n_.toNat) = 0) := of_decide_eq_false cx9_
          refine sm_T_inc (a := 2) (z := 1) (v := c_) (w := c_ + 1) rfl rfl (by omega) (by omega) (by omega) ?_ -- pc_ 58
          refine sm_T_go 5 (c1 := (68, [some (.inr (.inr (some (3, dd_)))), some (.inr (.inr (some (59, 0)))), some (.inl (c_ + 1)), some (.inl n_)], [.inl n_, .inr (.inr (some (42, (0 + dd_)))), .inr (.inr (some (3, dd_))), .inr (.inr (some (59, 0)))], S_)) rfl ?_
          refine sm_T_iald (n := 1013) rfl rfl (by omega) (by omega) ?_
          have bx10_ : 0 ≤ S_.2.2.1 42 (0 + dd_) n_.toNat ∧ S_.2.2.1 42 (0 + dd_) n_.toNat ≤ 2025 := hI_.2 42 (0 + dd_) _
          refine sm_T_cal (d1 := 0) (Q1 := vq_64 (S_.2.2.1 42 (0 + dd_) n_.toNat) dd_ S_) rfl rfl (by decide) (vc_64 (S_.2.2.1 42 (0 + dd_) n_.toNat) dd_ S_ hI_ (by omega)) (fun u_ Sx11_ px14_ => ?_)
          obtain ⟨rfl, vx16_, rfl, px14_⟩ := px14_
          have e69_ := px14_
          rw [f44_, f42_] at e69_
          rw [f42_, f43_] at gn_
          have sw9_ := swl_n hs_ (l_ := S0_.2.2.1 42 (0 + dd_) n_.toNat) (by omega) (by omega) (by omega)
          rw [← e69_] at sw9_
          have sb9_ := srp_b hs_ (l_ := S0_.2.2.1 42 (0 + dd_) n_.toNat) (by omega) (by omega)
          have tl9_ : (vx16_ / 2).toNat = srp dd_ S0_ (S0_.2.2.1 42 (0 + dd_) n_.toNat) := by omega
          refine sm_T_go 1 (c1 := (73, [some (.inr (.inr (some (3, dd_)))), some (.inr (.inr (some (59, 0)))), some (.inl (c_ + 1)), some (.inl n_)], [.inl 1, .inl vx16_, .inr (.inr (some (59, 0)))], S_)) rfl ?_
          refine sm_T_bin (w := (vx16_ / 2)) rfl (bi_shr (k := 1) (by decide) (by omega) (by omega)) ?_ -- pc_ 73
          refine sm_T_go 1 (c1 := (75, [some (.inr (.inr (some (3, dd_)))), some (.inr (.inr (some (59, 0)))), some (.inl (c_ + 1)), some (.inl n_)], [.inl 1, .inl (vx16_ / 2), .inr (.inr (some (59, 0)))], S_)) rfl ?_
          refine sm_T_iast (n := 1013) rfl rfl (by omega) (by omega) ?_
          have hIx17_ : gi (sm_aI S_ 59 0 (vx16_ / 2).toNat 1) := gi_aI hI_ (show 0 ≤ 1 ∧ 1 ≤ 1 from ⟨by omega, by omega⟩)
          have hFx18_ : ai_fr (sx_W vw_67mn) S0_ (sm_aI S_ 59 0 (vx16_ / 2).toNat 1) := ai_fr_tr hF_ (ai_fr_aI rfl)
          refine sm_T_go 5 (c1 := (83, [some (.inr (.inr (some (3, dd_)))), some (.inr (.inr (some (59, 0)))), some (.inl (c_ + 1)), some (.inl n_)], [.inl n_, .inr (.inr (some (43, (0 + dd_)))), .inr (.inr (some (3, dd_))), .inr (.inr (some (59, 0)))], sm_aI S_ 59 0 (vx16_ / 2).toNat 1)) rfl ?_
          refine sm_T_iald (n := 1013) rfl rfl (by omega) (by omega) ?_
          have bx19_ : 0 ≤ S_.2.2.1 43 (0 + dd_) n_.toNat ∧ S_.2.2.1 43 (0 + dd_) n_.toNat ≤ 2025 := hI_.2 43 (0 + dd_) _
          refine sm_T_go 0 (c1 := (84, [some (.inr (.inr (some (3, dd_)))), some (.inr (.inr (some (59, 0)))), some (.inl (c_ + 1)), some (.inl n_)], [.inl (S_.2.2.1 43 (0 + dd_) n_.toNat), .inr (.inr (some (3, dd_))), .inr (.inr (some (59, 0)))], sm_aI S_ 59 0 (vx16_ / 2).toNat 1)) rfl ?_
          refine sm_T_cal (d1 := 0) (Q1 := vq_64 (S_.2.2.1 43 (0 + dd_) n_.toNat) dd_ (sm_aI S_ 59 0 (vx16_ / 2).toNat 1)) rfl rfl (by decide) (vc_64 (S_.2.2.1 43 (0 + dd_) n_.toNat) dd_ (sm_aI S_ 59 0 (vx16_ / 2).toNat 1) hIx17_ (by (rw [f43_]; omega))) (fun u_ Sx20_ px23_ => ?_)
          obtain ⟨rfl, vx25_, rfl, px23_⟩ := px23_
          have e84_ := px23_
          simp only [rd_ne, ne_eq, Nat.reduceEqDiff, not_false_eq_true] at e84_
          rw [f44_, f43_] at e84_
          have sw8_ := swl_n hs_ (l_ := S0_.2.2.1 43 (0 + dd_) n_.toNat) (by omega) (by omega) (by omega)
          rw [← e84_] at sw8_
          have sb8_ := srp_b hs_ (l_ := S0_.2.2.1 43 (0 + dd_) n_.toNat) (by omega) (by omega)
          have th9_ : (vx25_ / 2).toNat = srp dd_ S0_ (S0_.2.2.1 43 (0 + dd_) n_.toNat) := by omega
          refine sm_T_go 1 (c1 := (88, [some (.inr (.inr (some (3, dd_)))), some (.inr (.inr (some (59, 0)))), some (.inl (c_ + 1)), some (.inl n_)], [.inl 1, .inl vx25_, .inr (.inr (some (59, 0)))], sm_aI S_ 59 0 (vx16_ / 2).toNat 1)) rfl ?_
          refine sm_T_bin (w := (vx25_ / 2)) rfl (bi_shr (k := 1) (by decide) (by omega) (by omega)) ?_ -- pc_ 88
          refine sm_T_go 1 (c1 := (90, [some (.inr (.inr (some (3, dd_)))), some (.inr (.inr (some (59, 0)))), some (.inl (c_ + 1)), some (.inl n_)], [.inl 1, .inl (vx25_ / 2), .inr (.inr (some (59, 0)))], sm_aI S_ 59 0 (vx16_ / 2).toNat 1)) rfl ?_
          refine sm_T_iast (n := 1013) rfl rfl (by omega) (by omega) ?_
          have hIx26_ : gi (sm_aI (sm_aI S_ 59 0 (vx16_ / 2).toNat 1) 59 0 (vx25_ / 2).toNat 1) := gi_aI hIx17_ (show 0 ≤ 1 ∧ 1 ≤ 1 from ⟨by omega, by omega⟩)
          have hFx27_ : ai_fr (sx_W vw_67mn) S0_ (sm_aI (sm_aI S_ 59 0 (vx16_ / 2).toNat 1) 59 0 (vx25_ / 2).toNat 1) := ai_fr_tr hFx18_ (ai_fr_aI rfl)
          refine sm_T_inc (a := 3) (z := (-1)) (v := n_) (w := n_ - 1) rfl rfl (by omega) (by omega) (by omega) ?_ -- pc_ 91
          refine sm_T_go 1 (c1 := (44, [some (.inr (.inr (some (3, dd_)))), some (.inr (.inr (some (59, 0)))), some (.inl (c_ + 1)), some (.inl (n_ - 1))], [], sm_aI (sm_aI S_ 59 0 (vx16_ / 2).toNat 1) 59 0 (vx25_ / 2).toNat 1)) rfl ?_
          refine ih_.2 (c_ + 1) (n_ - 1) (sm_aI (sm_aI S_ 59 0 (vx16_ / 2).toNat 1) 59 0 (vx25_ / 2).toNat 1) hIx26_ hFx27_ ⟨?_, ?_, ?_, ?_, ?_, trivial⟩ ?_
          · have j9_ : ∀ x9_ : Int, x9_ = n_ - 1 → (S0_.1 3 dd_ 4 - 1 - x9_).toNat = (S0_.1 3 dd_ 4 - 1 - n_).toNat + 1 := fun x9_ y9_ => by omega
            rw [j9_ _ (by omega)]
            refine ndi_y (n_ := n_.toNat) hnd_ ?_ (by omega) (by omega) (fun q9_ => ?_)
            · rcases hz_ n_.toNat (by omega) with z9_ | z9_
              · exfalso; omega
              · exact z9_.1
            · rw [rd_eq, rd_eq]
              show _ = if q9_ = srp dd_ S0_ (S0_.2.2.1 43 (0 + dd_) n_.toNat) then 1 else if q9_ = srp dd_ S0_ (S0_.2.2.1 42 (0 + dd_) n_.toNat) then 1 else _
              rw [← tl9_, ← th9_]
          · omega
          · intro j9_ hj9_
            rw [rd_eq]
            by_cases z9_ : j9_ = srp dd_ S0_ (S0_.2.2.1 43 (0 + dd_) n_.toNat)
            · rw [if_pos (by omega)]; right; rw [z9_]; exact ⟨rfl, by omega, sb8_.2.1⟩
            · rw [if_neg (by omega), rd_eq]
              by_cases y9_ : j9_ = srp dd_ S0_ (S0_.2.2.1 42 (0 + dd_) n_.toNat)
              · rw [if_pos (by omega)]; right; rw [y9_]; exact ⟨rfl, by omega, sb9_.2.1⟩
              · rw [if_neg (by omega)]; exact hz_ j9_ hj9_
          · intro i9_ q8_ q9_
            rw [rd_eq]
            split
            · rfl
            · rw [rd_eq]; split; rfl; exact hq_ i9_ q8_ q9_
          · have mono : ∀ j8_ : Nat, S_.2.2.1 59 0 j8_ = 1 → ((sm_aI (sm_aI S_ 59 0 (vx16_ / 2).toNat 1) 59 0 (vx25_ / 2).toNat 1)).2.2.1 59 0 j8_ = 1 := fun j8_ w8_ => by rw [rd_eq]; split; rfl; (rw [rd_eq]; split; rfl; exact w8_)
            intro j9_ q6_ q7_ q8_ q9_
            by_cases z9_ : (j9_ : Int) = n_
            · rw [show j9_ = n_.toNat by omega]
              refine ⟨?_, ?_⟩
              · rw [rd_eq]; split; rfl; (rw [rd_eq, if_pos (by omega)])
              · rw [rd_eq, if_pos (by omega)]
            · have lt9_ := hg_.2.2 j9_ q7_ q8_
              have q5_ : S_.2.2.1 59 0 j9_ = 1 := by rw [rd_eq, if_neg (by omega), rd_eq, if_neg (by omega)] at q9_; exact q9_
              have w9_ := hc_ j9_ (by omega) q7_ q8_ q5_
              exact ⟨mono _ w9_.1, mono _ w9_.2⟩
          · omega
set_option maxHeartbeats 2000000 in
theorem vc_67mn {sc_ : Nat × (Nat → Int)} (dd_ : Nat) (F_ : Nat) (S0_ : sm_S) (hI_ : gi S0_) (hg_ : dgr dd_ F_ S0_) (hr_ : drt dd_ S0_) (hs_ : swp dd_ F_ S0_) : sm_T (mt_P sc_) 1 67 (0, [some (.inr (.inr (some (3, dd_)))), some (.inr (.inr (some (59, 0)))), none, none], [], S0_) (fun ro9_ => ∃ u_ S1_, ro9_ = (.inl u_, S1_, 0) ∧ vq_67mn dd_ F_ S0_ u_ S1_) := by
  have hF_ : ai_fr (sx_W vw_67mn) S0_ S0_ := ai_fr_rf
  refine sm_T_go 2 (c1 := (2, [some (.inr (.inr (some (3, dd_)))), some (.inr (.inr (some (59, 0)))), none, none], [.inl 0, .inr (.inr (some (59, 0)))], S0_)) rfl ?_
  refine sm_T_cal (d1 := 0) (Q1 := vq_2m9 0 S0_) rfl rfl (by decide) (vc_2m9 0 S0_ hI_ (by decide)) (fun u_ Sx1_ px4_ => ?_)
  obtain ⟨rfl, hIx2_, hFx3_, px4_⟩ := px4_
  have hFx5_ : ai_fr (sx_W vw_67mn) S0_ Sx1_ := ai_fr_tr hF_ (fr_le hFx3_ rfl)
  have e0_ := px4_
  refine sm_T_go 2 (c1 := (7, [some (.inr (.inr (some (3, dd_)))), some (.inr (.inr (some (59, 0)))), some (.inl 0), none], [], Sx1_)) rfl ?_
  refine (vl_67mn dd_ F_ S0_ hg_ hr_ hs_ _).1 0 Sx1_ hIx2_ hFx5_ ⟨?_, ?_, ?_, ?_, trivial⟩ (Nat.lt_succ_self _)
  · (have g1_ := hg_.1; have g2_ := hg_.2.1; exact ni0_0 (fun q9_ hq9_ => e0_ q9_ (by omega)))
  · (have r1_ := hr_.1; omega)
  · (intro j9_ hj9_; left; exact e0_ j9_ hj9_)
  · (intro i9_ q8_ q9_; omega)
/-! Mapper.findRoots -/
def vw_95n : sx_Wl := ([], [60], [])
def vq_95n (dd_ : Nat) (F_ : Nat) (S0_ : sm_S) (u_ : Option sm_V) (S1_ : sm_S) : Prop := u_ = none ∧ gi S1_ ∧ ai_fr (sx_W vw_95n) S0_ S1_ ∧ ((∀ q9_ : Nat, (q9_ : Int) < S0_.1 3 dd_ 4 → S1_.2.2.1 60 0 q9_ = if 1 < usn F_ (S0_.1 3 dd_ 4).toNat (S0_.1 3 dd_ 3 + S0_.1 3 dd_ 2).toNat (S0_.2.2.1 44 (0 + dd_)) (S0_.2.2.1 42 (0 + dd_)) (S0_.2.2.1 43 (0 + dd_)) (fun j_ => rtv dd_ S0_ (j_ : Int)) q9_ then 1 else 0) ∧ ∀ i_ : Int, 0 ≤ i_ → i_ < S0_.1 3 dd_ 3 + S0_.1 3 dd_ 2 → S1_.2.2.1 60 0 (srp dd_ S0_ (rtv dd_ S0_ i_)) ≠ 0)
set_option maxHeartbeats 3000000 in
theorem vl_95n {sc_ : Nat × (Nat → Int)} (dd_ : Nat) (F_ : Nat) (S0_ : sm_S) (hd_ : S0_.2.1 6 0 0 = some dd_) (hr_ : drt dd_ S0_) (hg_ : dgr dd_ F_ S0_) (hs_ : swp dd_ F_ S0_) (hnf_ : ∀ q9_ : Nat, (q9_ : Int) < S0_.1 3 dd_ 4 → (S0_.2.2.1 59 0 q9_ = 0 ∨ S0_.2.2.1 59 0 q9_ = 1) ∧ (S0_.2.2.1 59 0 q9_ = 1 ↔ (ndf F_ (S0_.1 3 dd_ 4).toNat (S0_.1 3 dd_ 3 + S0_.1 3 dd_ 2).toNat (S0_.2.2.1 44 (0 + dd_)) (S0_.2.2.1 42 (0 + dd_)) (S0_.2.2.1 43 (0 + dd_)) (fun j_ => rtv dd_ S0_ (j_ : Int))) q9_ = true)) : ∀ nn_ : Nat, (∀ (k_ : Int) (S_ : sm_S), gi S_ → ai_fr (sx_W vw_95n) S0_ S_ → ((∀ q9_ : Nat, (q9_ : Int) < S0_.1 3 dd_ 4 → S_.2.2.1 60 0 q9_ = 2 * ((rcn (S0_.2.2.1 44 (0 + dd_)) (fun j_ => rtv dd_ S0_ (j_ : Int)) k_.toNat q9_ : Nat) : Int)) ∧ (0 ≤ k_ ∧ k_ ≤ S0_.1 3 dd_ 3 + S0_.1 3 dd_ 2) ∧ (∀ j_ : Nat, j_ < 1013 → 0 ≤ S_.2.2.1 60 0 j_ ∧ S_.2.2.1 60 0 j_ ≤ 2 * k_) ∧ (∀ i_ : Int, 0 ≤ i_ → i_ < k_ → 2 ≤ S_.2.2.1 60 0 (srp dd_ S0_ (rtv dd_ S0_ i_))) ∧ True) → ((9000 - k_).toNat) < nn_ → sm_T (mt_P sc_) 2 95 (10, [some (.inr (.inr (some (6, 0)))), some (.inl k_)], [], S_) (fun ro9_ => ∃ u_ S1_, ro9_ = (.inl u_, S1_, 0) ∧ vq_95n dd_ F_ S0_ u_ S1_)) ∧ (∀ (n_ : Int) (S_ : sm_S), gi S_ → ai_fr (sx_W vw_95n) S0_ S_ → ((∀ q9_ : Nat, (q9_ : Int) < S0_.1 3 dd_ 4 → S_.2.2.1 60 0 q9_ = ((2 * rcn (S0_.2.2.1 44 (0 + dd_)) (fun j_ => rtv dd_ S0_ (j_ : Int)) (S0_.1 3 dd_ 3 + S0_.1 3 dd_ 2).toNat q9_ + psm (pgn (S0_.2.2.1 44 (0 + dd_)) (S0_.2.2.1 42 (0 + dd_)) (S0_.2.2.1 43 (0 + dd_)) (ndf F_ (S0_.1 3 dd_ 4).toNat (S0_.1 3 dd_ 3 + S0_.1 3 dd_ 2).toNat (S0_.2.2.1 44 (0 + dd_)) (S0_.2.2.1 42 (0 + dd_)) (S0_.2.2.1 43 (0 + dd_)) (fun j_ => rtv dd_ S0_ (j_ : Int))) q9_) F_ (n_.toNat - F_) : Nat) : Int)) ∧ ((F_ : Int) ≤ n_ ∧ n_ ≤ S0_.1 3 dd_ 4) ∧ (0 ≤ n_ ∧ n_ ≤ 1013) ∧ (∀ j_ : Nat, j_ < 1013 → 0 ≤ S_.2.2.1 60 0 j_ ∧ S_.2.2.1 60 0 j_ ≤ 100 + 2 * n_) ∧ (∀ i_ : Int, 0 ≤ i_ → i_ < S0_.1 3 dd_ 3 + S0_.1 3 dd_ 2 → 2 ≤ S_.2.2.1 60 0 (srp dd_ S0_ (rtv dd_ S0_ i_))) ∧ True) → ((5000 - n_).toNat) < nn_ → sm_T (mt_P sc_) 2 95 (61, [some (.inr (.inr (some (6, 0)))), some (.inl n_)], [], S_) (fun ro9_ => ∃ u_ S1_, ro9_ = (.inl u_, S1_, 0) ∧ vq_95n dd_ F_ S0_ u_ S1_)) ∧ (∀ (n_ : Int) (S_ : sm_S), gi S_ → ai_fr (sx_W vw_95n) S0_ S_ → ((∀ q9_ : Nat, (q9_ : Int) < S0_.1 3 dd_ 4 → S_.2.2.1 60 0 q9_ = if (q9_ : Int) < n_ then (if 1 < usn F_ (S0_.1 3 dd_ 4).toNat (S0_.1 3 dd_ 3 + S0_.1 3 dd_ 2).toNat (S0_.2.2.1 44 (0 + dd_)) (S0_.2.2.1 42 (0 + dd_)) (S0_.2.2.1 43 (0 + dd_)) (fun j_ => rtv dd_ S0_ (j_ : Int)) q9_ then 1 else 0) else ((usn F_ (S0_.1 3 dd_ 4).toNat (S0_.1 3 dd_ 3 + S0_.1 3 dd_ 2).toNat (S0_.2.2.1 44 (0 + dd_)) (S0_.2.2.1 42 (0 + dd_)) (S0_.2.2.1 43 (0 + dd_)) (fun j_ => rtv dd_ S0_ (j_ : Int)) q9_ : Nat) : Int)) ∧ (0 ≤ n_ ∧ n_ ≤ 1013) ∧ (∀ i_ : Int, 0 ≤ i_ → i_ < S0_.1 3 dd_ 3 + S0_.1 3 dd_ 2 → imq ((srp dd_ S0_ (rtv dd_ S0_ i_) : Int) < n_) (S_.2.2.1 60 0 (srp dd_ S0_ (rtv dd_ S0_ i_)) = 1) ∧ imq (n_ ≤ (srp dd_ S0_ (rtv dd_ S0_ i_) : Int)) (2 ≤ S_.2.2.1 60 0 (srp dd_ S0_ (rtv dd_ S0_ i_)))) ∧ True) → ((2000 - n_).toNat) < nn_ → sm_T (mt_P sc_) 2 95 (117, [some (.inr (.inr (some (6, 0)))), some (.inl n_)], [], S_) (fun ro9_ => ∃ u_ S1_, ro9_ = (.inl u_, S1_, 0) ∧ vq_95n dd_ F_ S0_ u_ S1_)) := by
  intro nn_
  induction nn_ with
  | zero => exact ⟨fun _ _ _ _ _ h_ => absurd h_ (Nat.not_lt_zero _), fun _ _ _ _ _ h_ => absurd h_ (Nat.not_lt_zero _), fun _ _ _ _ _ h_ => absurd h_ (Nat.not_lt_zero _)⟩
  | succ nn_ ih_ =>
    refine ⟨?_, ?_, ?_⟩
    · rintro k_ S_ hI_ hF_ ⟨hu_, h0_, hb_, hq_, -⟩ hm_
      have r1_ := hr_.1
      have c1_ : 0 ≤ S_.1 3 dd_ 1 ∧ S_.1 3 dd_ 1 ≤ 320 := hI_.1 3 dd_ 1 rfl
      have n13_ : 0 ≤ S_.1 3 dd_ 4 ∧ S_.1 3 dd_ 4 ≤ 1013 := hI_.1 3 dd_ 4 rfl
      have f1_ : S_.1 3 dd_ 1 = S0_.1 3 dd_ 1 := hF_.1 3 dd_ 1 rfl
      have f2_ : S_.1 3 dd_ 2 = S0_.1 3 dd_ 2 := hF_.1 3 dd_ 2 rfl
      have f3_ : S_.1 3 dd_ 3 = S0_.1 3 dd_ 3 := hF_.1 3 dd_ 3 rfl
      have f4_ : S_.1 3 dd_ 4 = S0_.1 3 dd_ 4 := hF_.1 3 dd_ 4 rfl
      have g1_ := hg_.1
      have f44_ : S_.2.2.1 44 (0 + dd_) = S0_.2.2.1 44 (0 + dd_) := fr_arr hF_ rfl
      have f45_ : S_.2.2.1 45 (0 + dd_) = S0_.2.2.1 45 (0 + dd_) := fr_arr hF_ rfl
      have f46_ : S_.2.2.1 46 (0 + dd_) = S0_.2.2.1 46 (0 + dd_) := fr_arr hF_ rfl
      refine sm_T_go 2 (c1 := (12, [some (.inr (.inr (some (6, 0)))), some (.inl k_)], [.inr (.inr (some (6, 0))), .inl k_], S_)) rfl ?_
      refine sm_T_gr rfl rfl ((hF_.2.1 6 0 0 rfl).trans hd_) ?_
      refine sm_T_cal (d1 := 0) (Q1 := vq_66 dd_ S_) rfl rfl (by decide) (vc_66 dd_ S_ hI_ (by omega)) (fun u_ Sx1_ px4_ => ?_)
      obtain ⟨rfl, vx6_, rfl, px4_⟩ := px4_
      have r15_ := px4_
      refine sm_T_br (a := 3) (z := 35) rfl (fun cx7_ => ?_) (fun cx7_ => ?_)
      · have cx7_ : vx6_ ≤ k_ := of_decide_eq_true cx7_
        refine sm_T_go 1 (c1 := (54, [some (.inr (.inr (some (6, 0)))), some (.inl k_)], [.inr (.inr (some (6, 0)))], S_)) rfl ?_
        refine sm_T_gr rfl rfl ((hF_.2.1 6 0 0 rfl).trans hd_) ?_
        refine sm_T_cal (d1 := 0) (Q1 := vq_63 dd_ S_) rfl rfl (by decide) (vc_63 dd_ S_ hI_ (by omega)) (fun u_ Sx8_ px11_ => ?_)
        obtain ⟨rfl, vx13_, rfl, px11_⟩ := px11_
        have a57_ := px11_
        refine sm_T_go 1 (c1 := (61, [some (.inr (.inr (some (6, 0)))), some (.inl vx13_)], [], S_)) rfl ?_
        refine ih_.2.1 vx13_ S_ hI_ hF_ ⟨?_, ?_, ?_, ?_, ?_, trivial⟩ ?_
        · intro q9_ hq9_
          have w9_ := hu_ q9_ hq9_
          rw [w9_, show (S0_.1 3 dd_ 3 + S0_.1 3 dd_ 2).toNat = k_.toNat by omega]
          have n9_ : ∀ x9_ : Int, x9_ = (F_ : Int) → x9_.toNat - F_ = 0 := fun x9_ y9_ => by omega
          rw [n9_ _ (by omega)]
          show _ = ((2 * rcn (S0_.2.2.1 44 (0 + dd_)) (fun j_ => rtv dd_ S0_ (j_ : Int)) k_.toNat q9_ + 0 : Nat) : Int)
          omega
        · (have c9_ := hg_.2.1; have c8_ := hg_.1.1; omega)
        · omega
        · (intro j_ hj_; have w9_ := hb_ j_ hj_; omega)
        · (intro i_ u_ w_; exact hq_ i_ u_ (by omega))
        · omega
      · have cx7_ : ¬ (vx6_ ≤ k_) := of_decide_eq_false cx7_
        refine sm_T_go 3 (c1 := (26, [some (.inr (.inr (some (6, 0)))), some (.inl k_)], [.inr (.inr (some (6, 0))), .inr (.inr (some (60, 0)))], S_)) rfl ?_
        refine sm_T_gr rfl rfl ((hF_.2.1 6 0 0 rfl).trans hd_) ?_
        refine sm_T_go 1 (c1 := (30, [some (.inr (.inr (some (6, 0)))), some (.inl k_)], [.inr (.inr (some (6, 0))), .inr (.inr (some (3, dd_))), .inr (.inr (some (60, 0)))], S_)) rfl ?_
        refine sm_T_gr rfl rfl ((hF_.2.1 6 0 0 rfl).trans hd_) ?_
        refine sm_T_go 1 (c1 := (34, [some (.inr (.inr (some (6, 0)))), some (.inl k_)], [.inl k_, .inr (.inr (some (3, dd_))), .inr (.inr (some (3, dd_))), .inr (.inr (some (60, 0)))], S_)) rfl ?_
        refine sm_T_cal (d1 := 0) (Q1 := vq_65 k_ dd_ S_) rfl rfl (by decide) (vc_65 k_ dd_ S_ hI_ (by exact drt_fr hr_ hF_ rfl rfl rfl rfl rfl) (by omega)) (fun u_ Sx14_ px17_ => ?_)
        obtain ⟨rfl, vx19_, rfl, px17_⟩ := px17_
        have t34_ := px17_
        have v34_ : vx19_ = rtv dd_ S0_ k_ := by (rw [t34_.1]; unfold rtv; rw [f3_, f45_, f46_])
        refine sm_T_cal (d1 := 0) (Q1 := vq_64 vx19_ dd_ S_) rfl rfl (by decide) (vc_64 vx19_ dd_ S_ hI_ (by omega)) (fun u_ Sx20_ px23_ => ?_)
        obtain ⟨rfl, vx25_, rfl, px23_⟩ := px23_
        have e37_ := px23_
        have x37_ : 0 ≤ vx25_ ∧ vx25_ ≤ 2025 := by (rw [e37_]; exact swx (hI_.2 44 (0 + dd_) _) (by omega))
        rw [f44_, v34_] at e37_
        have rb9_ := (rtv_b hr_ hs_ h0_.1 (show k_ < S0_.1 3 dd_ 3 + S0_.1 3 dd_ 2 by omega)).1
        have sw9_ := swl_n hs_ (l_ := rtv dd_ S0_ k_) rb9_.1 rb9_.2 (by omega)
        rw [← e37_] at sw9_
        have tn9_ : (vx25_ / 2).toNat = srp dd_ S0_ (rtv dd_ S0_ k_) := by omega
        have hb9_ := hb_ (vx25_ / 2).toNat (by omega)
        refine sm_T_go 1 (c1 := (41, [some (.inr (.inr (some (6, 0)))), some (.inl k_)], [.inl 1, .inl vx25_, .inr (.inr (some (60, 0)))], S_)) rfl ?_
        refine sm_T_bin (w := (vx25_ / 2)) rfl (bi_shr (k := 1) (by decide) (by omega) (by omega)) ?_ -- pc_ 41
        refine sm_T_go 1 (c1 := (43, [some (.inr (.inr (some (6, 0)))), some (.inl k_)], [.inl (vx25_ / 2), .inr (.inr (some (60, 0))), .inl (vx25_ / 2), .inr (.inr (some (60, 0)))], S_)) rfl ?_
        refine sm_T_iald (n := 1013) rfl rfl (by omega) (by omega) ?_
        have bx26_ : (-2147483648) ≤ S_.2.2.1 60 0 (vx25_ / 2).toNat ∧ S_.2.2.1 60 0 (vx25_ / 2).toNat ≤ 2147483647 := hI_.2 60 0 _
        refine sm_T_go 1 (c1 := (45, [some (.inr (.inr (some (6, 0)))), some (.inl k_)], [.inl 2, .inl (S_.2.2.1 60 0 (vx25_ / 2).toNat), .inl (vx25_ / 2), .inr (.inr (some (60, 0)))], S_)) rfl ?_
        refine sm_T_bin (w := (S_.2.2.1 60 0 (vx25_ / 2).toNat) + 2) rfl (bi_add (by omega) (by omega) (by omega)) ?_ -- pc_ 45
        refine sm_T_iast (n := 1013) rfl rfl (by omega) (by omega) ?_
        have hIx27_ : gi (sm_aI S_ 60 0 (vx25_ / 2).toNat ((S_.2.2.1 60 0 (vx25_ / 2).toNat) + 2)) := gi_aI hI_ (show (-2147483648) ≤ (S_.2.2.1 60 0 (vx25_ / 2).toNat) + 2 ∧ (S_.2.2.1 60 0 (vx25_ / 2).toNat) + 2 ≤ 2147483647 from ⟨by omega, by omega⟩)
        have hFx28_ : ai_fr (sx_W vw_95n) S0_ (sm_aI S_ 60 0 (vx25_ / 2).toNat ((S_.2.2.1 60 0 (vx25_ / 2).toNat) + 2)) := ai_fr_tr hF_ (ai_fr_aI rfl)
        refine sm_T_inc (a := 1) (z := 1) (v := k_) (w := k_ + 1) rfl rfl (by omega) (by omega) (by omega) ?_ -- pc_ 47
        refine sm_T_go 1 (c1 := (10, [some (.inr (.inr (some (6, 0)))), some (.inl (k_ + 1))], [], sm_aI S_ 60 0 (vx25_ / 2).toNat ((S_.2.2.1 60 0 (vx25_ / 2).toNat) + 2))) rfl ?_
        refine ih_.1 (k_ + 1) (sm_aI S_ 60 0 (vx25_ / 2).toNat ((S_.2.2.1 60 0 (vx25_ / 2).toNat) + 2)) hIx27_ hFx28_ ⟨?_, ?_, ?_, ?_, trivial⟩ ?_
        · intro q9_ hq9_
          have w9_ := hu_ q9_ hq9_
          rw [show (k_ + 1).toNat = k_.toNat + 1 by omega, rd_eq]
          show _ = 2 * ((rcn (S0_.2.2.1 44 (0 + dd_)) (fun j_ => rtv dd_ S0_ (j_ : Int)) k_.toNat q9_ + (if q9_ = srp dd_ S0_ (rtv dd_ S0_ ((k_.toNat : Nat) : Int)) then 1 else 0) : Nat) : Int)
          rw [show ((k_.toNat : Nat) : Int) = k_ by omega]
          by_cases z9_ : q9_ = srp dd_ S0_ (rtv dd_ S0_ k_)
          · rw [if_pos (by omega), if_pos z9_, tn9_, ← z9_, w9_]; omega
          · rw [if_neg (by omega), if_neg z9_, w9_]; omega
        · omega
        · intro j_ hj_
          rw [rd_eq]
          have w9_ := hb_ j_ hj_
          split
          · omega
          · omega
        · intro i_ u_ w_
          rw [rd_eq]
          by_cases y_ : i_ = k_
          · rw [if_pos (by rw [y_, tn9_])]; omega
          · have w8_ := hq_ i_ u_ (by omega)
            split
            · omega
            · exact w8_
        · omega
    · rintro n_ S_ hI_ hF_ ⟨hu_, hn9_, h0_, hb_, hq_, -⟩ hm_
      have r1_ := hr_.1
      have c1_ : 0 ≤ S_.1 3 dd_ 1 ∧ S_.1 3 dd_ 1 ≤ 320 := hI_.1 3 dd_ 1 rfl
      have n13_ : 0 ≤ S_.1 3 dd_ 4 ∧ S_.1 3 dd_ 4 ≤ 1013 := hI_.1 3 dd_ 4 rfl
      have f1_ : S_.1 3 dd_ 1 = S0_.1 3 dd_ 1 := hF_.1 3 dd_ 1 rfl
      have f2_ : S_.1 3 dd_ 2 = S0_.1 3 dd_ 2 := hF_.1 3 dd_ 2 rfl
      have f3_ : S_.1 3 dd_ 3 = S0_.1 3 dd_ 3 := hF_.1 3 dd_ 3 rfl
      have f4_ : S_.1 3 dd_ 4 = S0_.1 3 dd_ 4 := hF_.1 3 dd_ 4 rfl
      have g1_ := hg_.1
      have f44_ : S_.2.2.1 44 (0 + dd_) = S0_.2.2.1 44 (0 + dd_) := fr_arr hF_ rfl
      have f45_ : S_.2.2.1 45 (0 + dd_) = S0_.2.2.1 45 (0 + dd_) := fr_arr hF_ rfl
      have f46_ : S_.2.2.1 46 (0 + dd_) = S0_.2.2.1 46 (0 + dd_) := fr_arr hF_ rfl
      refine sm_T_go 2 (c1 := (63, [some (.inr (.inr (some (6, 0)))), some (.inl n_)], [.inr (.inr (some (6, 0))), .inl n_], S_)) rfl ?_
      refine sm_T_gr rfl rfl ((hF_.2.1 6 0 0 rfl).trans hd_) ?_
      have bx1_ : 0 ≤ S_.1 3 dd_ 4 ∧ S_.1 3 dd_ 4 ≤ 1013 := hI_.1 3 dd_ 4 rfl
      refine sm_T_go 1 (c1 := (69, [some (.inr (.inr (some (6, 0)))), some (.inl n_)], [.inl (S_.1 3 dd_ 4), .inl n_], S_)) rfl ?_
      refine sm_T_br (a := 3) (z := 46) rfl (fun cx2_ => ?_) (fun cx2_ => ?_)
      · have cx2_ : (S_.1 3 dd_ 4) ≤ n_ := of_decide_eq_true cx2_
        refine sm_T_go 2 (c1 := (117, [some (.inr (.inr (some (6, 0)))), some (.inl 0)], [], S_)) rfl ?_
        refine ih_.2.2 0 S_ hI_ hF_ ⟨?_, ?_, ?_, trivial⟩ ?_
        · intro q9_ hq9_
          have w9_ := hu_ q9_ hq9_
          rw [if_neg (by omega), w9_]
          unfold usn
          rw [show n_.toNat - F_ = (S0_.1 3 dd_ 4).toNat - F_ by omega]
        · omega
        · intro i_ u_ w_
          exact ⟨fun q9_ => by (exfalso; omega), fun _ => hq_ i_ u_ w_⟩
        · omega
      · have cx2_ : ¬ ((S_.1 3 dd_ 4) ≤ n_) := of_decide_eq_false cx2_
        refine sm_T_go 3 (c1 := (77, [some (.inr (.inr (some (6, 0)))), some (.inl n_)], [.inl n_, .inr (.inr (some (59, 0)))], S_)) rfl ?_
        refine sm_T_iald (n := 1013) rfl rfl (by omega) (by omega) ?_
        have bx3_ : 0 ≤ S_.2.2.1 59 0 n_.toNat ∧ S_.2.2.1 59 0 n_.toNat ≤ 1 := hI_.2 59 0 _
        refine sm_T_b0 (a := 0) (z := 31) rfl (fun cx4_ => ?_) (fun cx4_ => ?_)
        · have cx4_ : (S_.2.2.1 59 0 n_.toNat) = 0 := of_decide_eq_true cx4_
          refine sm_T_inc (a := 1) (z := 1) (v := n_) (w := n_ + 1) rfl rfl (by omega) (by omega) (by omega) ?_ -- pc_ 109
          refine sm_T_go 1 (c1 := (61, [some (.inr (.inr (some (6, 0)))), some (.inl (n_ + 1))], [], S_)) rfl ?_
          refine ih_.2.1 (n_ + 1) S_ hI_ hF_ ⟨?_, ?_, ?_, ?_, ?_, trivial⟩ ?_
          · intro q9_ hq9_
            have w9_ := hu_ q9_ hq9_
            have nf9_ := hnf_ n_.toNat (by omega)
            have f59_ : S_.2.2.1 59 0 = S0_.2.2.1 59 0 := fr_arr hF_ rfl
            have fb9_ : (ndf F_ (S0_.1 3 dd_ 4).toNat (S0_.1 3 dd_ 3 + S0_.1 3 dd_ 2).toNat (S0_.2.2.1 44 (0 + dd_)) (S0_.2.2.1 42 (0 + dd_)) (S0_.2.2.1 43 (0 + dd_)) (fun j_ => rtv dd_ S0_ (j_ : Int))) n_.toNat ≠ true := fun z9_ => by (have y9_ := nf9_.2.mpr z9_; rw [← f59_] at y9_; omega)
            rw [w9_, show (n_ + 1).toNat - F_ = (n_.toNat - F_) + 1 by omega]
            show _ = ((2 * rcn (S0_.2.2.1 44 (0 + dd_)) (fun j_ => rtv dd_ S0_ (j_ : Int)) (S0_.1 3 dd_ 3 + S0_.1 3 dd_ 2).toNat q9_ + (psm (pgn (S0_.2.2.1 44 (0 + dd_)) (S0_.2.2.1 42 (0 + dd_)) (S0_.2.2.1 43 (0 + dd_)) (ndf F_ (S0_.1 3 dd_ 4).toNat (S0_.1 3 dd_ 3 + S0_.1 3 dd_ 2).toNat (S0_.2.2.1 44 (0 + dd_)) (S0_.2.2.1 42 (0 + dd_)) (S0_.2.2.1 43 (0 + dd_)) (fun j_ => rtv dd_ S0_ (j_ : Int))) q9_) F_ (n_.toNat - F_) + pgn (S0_.2.2.1 44 (0 + dd_)) (S0_.2.2.1 42 (0 + dd_)) (S0_.2.2.1 43 (0 + dd_)) (ndf F_ (S0_.1 3 dd_ 4).toNat (S0_.1 3 dd_ 3 + S0_.1 3 dd_ 2).toNat (S0_.2.2.1 44 (0 + dd_)) (S0_.2.2.1 42 (0 + dd_)) (S0_.2.2.1 43 (0 + dd_)) (fun j_ => rtv dd_ S0_ (j_ : Int))) q9_ (F_ + (n_.toNat - F_))) : Nat) : Int)
            rw [show F_ + (n_.toNat - F_) = n_.toNat by omega]
            unfold pgn
            rw [if_neg fb9_]
            omega
          · omega
          · omega
          · first | (intro j_ hj_; rw [rd_eq]; have w9_ := hb6_ j_ hj_; split; (omega); (omega)) | (intro j_ hj_; have w9_ := hb_ j_ hj_; omega)
          · first | exact hq_ | (intro i_ u_ w_; rw [rd_eq]; have w9_ := hq6_ _ (hq_ i_ u_ w_); split; (rename_i z9_; rw [z9_] at w9_; omega); (exact w9_))
          · omega
        · have cx4_ : ¬ ((S_.2.2.1 59 0 n_.toNat) = 0) := of_decide_eq_false cx4_
          refine sm_T_go 4 (c1 := (87, [some (.inr (.inr (some (6, 0)))), some (.inl n_)], [.inl n_, .inr (.inr (some (6, 0))), .inr (.inr (some (60, 0)))], S_)) rfl ?_
          refine sm_T_cal (d1 := 1) (Q1 := vq_92 n_ dd_ S_) rfl rfl (by decide) (vc_92 n_ dd_ S_ hI_ (by exact (hF_.2.1 6 0 0 rfl).trans hd_) (by omega)) (fun u_ Sx5_ px8_ => ?_)
          obtain ⟨rfl, vx10_, rfl, px8_⟩ := px8_
          have l87_ := px8_.1
          have v87_ : vx10_ = (srp dd_ S0_ (S0_.2.2.1 42 (0 + dd_) n_.toNat) : Int) := by (have q9_ := px8_.2 F_ (dgr_fr hg_ hF_ rfl rfl rfl rfl rfl) (swp_fr hs_ hF_ rfl rfl rfl rfl) (by omega) (by rw [hF_.1 3 dd_ 4 rfl]; omega); unfold srp at q9_ ⊢; rw [fr_arr (t := 44) (i := 0 + dd_) hF_ rfl, fr_arr (t := 42) (i := 0 + dd_) hF_ rfl] at q9_; exact q9_)
          have nf9_ := hnf_ n_.toNat (by omega)
          have n87_ : (vx10_).toNat = srp dd_ S0_ (S0_.2.2.1 42 (0 + dd_) n_.toNat) := by omega
          have hb8_ := hb_ (vx10_).toNat (by omega)
          refine sm_T_go 1 (c1 := (91, [some (.inr (.inr (some (6, 0)))), some (.inl n_)], [.inl vx10_, .inr (.inr (some (60, 0))), .inl vx10_, .inr (.inr (some (60, 0)))], S_)) rfl ?_
          refine sm_T_iald (n := 1013) rfl rfl (by omega) (by omega) ?_
          have bx11_ : (-2147483648) ≤ S_.2.2.1 60 0 vx10_.toNat ∧ S_.2.2.1 60 0 vx10_.toNat ≤ 2147483647 := hI_.2 60 0 _
          refine sm_T_go 1 (c1 := (93, [some (.inr (.inr (some (6, 0)))), some (.inl n_)], [.inl 1, .inl (S_.2.2.1 60 0 vx10_.toNat), .inl vx10_, .inr (.inr (some (60, 0)))], S_)) rfl ?_
          refine sm_T_bin (w := (S_.2.2.1 60 0 vx10_.toNat) + 1) rfl (bi_add (by omega) (by omega) (by omega)) ?_ -- pc_ 93
          refine sm_T_iast (n := 1013) rfl rfl (by omega) (by omega) ?_
          have hIx12_ : gi (sm_aI S_ 60 0 vx10_.toNat ((S_.2.2.1 60 0 vx10_.toNat) + 1)) := gi_aI hI_ (show (-2147483648) ≤ (S_.2.2.1 60 0 vx10_.toNat) + 1 ∧ (S_.2.2.1 60 0 vx10_.toNat) + 1 ≤ 2147483647 from ⟨by omega, by omega⟩)
          have hFx13_ : ai_fr (sx_W vw_95n) S0_ (sm_aI S_ 60 0 vx10_.toNat ((S_.2.2.1 60 0 vx10_.toNat) + 1)) := ai_fr_tr hF_ (ai_fr_aI rfl)
          refine sm_T_go 4 (c1 := (101, [some (.inr (.inr (some (6, 0)))), some (.inl n_)], [.inl n_, .inr (.inr (some (6, 0))), .inr (.inr (some (60, 0)))], sm_aI S_ 60 0 vx10_.toNat ((S_.2.2.1 60 0 vx10_.toNat) + 1))) rfl ?_
          refine sm_T_cal (d1 := 1) (Q1 := vq_93 n_ dd_ (sm_aI S_ 60 0 vx10_.toNat ((S_.2.2.1 60 0 vx10_.toNat) + 1))) rfl rfl (by decide) (vc_93 n_ dd_ (sm_aI S_ 60 0 vx10_.toNat ((S_.2.2.1 60 0 vx10_.toNat) + 1)) hIx12_ (by exact (hFx13_.2.1 6 0 0 rfl).trans hd_) (by omega)) (fun u_ Sx14_ px17_ => ?_)
          obtain ⟨rfl, vx19_, rfl, px17_⟩ := px17_
          have l101_ := px17_.1
          have v101_ : vx19_ = (srp dd_ S0_ (S0_.2.2.1 43 (0 + dd_) n_.toNat) : Int) := by (have q9_ := px17_.2 F_ (dgr_fr hg_ hFx13_ rfl rfl rfl rfl rfl) (swp_fr hs_ hFx13_ rfl rfl rfl rfl) (by omega) (by rw [hFx13_.1 3 dd_ 4 rfl]; omega); unfold srp at q9_ ⊢; rw [fr_arr (t := 44) (i := 0 + dd_) hFx13_ rfl, fr_arr (t := 43) (i := 0 + dd_) hFx13_ rfl] at q9_; exact q9_)
          have n101_ : (vx19_).toNat = srp dd_ S0_ (S0_.2.2.1 43 (0 + dd_) n_.toNat) := by omega
          have hb6_ : ∀ j_ : Nat, j_ < 1013 → 0 ≤ (sm_aI S_ 60 0 vx10_.toNat ((S_.2.2.1 60 0 vx10_.toNat) + 1)).2.2.1 60 0 j_ ∧ (sm_aI S_ 60 0 vx10_.toNat ((S_.2.2.1 60 0 vx10_.toNat) + 1)).2.2.1 60 0 j_ ≤ 101 + 2 * n_ := by (intro j_ hj_; rw [rd_eq]; have w9_ := hb_ j_ hj_; split; (omega); (omega))
          have hb7_ := hb6_ (vx19_).toNat (by omega)
          have hq6_ : ∀ j_ : Nat, 2 ≤ S_.2.2.1 60 0 j_ → 2 ≤ (sm_aI S_ 60 0 vx10_.toNat ((S_.2.2.1 60 0 vx10_.toNat) + 1)).2.2.1 60 0 j_ := by (intro j_ hj_; rw [rd_eq]; split; (rename_i z9_; rw [z9_] at hj_; omega); (omega))
          refine sm_T_go 1 (c1 := (105, [some (.inr (.inr (some (6, 0)))), some (.inl n_)], [.inl vx19_, .inr (.inr (some (60, 0))), .inl vx19_, .inr (.inr (some (60, 0)))], sm_aI S_ 60 0 vx10_.toNat ((S_.2.2.1 60 0 vx10_.toNat) + 1))) rfl ?_
          refine sm_T_iald (n := 1013) rfl rfl (by omega) (by omega) ?_
          have bx20_ : (-2147483648) ≤ (sm_aI S_ 60 0 vx10_.toNat ((S_.2.2.1 60 0 vx10_.toNat) + 1)).2.2.1 60 0 vx19_.toNat ∧ (sm_aI S_ 60 0 vx10_.toNat ((S_.2.2.1 60 0 vx10_.toNat) + 1)).2.2.1 60 0 vx19_.toNat ≤ 2147483647 := hIx12_.2 60 0 _
          refine sm_T_go 1 (c1 := (107, [some (.inr (.inr (some (6, 0)))), some (.inl n_)], [.inl 1, .inl ((sm_aI S_ 60 0 vx10_.toNat ((S_.2.2.1 60 0 vx10_.toNat) + 1)).2.2.1 60 0 vx19_.toNat), .inl vx19_, .inr (.inr (some (60, 0)))], sm_aI S_ 60 0 vx10_.toNat ((S_.2.2.1 60 0 vx10_.toNat) + 1))) rfl ?_
          refine sm_T_bin (w := ((sm_aI S_ 60 0 vx10_.toNat ((S_.2.2.1 60 0 vx10_.toNat) + 1)).2.2.1 60 0 vx19_.toNat) + 1) rfl (bi_add (by omega) (by omega) (by omega)) ?_ -- pc_ 107
          refine sm_T_iast (n := 1013) rfl rfl (by omega) (by omega) ?_
          have hIx21_ : gi (sm_aI (sm_aI S_ 60 0 vx10_.toNat ((S_.2.2.1 60 0 vx10_.toNat) + 1)) 60 0 vx19_.toNat (((sm_aI S_ 60 0 vx10_.toNat ((S_.2.2.1 60 0 vx10_.toNat) + 1)).2.2.1 60 0 vx19_.toNat) + 1)) := gi_aI hIx12_ (show (-2147483648) ≤ ((sm_aI S_ 60 0 vx10_.toNat ((S_.2.2.1 60 0 vx10_.toNat) + 1)).2.2.1 60 0 vx19_.toNat) + 1 ∧ ((sm_aI S_ 60 0 vx10_.toNat ((S_.2.2.1 60 0 vx10_.toNat) + 1)).2.2.1 60 0 vx19_.toNat) + 1 ≤ 2147483647 from ⟨by omega, by omega⟩)
          have hFx22_ : ai_fr (sx_W vw_95n) S0_ (sm_aI (sm_aI S_ 60 0 vx10_.toNat ((S_.2.2.1 60 0 vx10_.toNat) + 1)) 60 0 vx19_.toNat (((sm_aI S_ 60 0 vx10_.toNat ((S_.2.2.1 60 0 vx10_.toNat) + 1)).2.2.1 60 0 vx19_.toNat) + 1)) := ai_fr_tr hFx13_ (ai_fr_aI rfl)
          refine sm_T_inc (a := 1) (z := 1) (v := n_) (w := n_ + 1) rfl rfl (by omega) (by omega) (by omega) ?_ -- pc_ 109
          refine sm_T_go 1 (c1 := (61, [some (.inr (.inr (some (6, 0)))), some (.inl (n_ + 1))], [], sm_aI (sm_aI S_ 60 0 vx10_.toNat ((S_.2.2.1 60 0 vx10_.toNat) + 1)) 60 0 vx19_.toNat (((sm_aI S_ 60 0 vx10_.toNat ((S_.2.2.1 60 0 vx10_.toNat) + 1)).2.2.1 60 0 vx19_.toNat) + 1))) rfl ?_
          refine ih_.2.1 (n_ + 1) (sm_aI (sm_aI S_ 60 0 vx10_.toNat ((S_.2.2.1 60 0 vx10_.toNat) + 1)) 60 0 vx19_.toNat (((sm_aI S_ 60 0 vx10_.toNat ((S_.2.2.1 60 0 vx10_.toNat) + 1)).2.2.1 60 0 vx19_.toNat) + 1)) hIx21_ hFx22_ ⟨?_, ?_, ?_, ?_, ?_, trivial⟩ ?_
          · intro q9_ hq9_
            have w9_ := hu_ q9_ hq9_
            have f59_ : S_.2.2.1 59 0 = S0_.2.2.1 59 0 := fr_arr hF_ rfl
            have tb9_ : (ndf F_ (S0_.1 3 dd_ 4).toNat (S0_.1 3 dd_ 3 + S0_.1 3 dd_ 2).toNat (S0_.2.2.1 44 (0 + dd_)) (S0_.2.2.1 42 (0 + dd_)) (S0_.2.2.1 43 (0 + dd_)) (fun j_ => rtv dd_ S0_ (j_ : Int))) n_.toNat = true := nf9_.2.mp (by (rcases nf9_.1 with y9_ | y9_; (rw [← f59_] at y9_; exfalso; omega); exact y9_))
            rw [show (n_ + 1).toNat - F_ = (n_.toNat - F_) + 1 by omega]
            show _ = ((2 * rcn (S0_.2.2.1 44 (0 + dd_)) (fun j_ => rtv dd_ S0_ (j_ : Int)) (S0_.1 3 dd_ 3 + S0_.1 3 dd_ 2).toNat q9_ + (psm (pgn (S0_.2.2.1 44 (0 + dd_)) (S0_.2.2.1 42 (0 + dd_)) (S0_.2.2.1 43 (0 + dd_)) (ndf F_ (S0_.1 3 dd_ 4).toNat (S0_.1 3 dd_ 3 + S0_.1 3 dd_ 2).toNat (S0_.2.2.1 44 (0 + dd_)) (S0_.2.2.1 42 (0 + dd_)) (S0_.2.2.1 43 (0 + dd_)) (fun j_ => rtv dd_ S0_ (j_ : Int))) q9_) F_ (n_.toNat - F_) + pgn (S0_.2.2.1 44 (0 + dd_)) (S0_.2.2.1 42 (0 + dd_)) (S0_.2.2.1 43 (0 + dd_)) (ndf F_ (S0_.1 3 dd_ 4).toNat (S0_.1 3 dd_ 3 + S0_.1 3 dd_ 2).toNat (S0_.2.2.1 44 (0 + dd_)) (S0_.2.2.1 42 (0 + dd_)) (S0_.2.2.1 43 (0 + dd_)) (fun j_ => rtv dd_ S0_ (j_ : Int))) q9_ (F_ + (n_.toNat - F_))) : Nat) : Int)
            rw [show F_ + (n_.toNat - F_) = n_.toNat by omega]
            unfold pgn
            rw [if_pos tb9_, rd_eq, rd_eq, rd_eq, n87_, n101_]
            exact (inc2 w9_).trans (congrArg (fun x_ : Nat => (x_ : Int)) (Nat.add_assoc _ _ _))
          · omega
          · omega
          · first | (intro j_ hj_; rw [rd_eq]; have w9_ := hb6_ j_ hj_; split; (omega); (omega)) | (intro j_ hj_; have w9_ := hb_ j_ hj_; omega)
          · first | exact hq_ | (intro i_ u_ w_; rw [rd_eq]; have w9_ := hq6_ _ (hq_ i_ u_ w_); split; (rename_i z9_; rw [z9_] at w9_; omega); (exact w9_))
          · omega
    · rintro n_ S_ hI_ hF_ ⟨hu_, h0_, hq2_, -⟩ hm_
      have r1_ := hr_.1
      have c1_ : 0 ≤ S_.1 3 dd_ 1 ∧ S_.1 3 dd_ 1 ≤ 320 := hI_.1 3 dd_ 1 rfl
      have n13_ : 0 ≤ S_.1 3 dd_ 4 ∧ S_.1 3 dd_ 4 ≤ 1013 := hI_.1 3 dd_ 4 rfl
      have f1_ : S_.1 3 dd_ 1 = S0_.1 3 dd_ 1 := hF_.1 3 dd_ 1 rfl
      have f2_ : S_.1 3 dd_ 2 = S0_.1 3 dd_ 2 := hF_.1 3 dd_ 2 rfl
      have f3_ : S_.1 3 dd_ 3 = S0_.1 3 dd_ 3 := hF_.1 3 dd_ 3 rfl
      have f4_ : S_.1 3 dd_ 4 = S0_.1 3 dd_ 4 := hF_.1 3 dd_ 4 rfl
      have g1_ := hg_.1
      have f44_ : S_.2.2.1 44 (0 + dd_) = S0_.2.2.1 44 (0 + dd_) := fr_arr hF_ rfl
      have f45_ : S_.2.2.1 45 (0 + dd_) = S0_.2.2.1 45 (0 + dd_) := fr_arr hF_ rfl
      have f46_ : S_.2.2.1 46 (0 + dd_) = S0_.2.2.1 46 (0 + dd_) := fr_arr hF_ rfl
      refine sm_T_go 2 (c1 := (119, [some (.inr (.inr (some (6, 0)))), some (.inl n_)], [.inr (.inr (some (6, 0))), .inl n_], S_)) rfl ?_
      refine sm_T_gr rfl rfl ((hF_.2.1 6 0 0 rfl).trans hd_) ?_
      have bx1_ : 0 ≤ S_.1 3 dd_ 4 ∧ S_.1 3 dd_ 4 ≤ 1013 := hI_.1 3 dd_ 4 rfl
      refine sm_T_go 1 (c1 := (125, [some (.inr (.inr (some (6, 0)))), some (.inl n_)], [.inl (S_.1 3 dd_ 4), .inl n_], S_)) rfl ?_
      refine sm_T_br (a := 3) (z := 30) rfl (fun cx2_ => ?_) (fun cx2_ => ?_)
      · have cx2_ : (S_.1 3 dd_ 4) ≤ n_ := of_decide_eq_true cx2_
        refine sm_T_rv rfl ⟨_, _, rfl, rfl, hI_, hF_, ?_⟩
        refine ⟨fun q9_ hq9_ => by (have w9_ := hu_ q9_ hq9_; rw [if_pos (by omega)] at w9_; exact w9_), ?_⟩
        intro i_ u_ w_
        have z9_ := (hq2_ i_ u_ w_).1
        have zb_ := (rtv_b hr_ hs_ u_ w_).2
        have z7_ := z9_ (by omega)
        omega
      · have cx2_ : ¬ ((S_.1 3 dd_ 4) ≤ n_) := of_decide_eq_false cx2_
        refine sm_T_go 6 (c1 := (138, [some (.inr (.inr (some (6, 0)))), some (.inl n_)], [.inl n_, .inr (.inr (some (60, 0))), .inl n_, .inr (.inr (some (60, 0)))], S_)) rfl ?_
        refine sm_T_iald (n := 1013) rfl rfl (by omega) (by omega) ?_
        have bx3_ : (-2147483648) ≤ S_.2.2.1 60 0 n_.toNat ∧ S_.2.2.1 60 0 n_.toNat ≤ 2147483647 := hI_.2 60 0 _
        refine sm_T_go 1 (c1 := (140, [some (.inr (.inr (some (6, 0)))), some (.inl n_)], [.inl 1, .inl (S_.2.2.1 60 0 n_.toNat), .inl n_, .inr (.inr (some (60, 0)))], S_)) rfl ?_
        refine sm_T_br (a := 5) (z := 7) rfl (fun cx4_ => ?_) (fun cx4_ => ?_)
        · have cx4_ : (S_.2.2.1 60 0 n_.toNat) ≤ 1 := of_decide_eq_true cx4_
          refine sm_T_go 1 (c1 := (148, [some (.inr (.inr (some (6, 0)))), some (.inl n_)], [.inl 0, .inl n_, .inr (.inr (some (60, 0)))], S_)) rfl ?_
          refine sm_T_iast (n := 1013) rfl rfl (by omega) (by omega) ?_
          have hIx5_ : gi (sm_aI S_ 60 0 n_.toNat 0) := gi_aI hI_ (show (-2147483648) ≤ 0 ∧ 0 ≤ 2147483647 from ⟨by omega, by omega⟩)
          have hFx6_ : ai_fr (sx_W vw_95n) S0_ (sm_aI S_ 60 0 n_.toNat 0) := ai_fr_tr hF_ (ai_fr_aI rfl)
          refine sm_T_inc (a := 1) (z := 1) (v := n_) (w := n_ + 1) rfl rfl (by omega) (by omega) (by omega) ?_ -- pc_ 149
          refine sm_T_go 1 (c1 := (117, [some (.inr (.inr (some (6, 0)))), some (.inl (n_ + 1))], [], sm_aI S_ 60 0 n_.toNat 0)) rfl ?_
          refine ih_.2.2 (n_ + 1) (sm_aI S_ 60 0 n_.toNat 0) hIx5_ hFx6_ ⟨?_, ?_, ?_, trivial⟩ ?_
          · intro q9_ hq9_
            have w9_ := hu_ q9_ hq9_
            rw [rd_eq]
            by_cases z9_ : q9_ = n_.toNat
            · rw [if_pos z9_, if_pos (show (q9_ : Int) < n_ + 1 by omega)]; rw [if_neg (show ¬ (q9_ : Int) < n_ by omega)] at w9_; rw [z9_] at w9_ ⊢; first | (rw [if_pos (by omega)]) | (rw [if_neg (by omega)])
            · rw [if_neg z9_, w9_]; by_cases y9_ : (q9_ : Int) < n_
              · rw [if_pos y9_, if_pos (show (q9_ : Int) < n_ + 1 by omega)]
              · rw [if_neg y9_, if_neg (show ¬ (q9_ : Int) < n_ + 1 by omega)]
          · omega
          · intro i_ u_ w_
            have z9_ := hq2_ i_ u_ w_
            rw [rd_eq]
            by_cases y_ : (srp dd_ S0_ (rtv dd_ S0_ i_) : Int) = n_
            · have z8_ := z9_.2 (by omega)
              rw [if_pos (by omega)]
              refine ⟨fun _ => ?_, fun q9_ => ?_⟩
              · first | rfl | (exfalso; have z6_ : srp dd_ S0_ (rtv dd_ S0_ i_) = n_.toNat := (by omega); rw [z6_] at z8_; omega)
              · exfalso; omega
            · rw [if_neg (by omega)]
              exact ⟨fun q9_ => z9_.1 (by omega), fun q9_ => z9_.2 (by omega)⟩
          · omega
        · have cx4_ : ¬ ((S_.2.2.1 60 0 n_.toNat) ≤ 1) := of_decide_eq_false cx4_
          refine sm_T_go 2 (c1 := (148, [some (.inr (.inr (some (6, 0)))), some (.inl n_)], [.inl 1, .inl n_, .inr (.inr (some (60, 0)))], S_)) rfl ?_
          refine sm_T_iast (n := 1013) rfl rfl (by omega) (by omega) ?_
          have hIx7_ : gi (sm_aI S_ 60 0 n_.toNat 1) := gi_aI hI_ (show (-2147483648) ≤ 1 ∧ 1 ≤ 2147483647 from ⟨by omega, by omega⟩)
          have hFx8_ : ai_fr (sx_W vw_95n) S0_ (sm_aI S_ 60 0 n_.toNat 1) := ai_fr_tr hF_ (ai_fr_aI rfl)
          refine sm_T_inc (a := 1) (z := 1) (v := n_) (w := n_ + 1) rfl rfl (by omega) (by omega) (by omega) ?_ -- pc_ 149
          refine sm_T_go 1 (c1 := (117, [some (.inr (.inr (some (6, 0)))), some (.inl (n_ + 1))], [], sm_aI S_ 60 0 n_.toNat 1)) rfl ?_
          refine ih_.2.2 (n_ + 1) (sm_aI S_ 60 0 n_.toNat 1) hIx7_ hFx8_ ⟨?_, ?_, ?_, trivial⟩ ?_
          · intro q9_ hq9_
            have w9_ := hu_ q9_ hq9_
            rw [rd_eq]
            by_cases z9_ : q9_ = n_.toNat
            · rw [if_pos z9_, if_pos (show (q9_ : Int) < n_ + 1 by omega)]; rw [if_neg (show ¬ (q9_ : Int) < n_ by omega)] at w9_; rw [z9_] at w9_ ⊢; first | (rw [if_pos (by omega)]) | (rw [if_neg (by omega)])
            · rw [if_neg z9_, w9_]; by_cases y9_ : (q9_ : Int) < n_
              · rw [if_pos y9_, if_pos (show (q9_ : Int) < n_ + 1 by omega)]
              · rw [if_neg y9_, if_neg (show ¬ (q9_ : Int) < n_ + 1 by omega)]
          · omega
          · intro i_ u_ w_
            have z9_ := hq2_ i_ u_ w_
            rw [rd_eq]
            by_cases y_ : (srp dd_ S0_ (rtv dd_ S0_ i_) : Int) = n_
            · have z8_ := z9_.2 (by omega)
              rw [if_pos (by omega)]
              refine ⟨fun _ => ?_, fun q9_ => ?_⟩
              · first | rfl | (exfalso; have z6_ : srp dd_ S0_ (rtv dd_ S0_ i_) = n_.toNat := (by omega); rw [z6_] at z8_; omega)
              · exfalso; omega
            · rw [if_neg (by omega)]
              exact ⟨fun q9_ => z9_.1 (by omega), fun q9_ => z9_.2 (by omega)⟩
          · omega
set_option maxHeartbeats 3000000 in
theorem vc_95n {sc_ : Nat × (Nat → Int)} (dd_ : Nat) (F_ : Nat) (S0_ : sm_S) (hI_ : gi S0_) (hd_ : S0_.2.1 6 0 0 = some dd_) (hr_ : drt dd_ S0_) (hg_ : dgr dd_ F_ S0_) (hs_ : swp dd_ F_ S0_) (hnf_ : ∀ q9_ : Nat, (q9_ : Int) < S0_.1 3 dd_ 4 → (S0_.2.2.1 59 0 q9_ = 0 ∨ S0_.2.2.1 59 0 q9_ = 1) ∧ (S0_.2.2.1 59 0 q9_ = 1 ↔ (ndf F_ (S0_.1 3 dd_ 4).toNat (S0_.1 3 dd_ 3 + S0_.1 3 dd_ 2).toNat (S0_.2.2.1 44 (0 + dd_)) (S0_.2.2.1 42 (0 + dd_)) (S0_.2.2.1 43 (0 + dd_)) (fun j_ => rtv dd_ S0_ (j_ : Int))) q9_ = true)) : sm_T (mt_P sc_) 2 95 (0, [some (.inr (.inr (some (6, 0)))), none], [], S0_) (fun ro9_ => ∃ u_ S1_, ro9_ = (.inl u_, S1_, 0) ∧ vq_95n dd_ F_ S0_ u_ S1_) := by
  have hF_ : ai_fr (sx_W vw_95n) S0_ S0_ := ai_fr_rf
  have r1_ := hr_.1
  have g1_ := hg_.1
  refine sm_T_go 3 (c1 := (5, [some (.inr (.inr (some (6, 0)))), none], [.inl 0, .inr (.inr (some (60, 0)))], S0_)) rfl ?_
  refine sm_T_cal (d1 := 0) (Q1 := vq_2r0 0 S0_) rfl rfl (by decide) (vc_2r0 0 S0_ hI_ (by decide)) (fun u_ Sx1_ px4_ => ?_)
  obtain ⟨rfl, hIx2_, hFx3_, px4_⟩ := px4_
  have hFx5_ : ai_fr (sx_W vw_95n) S0_ Sx1_ := ai_fr_tr hF_ (fr_le hFx3_ rfl)
  have e5_ := px4_
  refine sm_T_go 2 (c1 := (10, [some (.inr (.inr (some (6, 0)))), some (.inl 0)], [], Sx1_)) rfl ?_
  refine (vl_95n dd_ F_ S0_ hd_ hr_ hg_ hs_ hnf_ _).1 0 Sx1_ hIx2_ hFx5_ ⟨?_, ?_, ?_, ?_, trivial⟩ (Nat.lt_succ_self _)
  · (intro q9_ hq9_; have c9_ := hg_.2.1; have c8_ := hg_.1.2.1; rw [e5_ q9_ (by omega)]; rfl)
  · omega
  · (intro j_ hj_; rw [e5_ j_ hj_]; omega)
  · (intro i_ u_ w_; exfalso; omega)
end
/-! 99.ztZ6 -/
section
/-! the reference: the graph laid for mapping; written by wip/p55/gen/vg -/

/-! the_ graph laid for_ mapping -/
theorem nod_n {d_ l_ : Int} {S_ : sm_S} (hd_ : 0 ≤ d_) (hl_ : 0 ≤ l_) : (nod d_ S_ l_).toNat = nsw (fun m_ => S_.2.2.1 166 0 (2048 * d_.toNat + m_)) l_ := by
  show (S_.2.2.1 166 0 (2048 * d_ + l_ / 2).toNat / 2).toNat = (S_.2.2.1 166 0 (2048 * d_.toNat + (l_ / 2).toNat) / 2).toNat
  rw [show (2048 * d_ + l_ / 2).toNat = 2048 * d_.toNat + (l_ / 2).toNat by omega]
/-- marks of_ needed nodes -/
def ndw (N_ j_ : Nat) (sf_ lo_ hi_ : Nat → Int) (m0_ : Nat → Bool) (u_ : Nat → Int) : Prop := ∀ q_, q_ < N_ → (u_ q_ = 1 ↔ (ndk N_ sf_ lo_ hi_ m0_ j_).1 q_ = true)
theorem ndw_n {N_ j_ n_ : Nat} {sf_ lo_ hi_ u_ : Nat → Int} {m0_ : Nat → Bool} (h_ : ndw N_ j_ sf_ lo_ hi_ m0_ u_) (hn_ : u_ n_ ≠ 1) (e_ : N_ - 1 - j_ = n_) (hl_ : n_ < N_) : ndw N_ (j_ + 1) sf_ lo_ hi_ m0_ u_ := (ndi_n ⟨rfl, h_⟩ hn_ e_ hl_).2
theorem ndw_y {N_ j_ n_ : Nat} {sf_ lo_ hi_ u_ u'_ : Nat → Int} {m0_ : Nat → Bool} (h_ : ndw N_ j_ sf_ lo_ hi_ m0_ u_) (hn_ : u_ n_ = 1) (e_ : N_ - 1 - j_ = n_) (hl_ : n_ < N_) (hu_ : ∀ q_, u'_ q_ = if q_ = nsw sf_ (hi_ n_) then 1 else if q_ = nsw sf_ (lo_ n_) then 1 else u_ q_) : ndw N_ (j_ + 1) sf_ lo_ hi_ m0_ u'_ := (ndi_y ⟨rfl, h_⟩ hn_ e_ hl_ hu_).2
theorem rcn_le {sf_ rt_ : Nat → Int} {q_ : Nat} : ∀ k_ : Nat, rcn sf_ rt_ k_ q_ ≤ k_
  | 0 => Nat.le_refl _
  | k_ + 1 => by
    have h_ := rcn_le (sf_ := sf_) (rt_ := rt_) (q_ := q_) k_
    show rcn sf_ rt_ k_ q_ + (if q_ = nsw sf_ (rt_ k_) then 1 else 0) ≤ k_ + 1
    split <;> omega
theorem pgn_le {sf_ lo_ hi_ : Nat → Int} {nd_ : Nat → Bool} {q_ n_ : Nat} : pgn sf_ lo_ hi_ nd_ q_ n_ ≤ 2 := by
  unfold pgn
  split
  · split <;> split <;> omega
  · omega
theorem psm_le {g_ : Nat → Nat} (h_ : ∀ n_, g_ n_ ≤ 2) {a_ : Nat} : ∀ l_ : Nat, psm g_ a_ l_ ≤ 2 * l_
  | 0 => Nat.le_refl _
  | l_ + 1 => by
    have e_ := psm_le h_ (a_ := a_) l_
    have w_ := h_ (a_ + l_)
    show psm g_ a_ l_ + g_ (a_ + l_) ≤ 2 * (l_ + 1)
    omega
theorem glo_k {F_ N_ d_ : Int} {S_ : sm_S} (h_ : dmp F_ N_ d_ S_) : glo F_.toNat N_.toNat (fun m_ => S_.2.2.1 164 0 (2048 * d_.toNat + m_)) (fun m_ => S_.2.2.1 165 0 (2048 * d_.toNat + m_)) := by
  obtain ⟨⟨a1_, a2_, a3_, a4_, a5_, a6_, a7_, a8_, a9_⟩, F1_, I_, R_, N1_, k1_, k2_, k3_, k4_⟩ := h_
  rw [show F_.toNat = F1_ by omega, show N_.toNat = N1_ by omega]
  exact k2_
theorem sfb_k {F_ N_ d_ : Int} {S_ : sm_S} (h_ : dmp F_ N_ d_ S_) : ∀ m_ : Nat, m_ < N_.toNat → 0 ≤ S_.2.2.1 166 0 (2048 * d_.toNat + m_) ∧ S_.2.2.1 166 0 (2048 * d_.toNat + m_) ≤ 2 * (m_ : Int) + 1 := by
  obtain ⟨⟨a1_, a2_, a3_, a4_, a5_, a6_, a7_, a8_, a9_⟩, F1_, I_, R_, N1_, k1_, k2_, k3_, k4_⟩ := h_
  intro m_ hm9_
  exact (k3_.2 m_ (by omega)).1
def swt (sf_ : Nat → Int) (l_ : Int) : Int := i_xor (sf_ (l_ / 2).toNat) (l_ % 2)
/-- the_ sides of_ a_ node: the_ lesser literal first -/
def sdv (sf_ lo_ hi_ : Nat → Int) (a_ b_ : Int) (n_ : Nat) : Prop := a_ = (if swt sf_ (lo_ n_) < swt sf_ (hi_ n_) then swt sf_ (lo_ n_) else swt sf_ (hi_ n_)) ∧ b_ = (if swt sf_ (lo_ n_) < swt sf_ (hi_ n_) then swt sf_ (hi_ n_) else swt sf_ (lo_ n_))

/-! M_.want -/
def vw_393n : sx_Wl := ([], [201, 202, 203], [])
def vq_393n (l_ : Int) (F_ : Int) (N_ : Int) (d_ : Int) (S0_ : sm_S) (u_ : Option sm_V) (S1_ : sm_S) : Prop := u_ = none ∧ gi S1_ ∧ ai_fr (sx_W vw_393n) S0_ S1_ ∧ (((∀ j9_, S1_.2.2.1 202 0 j9_ = if j9_ = (nod d_ S0_ l_).toNat then 1 else S0_.2.2.1 202 0 j9_) ∧ ∀ j9_, S1_.2.2.1 203 0 j9_ = if j9_ = (nod d_ S0_ l_).toNat then (if nod d_ S0_ l_ < F_ then 0 else 1) else S0_.2.2.1 203 0 j9_) ∧ ∀ j9_, S1_.2.2.1 201 0 j9_ = if j9_ = (nod d_ S0_ l_).toNat then S0_.2.2.1 201 0 j9_ + 1 else S0_.2.2.1 201 0 j9_)
set_option maxHeartbeats 400000 in
set_option maxRecDepth 20000 in
theorem vc_393n {sc_ : Nat × (Nat → Int)} (l_ : Int) (F_ : Int) (N_ : Int) (d_ : Int) (S0_ : sm_S) (hI_ : gi S0_) (hd_ : dmp F_ N_ d_ S0_) (hl_ : 0 ≤ l_ ∧ l_ < 2 * N_) (hus_ : 0 ≤ S0_.2.2.1 201 0 (nod d_ S0_ l_).toNat ∧ S0_.2.2.1 201 0 (nod d_ S0_ l_).toNat ≤ 100000) : sm_T (mt_P sc_) 1 393 (0, [some (.inr (.inr (some (13, 0)))), some (.inl l_), none], [], S0_) (fun ro9_ => ∃ u_ S1_, ro9_ = (.inl u_, S1_, 0) ∧ vq_393n l_ F_ N_ d_ S0_ u_ S1_) := by
  have hF_ : ai_fr (sx_W vw_393n) S0_ S0_ := ai_fr_rf
  have d1_ := hd_.1
  have n9_ := nod_b hd_ hl_.1 hl_.2
  have f9_ : S0_.2.2.1 160 0 (S0_.1 13 0 105).toNat = F_ := by (rw [d1_.2.2.1]; exact d1_.2.2.2.1)
  refine sm_T_go 2 (c1 := (2, [some (.inr (.inr (some (13, 0)))), some (.inl l_), none], [.inl l_, .inr (.inr (some (13, 0)))], S0_)) rfl ?_
  refine sm_T_cal (d1 := 0) (Q1 := vq_392 l_ F_ N_ d_ S0_) rfl rfl (by decide) (vc_392 l_ F_ N_ d_ S0_ hI_ (by exact hd_) (by exact hl_)) (fun u_ Sx1_ px4_ => ?_)
  obtain ⟨rfl, vx6_, rfl, px4_⟩ := px4_
  have e2_ := px4_
  have u2_ : S0_.2.2.1 201 0 (vx6_ / 2).toNat = S0_.2.2.1 201 0 (nod d_ S0_ l_).toNat := by rw [e2_.1]
  refine sm_T_go 5 (c1 := (12, [some (.inr (.inr (some (13, 0)))), some (.inl l_), some (.inl vx6_)], [.inl 1, .inl vx6_, .inr (.inr (some (202, 0)))], S0_)) rfl ?_
  refine sm_T_bin (w := (vx6_ / 2)) rfl (bi_shr (k := 1) (by decide) (by omega) (by omega)) ?_ -- pc_ 12
  refine sm_T_go 1 (c1 := (14, [some (.inr (.inr (some (13, 0)))), some (.inl l_), some (.inl vx6_)], [.inl 1, .inl (vx6_ / 2), .inr (.inr (some (202, 0)))], S0_)) rfl ?_
  refine sm_T_zas1 (n := 2048) rfl rfl (by omega) (by omega) (by omega) ?_
  have hIx7_ : gi (sm_aI S0_ 202 0 (vx6_ / 2).toNat 1) := gi_aI hI_ (show 0 ≤ 1 ∧ 1 ≤ 1 from ⟨by omega, by omega⟩)
  have hFx8_ : ai_fr (sx_W vw_393n) S0_ (sm_aI S0_ 202 0 (vx6_ / 2).toNat 1) := ai_fr_tr hF_ (ai_fr_aI rfl)
  refine sm_T_go 4 (c1 := (21, [some (.inr (.inr (some (13, 0)))), some (.inl l_), some (.inl vx6_)], [.inl 1, .inl vx6_, .inr (.inr (some (203, 0)))], sm_aI S0_ 202 0 (vx6_ / 2).toNat 1)) rfl ?_
  refine sm_T_bin (w := (vx6_ / 2)) rfl (bi_shr (k := 1) (by decide) (by omega) (by omega)) ?_ -- pc_ 21
  refine sm_T_go 2 (c1 := (24, [some (.inr (.inr (some (13, 0)))), some (.inl l_), some (.inl vx6_)], [.inl 1, .inl vx6_, .inl (vx6_ / 2), .inr (.inr (some (203, 0)))], sm_aI S0_ 202 0 (vx6_ / 2).toNat 1)) rfl ?_
  refine sm_T_bin (w := (vx6_ / 2)) rfl (bi_shr (k := 1) (by decide) (by omega) (by omega)) ?_ -- pc_ 24
  have bx9_ : 0 ≤ S0_.1 13 0 105 ∧ S0_.1 13 0 105 ≤ 5 := hI_.1 13 0 105 rfl
  refine sm_T_go 4 (c1 := (33, [some (.inr (.inr (some (13, 0)))), some (.inl l_), some (.inl vx6_)], [.inl (S0_.1 13 0 105), .inr (.inr (some (160, 0))), .inl (vx6_ / 2), .inl (vx6_ / 2), .inr (.inr (some (203, 0)))], sm_aI S0_ 202 0 (vx6_ / 2).toNat 1)) rfl ?_
  refine sm_T_iald (n := 6) rfl rfl (by omega) (by omega) ?_
  have bx10_ : 0 ≤ S0_.2.2.1 160 0 (S0_.1 13 0 105).toNat ∧ S0_.2.2.1 160 0 (S0_.1 13 0 105).toNat ≤ 19 := hI_.2 160 0 _
  refine sm_T_go 0 (c1 := (34, [some (.inr (.inr (some (13, 0)))), some (.inl l_), some (.inl vx6_)], [.inl (S0_.2.2.1 160 0 (S0_.1 13 0 105).toNat), .inl (vx6_ / 2), .inl (vx6_ / 2), .inr (.inr (some (203, 0)))], sm_aI S0_ 202 0 (vx6_ / 2).toNat 1)) rfl ?_
  refine sm_T_br (a := 2) (z := 7) rfl (fun cx11_ => ?_) (fun cx11_ => ?_)
  · have cx11_ : (vx6_ / 2) < (S0_.2.2.1 160 0 (S0_.1 13 0 105).toNat) := of_decide_eq_true cx11_
    refine sm_T_go 1 (c1 := (42, [some (.inr (.inr (some (13, 0)))), some (.inl l_), some (.inl vx6_)], [.inl 0, .inl (vx6_ / 2), .inr (.inr (some (203, 0)))], sm_aI S0_ 202 0 (vx6_ / 2).toNat 1)) rfl ?_
    refine sm_T_zas1 (n := 2048) rfl rfl (by omega) (by omega) (by omega) ?_
    have hIx12_ : gi (sm_aI (sm_aI S0_ 202 0 (vx6_ / 2).toNat 1) 203 0 (vx6_ / 2).toNat 0) := gi_aI hIx7_ (show 0 ≤ 0 ∧ 0 ≤ 1 from ⟨by omega, by omega⟩)
    have hFx13_ : ai_fr (sx_W vw_393n) S0_ (sm_aI (sm_aI S0_ 202 0 (vx6_ / 2).toNat 1) 203 0 (vx6_ / 2).toNat 0) := ai_fr_tr hFx8_ (ai_fr_aI rfl)
    refine sm_T_go 4 (c1 := (49, [some (.inr (.inr (some (13, 0)))), some (.inl l_), some (.inl vx6_)], [.inl 1, .inl vx6_, .inr (.inr (some (201, 0)))], sm_aI (sm_aI S0_ 202 0 (vx6_ / 2).toNat 1) 203 0 (vx6_ / 2).toNat 0)) rfl ?_
    refine sm_T_bin (w := (vx6_ / 2)) rfl (bi_shr (k := 1) (by decide) (by omega) (by omega)) ?_ -- pc_ 49
    refine sm_T_go 1 (c1 := (51, [some (.inr (.inr (some (13, 0)))), some (.inl l_), some (.inl vx6_)], [.inl (vx6_ / 2), .inr (.inr (some (201, 0))), .inl (vx6_ / 2), .inr (.inr (some (201, 0)))], sm_aI (sm_aI S0_ 202 0 (vx6_ / 2).toNat 1) 203 0 (vx6_ / 2).toNat 0)) rfl ?_
    refine sm_T_iald (n := 2048) rfl rfl (by omega) (by omega) ?_
    have bx14_ : (-2147483648) ≤ S0_.2.2.1 201 0 (vx6_ / 2).toNat ∧ S0_.2.2.1 201 0 (vx6_ / 2).toNat ≤ 2147483647 := hI_.2 201 0 _
    refine sm_T_go 1 (c1 := (53, [some (.inr (.inr (some (13, 0)))), some (.inl l_), some (.inl vx6_)], [.inl 1, .inl (S0_.2.2.1 201 0 (vx6_ / 2).toNat), .inl (vx6_ / 2), .inr (.inr (some (201, 0)))], sm_aI (sm_aI S0_ 202 0 (vx6_ / 2).toNat 1) 203 0 (vx6_ / 2).toNat 0)) rfl ?_
    refine sm_T_bin (w := (S0_.2.2.1 201 0 (vx6_ / 2).toNat) + 1) rfl (bi_add (by omega) (by omega) (by omega)) ?_ -- pc_ 53
    refine sm_T_iast (n := 2048) rfl rfl (by omega) (by omega) ?_
    have hIx15_ : gi (sm_aI (sm_aI (sm_aI S0_ 202 0 (vx6_ / 2).toNat 1) 203 0 (vx6_ / 2).toNat 0) 201 0 (vx6_ / 2).toNat ((S0_.2.2.1 201 0 (vx6_ / 2).toNat) + 1)) := gi_aI hIx12_ (show (-2147483648) ≤ (S0_.2.2.1 201 0 (vx6_ / 2).toNat) + 1 ∧ (S0_.2.2.1 201 0 (vx6_ / 2).toNat) + 1 ≤ 2147483647 from ⟨by omega, by omega⟩)
    have hFx16_ : ai_fr (sx_W vw_393n) S0_ (sm_aI (sm_aI (sm_aI S0_ 202 0 (vx6_ / 2).toNat 1) 203 0 (vx6_ / 2).toNat 0) 201 0 (vx6_ / 2).toNat ((S0_.2.2.1 201 0 (vx6_ / 2).toNat) + 1)) := ai_fr_tr hFx13_ (ai_fr_aI rfl)
    refine sm_T_rv rfl ⟨_, _, rfl, rfl, hIx15_, hFx16_, ?_⟩
    refine ⟨⟨fun j9_ => ?_, fun j9_ => ?_⟩, fun j9_ => ?_⟩
    · (try simp only [rd_eq, rd_ne, rf_eq, rf_nk, rf_nt, rd_fa, rd_af, rd_fl, rd_al, rd_lf, rd_la, rd_leq, rd_lne, rd_fr, rd_ar, ne_eq, Nat.reduceEqDiff, not_false_eq_true]); rw [e2_.1]
    · (try simp only [rd_eq, rd_ne, rf_eq, rf_nk, rf_nt, rd_fa, rd_af, rd_fl, rd_al, rd_lf, rd_la, rd_leq, rd_lne, rd_fr, rd_ar, ne_eq, Nat.reduceEqDiff, not_false_eq_true]); rw [e2_.1]; first | rw [if_pos (show nod d_ S0_ l_ < F_ by omega)] | rw [if_neg (show ¬ nod d_ S0_ l_ < F_ by omega)]
    · (try simp only [rd_eq, rd_ne, rf_eq, rf_nk, rf_nt, rd_fa, rd_af, rd_fl, rd_al, rd_lf, rd_la, rd_leq, rd_lne, rd_fr, rd_ar, ne_eq, Nat.reduceEqDiff, not_false_eq_true]); rw [e2_.1]; by_cases z9_ : j9_ = (nod d_ S0_ l_).toNat
      · rw [if_pos z9_, if_pos z9_, z9_]
      · rw [if_neg z9_, if_neg z9_]
  · have cx11_ : ¬ ((vx6_ / 2) < (S0_.2.2.1 160 0 (S0_.1 13 0 105).toNat)) := of_decide_eq_false cx11_
    refine sm_T_go 2 (c1 := (42, [some (.inr (.inr (some (13, 0)))), some (.inl l_), some (.inl vx6_)], [.inl 1, .inl (vx6_ / 2), .inr (.inr (some (203, 0)))], sm_aI S0_ 202 0 (vx6_ / 2).toNat 1)) rfl ?_
    refine sm_T_zas1 (n := 2048) rfl rfl (by omega) (by omega) (by omega) ?_
    have hIx17_ : gi (sm_aI (sm_aI S0_ 202 0 (vx6_ / 2).toNat 1) 203 0 (vx6_ / 2).toNat 1) := gi_aI hIx7_ (show 0 ≤ 1 ∧ 1 ≤ 1 from ⟨by omega, by omega⟩)
    have hFx18_ : ai_fr (sx_W vw_393n) S0_ (sm_aI (sm_aI S0_ 202 0 (vx6_ / 2).toNat 1) 203 0 (vx6_ / 2).toNat 1) := ai_fr_tr hFx8_ (ai_fr_aI rfl)
    refine sm_T_go 4 (c1 := (49, [some (.inr (.inr (some (13, 0)))), some (.inl l_), some (.inl vx6_)], [.inl 1, .inl vx6_, .inr (.inr (some (201, 0)))], sm_aI (sm_aI S0_ 202 0 (vx6_ / 2).toNat 1) 203 0 (vx6_ / 2).toNat 1)) rfl ?_
    refine sm_T_bin (w := (vx6_ / 2)) rfl (bi_shr (k := 1) (by decide) (by omega) (by omega)) ?_ -- pc_ 49
    refine sm_T_go 1 (c1 := (51, [some (.inr (.inr (some (13, 0)))), some (.inl l_), some (.inl vx6_)], [.inl (vx6_ / 2), .inr (.inr (some (201, 0))), .inl (vx6_ / 2), .inr (.inr (some (201, 0)))], sm_aI (sm_aI S0_ 202 0 (vx6_ / 2).toNat 1) 203 0 (vx6_ / 2).toNat 1)) rfl ?_
    refine sm_T_iald (n := 2048) rfl rfl (by omega) (by omega) ?_
    have bx19_ : (-2147483648) ≤ S0_.2.2.1 201 0 (vx6_ / 2).toNat ∧ S0_.2.2.1 201 0 (vx6_ / 2).toNat ≤ 2147483647 := hI_.2 201 0 _
    refine sm_T_go 1 (c1 := (53, [some (.inr (.inr (some (13, 0)))), some (.inl l_), some (.inl vx6_)], [.inl 1, .inl (S0_.2.2.1 201 0 (vx6_ / 2).toNat), .inl (vx6_ / 2), .inr (.inr (some (201, 0)))], sm_aI (sm_aI S0_ 202 0 (vx6_ / 2).toNat 1) 203 0 (vx6_ / 2).toNat 1)) rfl ?_
    refine sm_T_bin (w := (S0_.2.2.1 201 0 (vx6_ / 2).toNat) + 1) rfl (bi_add (by omega) (by omega) (by omega)) ?_ -- pc_ 53
    refine sm_T_iast (n := 2048) rfl rfl (by omega) (by omega) ?_
    have hIx20_ : gi (sm_aI (sm_aI (sm_aI S0_ 202 0 (vx6_ / 2).toNat 1) 203 0 (vx6_ / 2).toNat 1) 201 0 (vx6_ / 2).toNat ((S0_.2.2.1 201 0 (vx6_ / 2).toNat) + 1)) := gi_aI hIx17_ (show (-2147483648) ≤ (S0_.2.2.1 201 0 (vx6_ / 2).toNat) + 1 ∧ (S0_.2.2.1 201 0 (vx6_ / 2).toNat) + 1 ≤ 2147483647 from ⟨by omega, by omega⟩)
    have hFx21_ : ai_fr (sx_W vw_393n) S0_ (sm_aI (sm_aI (sm_aI S0_ 202 0 (vx6_ / 2).toNat 1) 203 0 (vx6_ / 2).toNat 1) 201 0 (vx6_ / 2).toNat ((S0_.2.2.1 201 0 (vx6_ / 2).toNat) + 1)) := ai_fr_tr hFx18_ (ai_fr_aI rfl)
    refine sm_T_rv rfl ⟨_, _, rfl, rfl, hIx20_, hFx21_, ?_⟩
    refine ⟨⟨fun j9_ => ?_, fun j9_ => ?_⟩, fun j9_ => ?_⟩
    · (try simp only [rd_eq, rd_ne, rf_eq, rf_nk, rf_nt, rd_fa, rd_af, rd_fl, rd_al, rd_lf, rd_la, rd_leq, rd_lne, rd_fr, rd_ar, ne_eq, Nat.reduceEqDiff, not_false_eq_true]); rw [e2_.1]
    · (try simp only [rd_eq, rd_ne, rf_eq, rf_nk, rf_nt, rd_fa, rd_af, rd_fl, rd_al, rd_lf, rd_la, rd_leq, rd_lne, rd_fr, rd_ar, ne_eq, Nat.reduceEqDiff, not_false_eq_true]); rw [e2_.1]; first | rw [if_pos (show nod d_ S0_ l_ < F_ by omega)] | rw [if_neg (show ¬ nod d_ S0_ l_ < F_ by omega)]
    · (try simp only [rd_eq, rd_ne, rf_eq, rf_nk, rf_nt, rd_fa, rd_af, rd_fl, rd_al, rd_lf, rd_la, rd_leq, rd_lne, rd_fr, rd_ar, ne_eq, Nat.reduceEqDiff, not_false_eq_true]); rw [e2_.1]; by_cases z9_ : j9_ = (nod d_ S0_ l_).toNat
      · rw [if_pos z9_, if_pos z9_, z9_]
      · rw [if_neg z9_, if_neg z9_]
/-! M_.layGraph -/
def vw_394n : sx_Wl := ([], [199, 200, 201, 202, 203], [])
def vq_394n (F_ : Int) (N_ : Int) (d_ : Int) (S0_ : sm_S) (u_ : Option sm_V) (S1_ : sm_S) : Prop := u_ = none ∧ gi S1_ ∧ ai_fr (sx_W vw_394n) S0_ S1_ ∧ ((lgn F_ N_ S1_ ∧ rtd F_ d_ (S0_.2.2.1 156 0 d_.toNat) (S0_.2.2.1 155 0 d_.toNat) S1_) ∧ (∀ q9_ : Nat, (q9_ : Int) < N_ → S1_.2.2.1 203 0 q9_ = if F_ ≤ (q9_ : Int) ∧ (0 < rcn (fun m_ => S0_.2.2.1 166 0 (2048 * d_.toNat + m_)) (rto (S0_.2.2.1 156 0 d_.toNat).toNat (fun k_ => S0_.2.2.1 167 0 (16 * d_.toNat + k_)) (fun k_ => S0_.2.2.1 168 0 (6 * d_.toNat + k_))) ((S0_.2.2.1 156 0 d_.toNat).toNat + (S0_.2.2.1 155 0 d_.toNat).toNat) q9_ ∨ ((ndf F_.toNat N_.toNat ((S0_.2.2.1 156 0 d_.toNat).toNat + (S0_.2.2.1 155 0 d_.toNat).toNat) (fun m_ => S0_.2.2.1 166 0 (2048 * d_.toNat + m_)) (fun m_ => S0_.2.2.1 164 0 (2048 * d_.toNat + m_)) (fun m_ => S0_.2.2.1 165 0 (2048 * d_.toNat + m_)) (rto (S0_.2.2.1 156 0 d_.toNat).toNat (fun k_ => S0_.2.2.1 167 0 (16 * d_.toNat + k_)) (fun k_ => S0_.2.2.1 168 0 (6 * d_.toNat + k_)))) q9_ = true ∧ 1 < rcn (fun m_ => S0_.2.2.1 166 0 (2048 * d_.toNat + m_)) (rto (S0_.2.2.1 156 0 d_.toNat).toNat (fun k_ => S0_.2.2.1 167 0 (16 * d_.toNat + k_)) (fun k_ => S0_.2.2.1 168 0 (6 * d_.toNat + k_))) ((S0_.2.2.1 156 0 d_.toNat).toNat + (S0_.2.2.1 155 0 d_.toNat).toNat) q9_ + psm (pgn (fun m_ => S0_.2.2.1 166 0 (2048 * d_.toNat + m_)) (fun m_ => S0_.2.2.1 164 0 (2048 * d_.toNat + m_)) (fun m_ => S0_.2.2.1 165 0 (2048 * d_.toNat + m_)) (ndf F_.toNat N_.toNat ((S0_.2.2.1 156 0 d_.toNat).toNat + (S0_.2.2.1 155 0 d_.toNat).toNat) (fun m_ => S0_.2.2.1 166 0 (2048 * d_.toNat + m_)) (fun m_ => S0_.2.2.1 164 0 (2048 * d_.toNat + m_)) (fun m_ => S0_.2.2.1 165 0 (2048 * d_.toNat + m_)) (rto (S0_.2.2.1 156 0 d_.toNat).toNat (fun k_ => S0_.2.2.1 167 0 (16 * d_.toNat + k_)) (fun k_ => S0_.2.2.1 168 0 (6 * d_.toNat + k_)))) q9_) F_.toNat (N_.toNat - F_.toNat))) then 1 else 0) ∧ ndw N_.toNat (N_.toNat - F_.toNat) (fun m_ => S0_.2.2.1 166 0 (2048 * d_.toNat + m_)) (fun m_ => S0_.2.2.1 164 0 (2048 * d_.toNat + m_)) (fun m_ => S0_.2.2.1 165 0 (2048 * d_.toNat + m_)) (nd0 (fun m_ => S0_.2.2.1 166 0 (2048 * d_.toNat + m_)) (rto (S0_.2.2.1 156 0 d_.toNat).toNat (fun k_ => S0_.2.2.1 167 0 (16 * d_.toNat + k_)) (fun k_ => S0_.2.2.1 168 0 (6 * d_.toNat + k_))) ((S0_.2.2.1 156 0 d_.toNat).toNat + (S0_.2.2.1 155 0 d_.toNat).toNat)) (S1_.2.2.1 202 0) ∧ ∀ j9_ : Int, F_ ≤ j9_ → j9_ < N_ → S1_.2.2.1 202 0 j9_.toNat = 1 → sdv (fun m_ => S0_.2.2.1 166 0 (2048 * d_.toNat + m_)) (fun m_ => S0_.2.2.1 164 0 (2048 * d_.toNat + m_)) (fun m_ => S0_.2.2.1 165 0 (2048 * d_.toNat + m_)) (S1_.2.2.1 199 0 j9_.toNat) (S1_.2.2.1 200 0 j9_.toNat) j9_.toNat)
set_option maxHeartbeats 8000000 in
set_option maxRecDepth 20000 in
theorem vl_394n {sc_ : Nat × (Nat → Int)} (F_ : Int) (N_ : Int) (d_ : Int) (S0_ : sm_S) (hd_ : dmp F_ N_ d_ S0_) : ∀ nn_ : Nat, (∀ (n_ : Int) (k_ : Int) (S_ : sm_S), gi S_ → ai_fr (sx_W vw_394n) S0_ S_ → ((∀ j9_ : Nat, (j9_ : Int) < k_ → S_.2.2.1 201 0 j9_ = 0 ∧ S_.2.2.1 203 0 j9_ = 0) ∧ (n_ = N_ ∧ 0 ≤ k_ ∧ k_ ≤ N_) ∧ (∀ j9_ : Int, 0 ≤ j9_ → j9_ < k_ → S_.2.2.1 202 0 j9_.toNat = 0) ∧ True) → ((90000 - k_).toNat) < nn_ → sm_T (mt_P sc_) 2 394 (12, [some (.inr (.inr (some (13, 0)))), some (.inl n_), some (.inl k_), none, none], [], S_) (fun ro9_ => ∃ u_ S1_, ro9_ = (.inl u_, S1_, 0) ∧ vq_394n F_ N_ d_ S0_ u_ S1_)) ∧ (∀ (n_ : Int) (k_ : Int) (S_ : sm_S), gi S_ → ai_fr (sx_W vw_394n) S0_ S_ → ((∀ q9_ : Nat, (q9_ : Int) < N_ → S_.2.2.1 201 0 q9_ = ((rcn (fun m_ => S0_.2.2.1 166 0 (2048 * d_.toNat + m_)) (rto (S0_.2.2.1 156 0 d_.toNat).toNat (fun k_ => S0_.2.2.1 167 0 (16 * d_.toNat + k_)) (fun k_ => S0_.2.2.1 168 0 (6 * d_.toNat + k_))) k_.toNat q9_ : Nat) : Int)) ∧ (ni0 N_.toNat k_.toNat (fun m_ => S0_.2.2.1 166 0 (2048 * d_.toNat + m_)) (rto (S0_.2.2.1 156 0 d_.toNat).toNat (fun k_ => S0_.2.2.1 167 0 (16 * d_.toNat + k_)) (fun k_ => S0_.2.2.1 168 0 (6 * d_.toNat + k_))) (S_.2.2.1 202 0)) ∧ (∀ q9_ : Nat, (q9_ : Int) < N_ → S_.2.2.1 203 0 q9_ = if F_ ≤ (q9_ : Int) ∧ 0 < rcn (fun m_ => S0_.2.2.1 166 0 (2048 * d_.toNat + m_)) (rto (S0_.2.2.1 156 0 d_.toNat).toNat (fun k_ => S0_.2.2.1 167 0 (16 * d_.toNat + k_)) (fun k_ => S0_.2.2.1 168 0 (6 * d_.toNat + k_))) k_.toNat q9_ then 1 else 0) ∧ (n_ = N_ ∧ 0 ≤ k_ ∧ k_ ≤ 16 ∧ k_ ≤ S0_.2.2.1 156 0 d_.toNat) ∧ (gwn N_ d_ S_) ∧ (rtd F_ d_ k_ 0 S_) ∧ True) → ((80000 - k_).toNat) < nn_ → sm_T (mt_P sc_) 2 394 (46, [some (.inr (.inr (some (13, 0)))), some (.inl n_), some (.inl k_), none, none], [], S_) (fun ro9_ => ∃ u_ S1_, ro9_ = (.inl u_, S1_, 0) ∧ vq_394n F_ N_ d_ S0_ u_ S1_)) ∧ (∀ (n_ : Int) (k_ : Int) (S_ : sm_S), gi S_ → ai_fr (sx_W vw_394n) S0_ S_ → ((∀ q9_ : Nat, (q9_ : Int) < N_ → S_.2.2.1 201 0 q9_ = ((rcn (fun m_ => S0_.2.2.1 166 0 (2048 * d_.toNat + m_)) (rto (S0_.2.2.1 156 0 d_.toNat).toNat (fun k_ => S0_.2.2.1 167 0 (16 * d_.toNat + k_)) (fun k_ => S0_.2.2.1 168 0 (6 * d_.toNat + k_))) ((S0_.2.2.1 156 0 d_.toNat).toNat + k_.toNat) q9_ : Nat) : Int)) ∧ (ni0 N_.toNat ((S0_.2.2.1 156 0 d_.toNat).toNat + k_.toNat) (fun m_ => S0_.2.2.1 166 0 (2048 * d_.toNat + m_)) (rto (S0_.2.2.1 156 0 d_.toNat).toNat (fun k_ => S0_.2.2.1 167 0 (16 * d_.toNat + k_)) (fun k_ => S0_.2.2.1 168 0 (6 * d_.toNat + k_))) (S_.2.2.1 202 0)) ∧ (∀ q9_ : Nat, (q9_ : Int) < N_ → S_.2.2.1 203 0 q9_ = if F_ ≤ (q9_ : Int) ∧ 0 < rcn (fun m_ => S0_.2.2.1 166 0 (2048 * d_.toNat + m_)) (rto (S0_.2.2.1 156 0 d_.toNat).toNat (fun k_ => S0_.2.2.1 167 0 (16 * d_.toNat + k_)) (fun k_ => S0_.2.2.1 168 0 (6 * d_.toNat + k_))) ((S0_.2.2.1 156 0 d_.toNat).toNat + k_.toNat) q9_ then 1 else 0) ∧ (n_ = N_ ∧ 0 ≤ k_ ∧ k_ ≤ 6 ∧ k_ ≤ S0_.2.2.1 155 0 d_.toNat) ∧ (gwn N_ d_ S_) ∧ (rtd F_ d_ (S0_.2.2.1 156 0 d_.toNat) k_ S_) ∧ True) → ((70000 - k_).toNat) < nn_ → sm_T (mt_P sc_) 2 394 (85, [some (.inr (.inr (some (13, 0)))), some (.inl n_), some (.inl k_), none, none], [], S_) (fun ro9_ => ∃ u_ S1_, ro9_ = (.inl u_, S1_, 0) ∧ vq_394n F_ N_ d_ S0_ u_ S1_)) ∧ (∀ (n_ : Int) (k_ : Int) (S_ : sm_S), gi S_ → ai_fr (sx_W vw_394n) S0_ S_ → ((∀ q9_ : Nat, (q9_ : Int) < N_ → S_.2.2.1 201 0 q9_ = ((rcn (fun m_ => S0_.2.2.1 166 0 (2048 * d_.toNat + m_)) (rto (S0_.2.2.1 156 0 d_.toNat).toNat (fun k_ => S0_.2.2.1 167 0 (16 * d_.toNat + k_)) (fun k_ => S0_.2.2.1 168 0 (6 * d_.toNat + k_))) ((S0_.2.2.1 156 0 d_.toNat).toNat + (S0_.2.2.1 155 0 d_.toNat).toNat) q9_ + psm (pgn (fun m_ => S0_.2.2.1 166 0 (2048 * d_.toNat + m_)) (fun m_ => S0_.2.2.1 164 0 (2048 * d_.toNat + m_)) (fun m_ => S0_.2.2.1 165 0 (2048 * d_.toNat + m_)) (ndf F_.toNat N_.toNat ((S0_.2.2.1 156 0 d_.toNat).toNat + (S0_.2.2.1 155 0 d_.toNat).toNat) (fun m_ => S0_.2.2.1 166 0 (2048 * d_.toNat + m_)) (fun m_ => S0_.2.2.1 164 0 (2048 * d_.toNat + m_)) (fun m_ => S0_.2.2.1 165 0 (2048 * d_.toNat + m_)) (rto (S0_.2.2.1 156 0 d_.toNat).toNat (fun k_ => S0_.2.2.1 167 0 (16 * d_.toNat + k_)) (fun k_ => S0_.2.2.1 168 0 (6 * d_.toNat + k_)))) q9_) (k_ + 1).toNat (N_ - 1 - k_).toNat : Nat) : Int)) ∧ (ndw N_.toNat (N_ - 1 - k_).toNat (fun m_ => S0_.2.2.1 166 0 (2048 * d_.toNat + m_)) (fun m_ => S0_.2.2.1 164 0 (2048 * d_.toNat + m_)) (fun m_ => S0_.2.2.1 165 0 (2048 * d_.toNat + m_)) (nd0 (fun m_ => S0_.2.2.1 166 0 (2048 * d_.toNat + m_)) (rto (S0_.2.2.1 156 0 d_.toNat).toNat (fun k_ => S0_.2.2.1 167 0 (16 * d_.toNat + k_)) (fun k_ => S0_.2.2.1 168 0 (6 * d_.toNat + k_))) ((S0_.2.2.1 156 0 d_.toNat).toNat + (S0_.2.2.1 155 0 d_.toNat).toNat)) (S_.2.2.1 202 0)) ∧ (∀ q9_ : Nat, (q9_ : Int) < N_ → S_.2.2.1 203 0 q9_ = if F_ ≤ (q9_ : Int) ∧ 0 < rcn (fun m_ => S0_.2.2.1 166 0 (2048 * d_.toNat + m_)) (rto (S0_.2.2.1 156 0 d_.toNat).toNat (fun k_ => S0_.2.2.1 167 0 (16 * d_.toNat + k_)) (fun k_ => S0_.2.2.1 168 0 (6 * d_.toNat + k_))) ((S0_.2.2.1 156 0 d_.toNat).toNat + (S0_.2.2.1 155 0 d_.toNat).toNat) q9_ then 1 else 0) ∧ (∀ j9_ : Int, k_ < j9_ → F_ ≤ j9_ → j9_ < N_ → S_.2.2.1 202 0 j9_.toNat = 1 → sdv (fun m_ => S0_.2.2.1 166 0 (2048 * d_.toNat + m_)) (fun m_ => S0_.2.2.1 164 0 (2048 * d_.toNat + m_)) (fun m_ => S0_.2.2.1 165 0 (2048 * d_.toNat + m_)) (S_.2.2.1 199 0 j9_.toNat) (S_.2.2.1 200 0 j9_.toNat) j9_.toNat) ∧ (n_ = N_ ∧ F_ - 1 ≤ k_ ∧ k_ < N_) ∧ (gwn N_ d_ S_) ∧ (rtd F_ d_ (S0_.2.2.1 156 0 d_.toNat) (S0_.2.2.1 155 0 d_.toNat) S_) ∧ (∀ j9_ : Int, k_ < j9_ → F_ ≤ j9_ → j9_ < N_ → S_.2.2.1 202 0 j9_.toNat = 1 → lgp S_ j9_) ∧ True) → ((10000 + k_).toNat) < nn_ → sm_T (mt_P sc_) 2 394 (126, [some (.inr (.inr (some (13, 0)))), some (.inl n_), some (.inl k_), none, none], [], S_) (fun ro9_ => ∃ u_ S1_, ro9_ = (.inl u_, S1_, 0) ∧ vq_394n F_ N_ d_ S0_ u_ S1_)) ∧ (∀ (n_ : Int) (k_ : Int) (S_ : sm_S), gi S_ → ai_fr (sx_W vw_394n) S0_ S_ → ((∀ q9_ : Nat, (q9_ : Int) < N_ → S_.2.2.1 201 0 q9_ = ((rcn (fun m_ => S0_.2.2.1 166 0 (2048 * d_.toNat + m_)) (rto (S0_.2.2.1 156 0 d_.toNat).toNat (fun k_ => S0_.2.2.1 167 0 (16 * d_.toNat + k_)) (fun k_ => S0_.2.2.1 168 0 (6 * d_.toNat + k_))) ((S0_.2.2.1 156 0 d_.toNat).toNat + (S0_.2.2.1 155 0 d_.toNat).toNat) q9_ + psm (pgn (fun m_ => S0_.2.2.1 166 0 (2048 * d_.toNat + m_)) (fun m_ => S0_.2.2.1 164 0 (2048 * d_.toNat + m_)) (fun m_ => S0_.2.2.1 165 0 (2048 * d_.toNat + m_)) (ndf F_.toNat N_.toNat ((S0_.2.2.1 156 0 d_.toNat).toNat + (S0_.2.2.1 155 0 d_.toNat).toNat) (fun m_ => S0_.2.2.1 166 0 (2048 * d_.toNat + m_)) (fun m_ => S0_.2.2.1 164 0 (2048 * d_.toNat + m_)) (fun m_ => S0_.2.2.1 165 0 (2048 * d_.toNat + m_)) (rto (S0_.2.2.1 156 0 d_.toNat).toNat (fun k_ => S0_.2.2.1 167 0 (16 * d_.toNat + k_)) (fun k_ => S0_.2.2.1 168 0 (6 * d_.toNat + k_)))) q9_) F_.toNat (N_.toNat - F_.toNat) : Nat) : Int)) ∧ (ndw N_.toNat (N_.toNat - F_.toNat) (fun m_ => S0_.2.2.1 166 0 (2048 * d_.toNat + m_)) (fun m_ => S0_.2.2.1 164 0 (2048 * d_.toNat + m_)) (fun m_ => S0_.2.2.1 165 0 (2048 * d_.toNat + m_)) (nd0 (fun m_ => S0_.2.2.1 166 0 (2048 * d_.toNat + m_)) (rto (S0_.2.2.1 156 0 d_.toNat).toNat (fun k_ => S0_.2.2.1 167 0 (16 * d_.toNat + k_)) (fun k_ => S0_.2.2.1 168 0 (6 * d_.toNat + k_))) ((S0_.2.2.1 156 0 d_.toNat).toNat + (S0_.2.2.1 155 0 d_.toNat).toNat)) (S_.2.2.1 202 0)) ∧ (∀ q9_ : Nat, (q9_ : Int) < N_ → S_.2.2.1 203 0 q9_ = if (q9_ : Int) < k_ then (if F_ ≤ (q9_ : Int) ∧ (0 < rcn (fun m_ => S0_.2.2.1 166 0 (2048 * d_.toNat + m_)) (rto (S0_.2.2.1 156 0 d_.toNat).toNat (fun k_ => S0_.2.2.1 167 0 (16 * d_.toNat + k_)) (fun k_ => S0_.2.2.1 168 0 (6 * d_.toNat + k_))) ((S0_.2.2.1 156 0 d_.toNat).toNat + (S0_.2.2.1 155 0 d_.toNat).toNat) q9_ ∨ ((ndf F_.toNat N_.toNat ((S0_.2.2.1 156 0 d_.toNat).toNat + (S0_.2.2.1 155 0 d_.toNat).toNat) (fun m_ => S0_.2.2.1 166 0 (2048 * d_.toNat + m_)) (fun m_ => S0_.2.2.1 164 0 (2048 * d_.toNat + m_)) (fun m_ => S0_.2.2.1 165 0 (2048 * d_.toNat + m_)) (rto (S0_.2.2.1 156 0 d_.toNat).toNat (fun k_ => S0_.2.2.1 167 0 (16 * d_.toNat + k_)) (fun k_ => S0_.2.2.1 168 0 (6 * d_.toNat + k_)))) q9_ = true ∧ 1 < rcn (fun m_ => S0_.2.2.1 166 0 (2048 * d_.toNat + m_)) (rto (S0_.2.2.1 156 0 d_.toNat).toNat (fun k_ => S0_.2.2.1 167 0 (16 * d_.toNat + k_)) (fun k_ => S0_.2.2.1 168 0 (6 * d_.toNat + k_))) ((S0_.2.2.1 156 0 d_.toNat).toNat + (S0_.2.2.1 155 0 d_.toNat).toNat) q9_ + psm (pgn (fun m_ => S0_.2.2.1 166 0 (2048 * d_.toNat + m_)) (fun m_ => S0_.2.2.1 164 0 (2048 * d_.toNat + m_)) (fun m_ => S0_.2.2.1 165 0 (2048 * d_.toNat + m_)) (ndf F_.toNat N_.toNat ((S0_.2.2.1 156 0 d_.toNat).toNat + (S0_.2.2.1 155 0 d_.toNat).toNat) (fun m_ => S0_.2.2.1 166 0 (2048 * d_.toNat + m_)) (fun m_ => S0_.2.2.1 164 0 (2048 * d_.toNat + m_)) (fun m_ => S0_.2.2.1 165 0 (2048 * d_.toNat + m_)) (rto (S0_.2.2.1 156 0 d_.toNat).toNat (fun k_ => S0_.2.2.1 167 0 (16 * d_.toNat + k_)) (fun k_ => S0_.2.2.1 168 0 (6 * d_.toNat + k_)))) q9_) F_.toNat (N_.toNat - F_.toNat))) then 1 else 0) else if F_ ≤ (q9_ : Int) ∧ 0 < rcn (fun m_ => S0_.2.2.1 166 0 (2048 * d_.toNat + m_)) (rto (S0_.2.2.1 156 0 d_.toNat).toNat (fun k_ => S0_.2.2.1 167 0 (16 * d_.toNat + k_)) (fun k_ => S0_.2.2.1 168 0 (6 * d_.toNat + k_))) ((S0_.2.2.1 156 0 d_.toNat).toNat + (S0_.2.2.1 155 0 d_.toNat).toNat) q9_ then 1 else 0) ∧ (∀ j9_ : Int, F_ ≤ j9_ → j9_ < N_ → S_.2.2.1 202 0 j9_.toNat = 1 → sdv (fun m_ => S0_.2.2.1 166 0 (2048 * d_.toNat + m_)) (fun m_ => S0_.2.2.1 164 0 (2048 * d_.toNat + m_)) (fun m_ => S0_.2.2.1 165 0 (2048 * d_.toNat + m_)) (S_.2.2.1 199 0 j9_.toNat) (S_.2.2.1 200 0 j9_.toNat) j9_.toNat) ∧ (n_ = N_ ∧ F_ ≤ k_ ∧ k_ ≤ N_) ∧ (rtd F_ d_ (S0_.2.2.1 156 0 d_.toNat) (S0_.2.2.1 155 0 d_.toNat) S_) ∧ (lgn F_ N_ S_) ∧ True) → ((5000 - k_).toNat) < nn_ → sm_T (mt_P sc_) 2 394 (285, [some (.inr (.inr (some (13, 0)))), some (.inl n_), some (.inl k_), none, none], [], S_) (fun ro9_ => ∃ u_ S1_, ro9_ = (.inl u_, S1_, 0) ∧ vq_394n F_ N_ d_ S0_ u_ S1_)) := by
  intro nn_
  induction nn_ with
  | zero => exact ⟨fun _ _ _ _ _ _ h_ => absurd h_ (Nat.not_lt_zero _), fun _ _ _ _ _ _ h_ => absurd h_ (Nat.not_lt_zero _), fun _ _ _ _ _ _ h_ => absurd h_ (Nat.not_lt_zero _), fun _ _ _ _ _ _ h_ => absurd h_ (Nat.not_lt_zero _), fun _ _ _ _ _ _ h_ => absurd h_ (Nat.not_lt_zero _)⟩
  | succ nn_ ih_ =>
    refine ⟨?_, ?_, ?_, ?_, ?_⟩
    · rintro n_ k_ S_ hI_ hF_ ⟨h2_, h0_, h1_, -⟩ hm_
      have d9_ := dmp_fr hd_ hF_
      have d1_ := d9_.1
      have n9_ : nod d_ S_ = nod d_ S0_ := nod_fr hF_
      have f154_ : S_.2.2.1 154 0 = S0_.2.2.1 154 0 := fr_arr hF_ rfl
      have f155_ : S_.2.2.1 155 0 = S0_.2.2.1 155 0 := fr_arr hF_ rfl
      have f156_ : S_.2.2.1 156 0 = S0_.2.2.1 156 0 := fr_arr hF_ rfl
      have f159_ : S_.2.2.1 159 0 = S0_.2.2.1 159 0 := fr_arr hF_ rfl
      have f160_ : S_.2.2.1 160 0 = S0_.2.2.1 160 0 := fr_arr hF_ rfl
      have f164_ : S_.2.2.1 164 0 = S0_.2.2.1 164 0 := fr_arr hF_ rfl
      have f165_ : S_.2.2.1 165 0 = S0_.2.2.1 165 0 := fr_arr hF_ rfl
      have f166_ : S_.2.2.1 166 0 = S0_.2.2.1 166 0 := fr_arr hF_ rfl
      have f167_ : S_.2.2.1 167 0 = S0_.2.2.1 167 0 := fr_arr hF_ rfl
      have f168_ : S_.2.2.1 168 0 = S0_.2.2.1 168 0 := fr_arr hF_ rfl
      have c55_ : 0 ≤ S_.2.2.1 155 0 d_.toNat ∧ S_.2.2.1 155 0 d_.toNat ≤ 6 := hI_.2 155 0 _
      have c56_ : 0 ≤ S_.2.2.1 156 0 d_.toNat ∧ S_.2.2.1 156 0 d_.toNat ≤ 16 := hI_.2 156 0 _
      have e155_ : S_.2.2.1 155 0 (S_.1 13 0 105).toNat = S_.2.2.1 155 0 d_.toNat := by rw [d1_.2.2.1]
      have e156_ : S_.2.2.1 156 0 (S_.1 13 0 105).toNat = S_.2.2.1 156 0 d_.toNat := by rw [d1_.2.2.1]
      have e160_ : S_.2.2.1 160 0 (S_.1 13 0 105).toNat = F_ := by (rw [d1_.2.2.1]; exact d1_.2.2.2.1)
      refine sm_T_go 2 (c1 := (14, [some (.inr (.inr (some (13, 0)))), some (.inl n_), some (.inl k_), none, none], [.inl n_, .inl k_], S_)) rfl ?_
      refine sm_T_br (a := 3) (z := 30) rfl (fun cx1_ => ?_) (fun cx1_ => ?_)
      · have cx1_ : n_ ≤ k_ := of_decide_eq_true cx1_
        refine sm_T_go 2 (c1 := (46, [some (.inr (.inr (some (13, 0)))), some (.inl n_), some (.inl 0), none, none], [], S_)) rfl ?_
        refine ih_.2.1 n_ 0 S_ hI_ hF_ ⟨?_, ?_, ?_, ?_, ?_, ?_, trivial⟩ ?_
        · (intro q9_ hq9_; rw [(h2_ q9_ (by omega)).1]; rfl)
        · exact ni0_0 (fun q9_ hq9_ => by (have w9_ := h1_ (q9_ : Int) (by omega) (by omega); rw [Int.toNat_natCast] at w9_; exact w9_))
        · (intro q9_ hq9_; rw [(h2_ q9_ (by omega)).2, if_neg (fun z9_ => absurd z9_.2 (Nat.lt_irrefl 0))])
        · (have x56_ : S_.2.2.1 156 0 d_.toNat = S0_.2.2.1 156 0 d_.toNat := congrFun f156_ _; omega)
        · (intro k9_ u0_ u1_ u2_; rw [h1_ k9_ u0_ (by omega)] at u2_; exact absurd u2_ (by decide))
        · exact ⟨fun i9_ u0_ u1_ => absurd u1_ (by omega), fun i9_ u0_ u1_ => absurd u1_ (by omega)⟩
        · omega
      · have cx1_ : ¬ (n_ ≤ k_) := of_decide_eq_false cx1_
        refine sm_T_go 4 (c1 := (23, [some (.inr (.inr (some (13, 0)))), some (.inl n_), some (.inl k_), none, none], [.inl 0, .inl k_, .inr (.inr (some (202, 0)))], S_)) rfl ?_
        refine sm_T_zas1 (n := 2048) rfl rfl (by omega) (by omega) (by omega) ?_
        have hIx2_ : gi (sm_aI S_ 202 0 k_.toNat 0) := gi_aI hI_ (show 0 ≤ 0 ∧ 0 ≤ 1 from ⟨by omega, by omega⟩)
        have hFx3_ : ai_fr (sx_W vw_394n) S0_ (sm_aI S_ 202 0 k_.toNat 0) := ai_fr_tr hF_ (ai_fr_aI rfl)
        refine sm_T_go 4 (c1 := (30, [some (.inr (.inr (some (13, 0)))), some (.inl n_), some (.inl k_), none, none], [.inl 0, .inl k_, .inr (.inr (some (203, 0)))], sm_aI S_ 202 0 k_.toNat 0)) rfl ?_
        refine sm_T_zas1 (n := 2048) rfl rfl (by omega) (by omega) (by omega) ?_
        have hIx4_ : gi (sm_aI (sm_aI S_ 202 0 k_.toNat 0) 203 0 k_.toNat 0) := gi_aI hIx2_ (show 0 ≤ 0 ∧ 0 ≤ 1 from ⟨by omega, by omega⟩)
        have hFx5_ : ai_fr (sx_W vw_394n) S0_ (sm_aI (sm_aI S_ 202 0 k_.toNat 0) 203 0 k_.toNat 0) := ai_fr_tr hFx3_ (ai_fr_aI rfl)
        refine sm_T_go 4 (c1 := (37, [some (.inr (.inr (some (13, 0)))), some (.inl n_), some (.inl k_), none, none], [.inl 0, .inl k_, .inr (.inr (some (201, 0)))], sm_aI (sm_aI S_ 202 0 k_.toNat 0) 203 0 k_.toNat 0)) rfl ?_
        refine sm_T_iast (n := 2048) rfl rfl (by omega) (by omega) ?_
        have hIx6_ : gi (sm_aI (sm_aI (sm_aI S_ 202 0 k_.toNat 0) 203 0 k_.toNat 0) 201 0 k_.toNat 0) := gi_aI hIx4_ (show (-2147483648) ≤ 0 ∧ 0 ≤ 2147483647 from ⟨by omega, by omega⟩)
        have hFx7_ : ai_fr (sx_W vw_394n) S0_ (sm_aI (sm_aI (sm_aI S_ 202 0 k_.toNat 0) 203 0 k_.toNat 0) 201 0 k_.toNat 0) := ai_fr_tr hFx5_ (ai_fr_aI rfl)
        refine sm_T_inc (a := 2) (z := 1) (v := k_) (w := k_ + 1) rfl rfl (by omega) (by omega) (by omega) ?_ -- pc_ 38
        refine sm_T_go 1 (c1 := (12, [some (.inr (.inr (some (13, 0)))), some (.inl n_), some (.inl (k_ + 1)), none, none], [], sm_aI (sm_aI (sm_aI S_ 202 0 k_.toNat 0) 203 0 k_.toNat 0) 201 0 k_.toNat 0)) rfl ?_
        refine ih_.1 n_ (k_ + 1) (sm_aI (sm_aI (sm_aI S_ 202 0 k_.toNat 0) 203 0 k_.toNat 0) 201 0 k_.toNat 0) hIx6_ hFx7_ ⟨?_, ?_, ?_, trivial⟩ ?_
        · intro j9_ hj9_
          have w9_ := fun q9_ => h2_ j9_ q9_
          refine ⟨?_, ?_⟩
          · (try simp only [rd_eq, rd_ne, rf_eq, rf_nk, rf_nt, rd_fa, rd_af, rd_fl, rd_al, rd_lf, rd_la, rd_leq, rd_lne, rd_fr, rd_ar, ne_eq, Nat.reduceEqDiff, not_false_eq_true]); split; rfl; exact (w9_ (by omega)).1
          · (try simp only [rd_eq, rd_ne, rf_eq, rf_nk, rf_nt, rd_fa, rd_af, rd_fl, rd_al, rd_lf, rd_la, rd_leq, rd_lne, rd_fr, rd_ar, ne_eq, Nat.reduceEqDiff, not_false_eq_true]); split; rfl; exact (w9_ (by omega)).2
        · omega
        · intro j9_ u0_ u1_
          (try simp only [rd_eq, rd_ne, rf_eq, rf_nk, rf_nt, rd_fa, rd_af, rd_fl, rd_al, rd_lf, rd_la, rd_leq, rd_lne, rd_fr, rd_ar, ne_eq, Nat.reduceEqDiff, not_false_eq_true])
          split
          · rfl
          · exact h1_ j9_ u0_ (by omega)
        · omega
    · rintro n_ k_ S_ hI_ hF_ ⟨hu_, hw_, hv_, h0_, hg_, hr_, -⟩ hm_
      have d9_ := dmp_fr hd_ hF_
      have d1_ := d9_.1
      have n9_ : nod d_ S_ = nod d_ S0_ := nod_fr hF_
      have f154_ : S_.2.2.1 154 0 = S0_.2.2.1 154 0 := fr_arr hF_ rfl
      have f155_ : S_.2.2.1 155 0 = S0_.2.2.1 155 0 := fr_arr hF_ rfl
      have f156_ : S_.2.2.1 156 0 = S0_.2.2.1 156 0 := fr_arr hF_ rfl
      have f159_ : S_.2.2.1 159 0 = S0_.2.2.1 159 0 := fr_arr hF_ rfl
      have f160_ : S_.2.2.1 160 0 = S0_.2.2.1 160 0 := fr_arr hF_ rfl
      have f164_ : S_.2.2.1 164 0 = S0_.2.2.1 164 0 := fr_arr hF_ rfl
      have f165_ : S_.2.2.1 165 0 = S0_.2.2.1 165 0 := fr_arr hF_ rfl
      have f166_ : S_.2.2.1 166 0 = S0_.2.2.1 166 0 := fr_arr hF_ rfl
      have f167_ : S_.2.2.1 167 0 = S0_.2.2.1 167 0 := fr_arr hF_ rfl
      have f168_ : S_.2.2.1 168 0 = S0_.2.2.1 168 0 := fr_arr hF_ rfl
      have c55_ : 0 ≤ S_.2.2.1 155 0 d_.toNat ∧ S_.2.2.1 155 0 d_.toNat ≤ 6 := hI_.2 155 0 _
      have c56_ : 0 ≤ S_.2.2.1 156 0 d_.toNat ∧ S_.2.2.1 156 0 d_.toNat ≤ 16 := hI_.2 156 0 _
      have e155_ : S_.2.2.1 155 0 (S_.1 13 0 105).toNat = S_.2.2.1 155 0 d_.toNat := by rw [d1_.2.2.1]
      have e156_ : S_.2.2.1 156 0 (S_.1 13 0 105).toNat = S_.2.2.1 156 0 d_.toNat := by rw [d1_.2.2.1]
      have e160_ : S_.2.2.1 160 0 (S_.1 13 0 105).toNat = F_ := by (rw [d1_.2.2.1]; exact d1_.2.2.2.1)
      have bx1_ : 0 ≤ S_.1 13 0 105 ∧ S_.1 13 0 105 ≤ 5 := hI_.1 13 0 105 rfl
      refine sm_T_go 5 (c1 := (55, [some (.inr (.inr (some (13, 0)))), some (.inl n_), some (.inl k_), none, none], [.inl (S_.1 13 0 105), .inr (.inr (some (156, 0))), .inl k_], S_)) rfl ?_
      refine sm_T_iald (n := 6) rfl rfl (by omega) (by omega) ?_
      have bx2_ : 0 ≤ S_.2.2.1 156 0 (S_.1 13 0 105).toNat ∧ S_.2.2.1 156 0 (S_.1 13 0 105).toNat ≤ 16 := hI_.2 156 0 _
      refine sm_T_br (a := 3) (z := 27) rfl (fun cx3_ => ?_) (fun cx3_ => ?_)
      · have cx3_ : (S_.2.2.1 156 0 (S_.1 13 0 105).toNat) ≤ k_ := of_decide_eq_true cx3_
        have x56_ : S_.2.2.1 156 0 d_.toNat = S0_.2.2.1 156 0 d_.toNat := congrFun f156_ _
        refine sm_T_go 2 (c1 := (85, [some (.inr (.inr (some (13, 0)))), some (.inl n_), some (.inl 0), none, none], [], S_)) rfl ?_
        refine ih_.2.2.1 n_ 0 S_ hI_ hF_ ⟨?_, ?_, ?_, ?_, ?_, ?_, trivial⟩ ?_
        · (intro q9_ hq9_; have w9_ := hu_ q9_ hq9_; rw [show (S0_.2.2.1 156 0 d_.toNat).toNat + (0 : Int).toNat = k_.toNat by omega]; exact w9_)
        · (rw [show (S0_.2.2.1 156 0 d_.toNat).toNat + (0 : Int).toNat = k_.toNat by omega]; exact hw_)
        · (intro q9_ hq9_; have w9_ := hv_ q9_ hq9_; rw [show (S0_.2.2.1 156 0 d_.toNat).toNat + (0 : Int).toNat = k_.toNat by omega]; exact w9_)
        · (have x55_ : S_.2.2.1 155 0 d_.toNat = S0_.2.2.1 155 0 d_.toNat := congrFun f155_ _; omega)
        · exact hg_
        · (rw [show S0_.2.2.1 156 0 d_.toNat = k_ by omega]; exact hr_)
        · omega
      · have cx3_ : ¬ ((S_.2.2.1 156 0 (S_.1 13 0 105).toNat) ≤ k_) := of_decide_eq_false cx3_
        have x56_ : S_.2.2.1 156 0 d_.toNat = S0_.2.2.1 156 0 d_.toNat := congrFun f156_ _
        have l9_ := (dmp_l d9_ (k_ := k_)).1 (by omega) (by omega)
        have t9_ : (16 * S_.1 13 0 105 + k_).toNat = (16 * d_ + k_).toNat := by (rw [d1_.2.2.1])
        have l8_ := l9_
        rw [← t9_] at l8_
        refine sm_T_go 6 (c1 := (70, [some (.inr (.inr (some (13, 0)))), some (.inl n_), some (.inl k_), none, none], [.inl (S_.1 13 0 105), .inl 16, .inr (.inr (some (167, 0))), .inr (.inr (some (13, 0)))], S_)) rfl ?_
        refine sm_T_bin (w := 16 * (S_.1 13 0 105)) rfl (bi_mul (by omega) (by omega) (by omega)) ?_ -- pc_ 70
        refine sm_T_go 1 (c1 := (72, [some (.inr (.inr (some (13, 0)))), some (.inl n_), some (.inl k_), none, none], [.inl k_, .inl (16 * (S_.1 13 0 105)), .inr (.inr (some (167, 0))), .inr (.inr (some (13, 0)))], S_)) rfl ?_
        refine sm_T_bin (w := 16 * (S_.1 13 0 105) + k_) rfl (bi_add (by omega) (by omega) (by omega)) ?_ -- pc_ 72
        refine sm_T_iald (n := 96) rfl rfl (by omega) (by omega) ?_
        have bx4_ : 0 ≤ S_.2.2.1 167 0 (16 * (S_.1 13 0 105) + k_).toNat ∧ S_.2.2.1 167 0 (16 * (S_.1 13 0 105) + k_).toNat ≤ 2047 := hI_.2 167 0 _
        refine sm_T_cal (d1 := 1) (Q1 := vq_393n (S_.2.2.1 167 0 (16 * (S_.1 13 0 105) + k_).toNat) F_ N_ d_ S_) rfl rfl (by decide) (vc_393n (S_.2.2.1 167 0 (16 * (S_.1 13 0 105) + k_).toNat) F_ N_ d_ S_ hI_ (by exact d9_) (by omega) (by (have b9_ := nod_b d9_ (l_ := S_.2.2.1 167 0 (16 * S_.1 13 0 105 + k_).toNat) (by omega) (by omega); have z9_ := hu_ (nod d_ S_ (S_.2.2.1 167 0 (16 * S_.1 13 0 105 + k_).toNat)).toNat (by omega); have z8_ := rcn_le (sf_ := (fun m_ => S0_.2.2.1 166 0 (2048 * d_.toNat + m_))) (rt_ := (rto (S0_.2.2.1 156 0 d_.toNat).toNat (fun k_ => S0_.2.2.1 167 0 (16 * d_.toNat + k_)) (fun k_ => S0_.2.2.1 168 0 (6 * d_.toNat + k_)))) (q_ := (nod d_ S_ (S_.2.2.1 167 0 (16 * S_.1 13 0 105 + k_).toNat)).toNat) (k_.toNat); omega))) (fun u_ Sx5_ px8_ => ?_)
        obtain ⟨rfl, hIx6_, hFx7_, px8_⟩ := px8_
        have hFx9_ : ai_fr (sx_W vw_394n) S0_ Sx5_ := ai_fr_tr hF_ (fr_le hFx7_ rfl)
        have ex10_ : Sx5_.1 13 0 105 = S_.1 13 0 105 := hFx7_.1 13 0 105 rfl
        have w74_ := (px8_).1
        have y974_ := (px8_).2
        rw [n9_, t9_] at w74_ y974_
        have n74_ : nod d_ Sx5_ = nod d_ S0_ := (nod_fr hFx7_).trans n9_
        have x74_ : Sx5_.2.2.1 166 0 = S_.2.2.1 166 0 := fr_arr hFx7_ rfl
        have y74_ : Sx5_.2.2.1 167 0 = S_.2.2.1 167 0 := fr_arr hFx7_ rfl
        have z74_ : Sx5_.2.2.1 168 0 = S_.2.2.1 168 0 := fr_arr hFx7_ rfl
        have rk9_ : (rto (S0_.2.2.1 156 0 d_.toNat).toNat (fun k_ => S0_.2.2.1 167 0 (16 * d_.toNat + k_)) (fun k_ => S0_.2.2.1 168 0 (6 * d_.toNat + k_))) k_.toNat = S_.2.2.1 167 0 (16 * d_ + k_).toNat := by (unfold rto; rw [if_pos (by omega), f167_]; exact congrArg (S0_.2.2.1 167 0) (by omega))
        have rn9_ : (nod d_ S0_ (S_.2.2.1 167 0 (16 * d_ + k_).toNat)).toNat = nsw (fun m_ => S0_.2.2.1 166 0 (2048 * d_.toNat + m_)) ((rto (S0_.2.2.1 156 0 d_.toNat).toNat (fun k_ => S0_.2.2.1 167 0 (16 * d_.toNat + k_)) (fun k_ => S0_.2.2.1 168 0 (6 * d_.toNat + k_))) k_.toNat) := by (rw [rk9_]; exact nod_n (by omega) (by omega))
        refine sm_T_inc (a := 2) (z := 1) (v := k_) (w := k_ + 1) rfl rfl (by omega) (by omega) (by omega) ?_ -- pc_ 77
        refine sm_T_go 1 (c1 := (46, [some (.inr (.inr (some (13, 0)))), some (.inl n_), some (.inl (k_ + 1)), none, none], [], Sx5_)) rfl ?_
        refine ih_.2.1 n_ (k_ + 1) Sx5_ hIx6_ hFx9_ ⟨?_, ?_, ?_, ?_, ?_, ?_, trivial⟩ ?_
        · intro q9_ hq9_
          have w9_ := hu_ q9_ hq9_
          rw [show (k_ + 1).toNat = k_.toNat + 1 by omega, y974_]
          show _ = (((rcn (fun m_ => S0_.2.2.1 166 0 (2048 * d_.toNat + m_)) (rto (S0_.2.2.1 156 0 d_.toNat).toNat (fun k_ => S0_.2.2.1 167 0 (16 * d_.toNat + k_)) (fun k_ => S0_.2.2.1 168 0 (6 * d_.toNat + k_))) k_.toNat q9_ + (if q9_ = nsw (fun m_ => S0_.2.2.1 166 0 (2048 * d_.toNat + m_)) ((rto (S0_.2.2.1 156 0 d_.toNat).toNat (fun k_ => S0_.2.2.1 167 0 (16 * d_.toNat + k_)) (fun k_ => S0_.2.2.1 168 0 (6 * d_.toNat + k_))) k_.toNat) then 1 else 0)) : Nat) : Int)
          rw [← rn9_]
          by_cases z9_ : q9_ = (nod d_ S0_ (S_.2.2.1 167 0 (16 * d_ + k_).toNat)).toNat
          · rw [if_pos z9_, if_pos z9_, w9_]; omega
          · rw [if_neg z9_, if_neg z9_, w9_]; omega
        · rw [show (k_ + 1).toNat = k_.toNat + 1 by omega]
          refine ni0_s hw_ (fun q9_ => ?_)
          rw [w74_.1, rn9_]
        · intro q9_ hq9_
          have w9_ := hv_ q9_ hq9_
          have b9_ := nod_b d9_ (l_ := S_.2.2.1 167 0 (16 * d_ + k_).toNat) (by omega) (by omega)
          rw [n9_] at b9_
          rw [show (k_ + 1).toNat = k_.toNat + 1 by omega, w74_.2]
          show _ = if F_ ≤ (q9_ : Int) ∧ 0 < (rcn (fun m_ => S0_.2.2.1 166 0 (2048 * d_.toNat + m_)) (rto (S0_.2.2.1 156 0 d_.toNat).toNat (fun k_ => S0_.2.2.1 167 0 (16 * d_.toNat + k_)) (fun k_ => S0_.2.2.1 168 0 (6 * d_.toNat + k_))) k_.toNat q9_ + (if q9_ = nsw (fun m_ => S0_.2.2.1 166 0 (2048 * d_.toNat + m_)) ((rto (S0_.2.2.1 156 0 d_.toNat).toNat (fun k_ => S0_.2.2.1 167 0 (16 * d_.toNat + k_)) (fun k_ => S0_.2.2.1 168 0 (6 * d_.toNat + k_))) k_.toNat) then 1 else 0)) then 1 else 0
          rw [← rn9_]
          by_cases z9_ : q9_ = (nod d_ S0_ (S_.2.2.1 167 0 (16 * d_ + k_).toNat)).toNat
          · rw [if_pos z9_, if_pos z9_]; by_cases y9_ : nod d_ S0_ (S_.2.2.1 167 0 (16 * d_ + k_).toNat) < F_
            · rw [if_pos y9_, if_neg (by omega)]
            · rw [if_neg y9_, if_pos (by omega)]
          · rw [if_neg z9_, if_neg z9_, w9_, Nat.add_zero]
        · omega
        · intro k9_ u0_ u1_ u2_
          rw [x74_]
          rw [w74_.1] at u2_
          by_cases z9_ : k9_.toNat = (nod d_ S0_ (S_.2.2.1 167 0 (16 * d_ + k_).toNat)).toNat
          · have b9_ := nod_b d9_ (l_ := S_.2.2.1 167 0 (16 * d_ + k_).toNat) (by omega) (by omega); rw [n9_] at b9_; rw [show k9_ = nod d_ S0_ (S_.2.2.1 167 0 (16 * d_ + k_).toNat) by omega]; exact b9_.2.2.1
          · rw [if_neg z9_] at u2_; exact hg_ k9_ u0_ u1_ u2_
        · refine ⟨fun i9_ u0_ u1_ => ?_, fun i9_ u0_ u1_ => ?_⟩
          · by_cases q9_ : i9_ = k_
            · rw [q9_, n74_, y74_]; exact mrk_nw w74_.1 w74_.2
            · rw [n74_, y74_]; have b9_ := nod_b d9_ (l_ := S_.2.2.1 167 0 (16 * d_ + k_).toNat) (by omega) (by omega); rw [n9_] at b9_; have m9_ := hr_.1 i9_ u0_ (by omega); rw [n9_] at m9_; have c9_ := (dmp_l d9_ (k_ := i9_)).1 u0_ (by omega); have a9_ := nod_b d9_ c9_.1 c9_.2; rw [n9_] at a9_; exact mrk_up m9_ b9_.1 a9_.1 w74_.1 w74_.2
          · rw [n74_, z74_]; have b9_ := nod_b d9_ (l_ := S_.2.2.1 167 0 (16 * d_ + k_).toNat) (by omega) (by omega); rw [n9_] at b9_; have m9_ := hr_.2 i9_ u0_ u1_; rw [n9_] at m9_; have c9_ := (dmp_l d9_ (k_ := i9_)).2 u0_ (by omega); have a9_ := nod_b d9_ c9_.1 c9_.2; rw [n9_] at a9_; exact mrk_up m9_ b9_.1 a9_.1 w74_.1 w74_.2
        · omega
    · rintro n_ k_ S_ hI_ hF_ ⟨hu_, hw_, hv_, h0_, hg_, hr_, -⟩ hm_
      have d9_ := dmp_fr hd_ hF_
      have d1_ := d9_.1
      have n9_ : nod d_ S_ = nod d_ S0_ := nod_fr hF_
      have f154_ : S_.2.2.1 154 0 = S0_.2.2.1 154 0 := fr_arr hF_ rfl
      have f155_ : S_.2.2.1 155 0 = S0_.2.2.1 155 0 := fr_arr hF_ rfl
      have f156_ : S_.2.2.1 156 0 = S0_.2.2.1 156 0 := fr_arr hF_ rfl
      have f159_ : S_.2.2.1 159 0 = S0_.2.2.1 159 0 := fr_arr hF_ rfl
      have f160_ : S_.2.2.1 160 0 = S0_.2.2.1 160 0 := fr_arr hF_ rfl
      have f164_ : S_.2.2.1 164 0 = S0_.2.2.1 164 0 := fr_arr hF_ rfl
      have f165_ : S_.2.2.1 165 0 = S0_.2.2.1 165 0 := fr_arr hF_ rfl
      have f166_ : S_.2.2.1 166 0 = S0_.2.2.1 166 0 := fr_arr hF_ rfl
      have f167_ : S_.2.2.1 167 0 = S0_.2.2.1 167 0 := fr_arr hF_ rfl
      have f168_ : S_.2.2.1 168 0 = S0_.2.2.1 168 0 := fr_arr hF_ rfl
      have c55_ : 0 ≤ S_.2.2.1 155 0 d_.toNat ∧ S_.2.2.1 155 0 d_.toNat ≤ 6 := hI_.2 155 0 _
      have c56_ : 0 ≤ S_.2.2.1 156 0 d_.toNat ∧ S_.2.2.1 156 0 d_.toNat ≤ 16 := hI_.2 156 0 _
      have e155_ : S_.2.2.1 155 0 (S_.1 13 0 105).toNat = S_.2.2.1 155 0 d_.toNat := by rw [d1_.2.2.1]
      have e156_ : S_.2.2.1 156 0 (S_.1 13 0 105).toNat = S_.2.2.1 156 0 d_.toNat := by rw [d1_.2.2.1]
      have e160_ : S_.2.2.1 160 0 (S_.1 13 0 105).toNat = F_ := by (rw [d1_.2.2.1]; exact d1_.2.2.2.1)
      have bx1_ : 0 ≤ S_.1 13 0 105 ∧ S_.1 13 0 105 ≤ 5 := hI_.1 13 0 105 rfl
      refine sm_T_go 5 (c1 := (94, [some (.inr (.inr (some (13, 0)))), some (.inl n_), some (.inl k_), none, none], [.inl (S_.1 13 0 105), .inr (.inr (some (155, 0))), .inl k_], S_)) rfl ?_
      refine sm_T_iald (n := 6) rfl rfl (by omega) (by omega) ?_
      have bx2_ : 0 ≤ S_.2.2.1 155 0 (S_.1 13 0 105).toNat ∧ S_.2.2.1 155 0 (S_.1 13 0 105).toNat ≤ 6 := hI_.2 155 0 _
      refine sm_T_br (a := 3) (z := 27) rfl (fun cx3_ => ?_) (fun cx3_ => ?_)
      · have cx3_ : (S_.2.2.1 155 0 (S_.1 13 0 105).toNat) ≤ k_ := of_decide_eq_true cx3_
        have x55_ : S_.2.2.1 155 0 d_.toNat = S0_.2.2.1 155 0 d_.toNat := congrFun f155_ _
        refine sm_T_go 2 (c1 := (124, [some (.inr (.inr (some (13, 0)))), some (.inl n_), some (.inl k_), none, none], [.inl 1, .inl n_], S_)) rfl ?_
        refine sm_T_bin (w := n_ - 1) rfl (bi_sub (by omega) (by omega) (by omega)) ?_ -- pc_ 124
        refine sm_T_go 1 (c1 := (126, [some (.inr (.inr (some (13, 0)))), some (.inl n_), some (.inl (n_ - 1)), none, none], [], S_)) rfl ?_
        refine ih_.2.2.2.1 n_ (n_ - 1) S_ hI_ hF_ ⟨?_, ?_, ?_, ?_, ?_, ?_, ?_, ?_, trivial⟩ ?_
        · intro q9_ hq9_
          have w9_ := hu_ q9_ hq9_
          have e9_ : ∀ x9_ : Int, x9_ = N_ - 1 → (N_ - 1 - x9_).toNat = 0 ∧ (x9_ + 1).toNat = N_.toNat := fun x9_ y9_ => by omega
          rw [(e9_ _ (by omega)).1, show ((S0_.2.2.1 156 0 d_.toNat).toNat + (S0_.2.2.1 155 0 d_.toNat).toNat) = (S0_.2.2.1 156 0 d_.toNat).toNat + k_.toNat by omega]
          show _ = ((rcn (fun m_ => S0_.2.2.1 166 0 (2048 * d_.toNat + m_)) (rto (S0_.2.2.1 156 0 d_.toNat).toNat (fun k_ => S0_.2.2.1 167 0 (16 * d_.toNat + k_)) (fun k_ => S0_.2.2.1 168 0 (6 * d_.toNat + k_))) ((S0_.2.2.1 156 0 d_.toNat).toNat + k_.toNat) q9_ + 0 : Nat) : Int)
          rw [Nat.add_zero]
          exact w9_
        · have e9_ : ∀ x9_ : Int, x9_ = N_ - 1 → (N_ - 1 - x9_).toNat = 0 ∧ (x9_ + 1).toNat = N_.toNat := fun x9_ y9_ => by omega
          rw [(e9_ _ (by omega)).1, show ((S0_.2.2.1 156 0 d_.toNat).toNat + (S0_.2.2.1 155 0 d_.toNat).toNat) = (S0_.2.2.1 156 0 d_.toNat).toNat + k_.toNat by omega]
          exact hw_
        · intro q9_ hq9_
          have w9_ := hv_ q9_ hq9_
          rw [show ((S0_.2.2.1 156 0 d_.toNat).toNat + (S0_.2.2.1 155 0 d_.toNat).toNat) = (S0_.2.2.1 156 0 d_.toNat).toNat + k_.toNat by omega]
          exact w9_
        · (intro j9_ u0_ u1_ u2_; exfalso; omega)
        · omega
        · exact hg_
        · (rw [show S0_.2.2.1 155 0 d_.toNat = k_ by omega]; exact hr_)
        · (intro j9_ u0_ u1_ u2_; exfalso; omega)
        · omega
      · have cx3_ : ¬ ((S_.2.2.1 155 0 (S_.1 13 0 105).toNat) ≤ k_) := of_decide_eq_false cx3_
        have x55_ : S_.2.2.1 155 0 d_.toNat = S0_.2.2.1 155 0 d_.toNat := congrFun f155_ _
        have x56_ : S_.2.2.1 156 0 d_.toNat = S0_.2.2.1 156 0 d_.toNat := congrFun f156_ _
        have l9_ := (dmp_l d9_ (k_ := k_)).2 (by omega) (by omega)
        have t9_ : (6 * S_.1 13 0 105 + k_).toNat = (6 * d_ + k_).toNat := by (rw [d1_.2.2.1])
        have l8_ := l9_
        rw [← t9_] at l8_
        refine sm_T_go 6 (c1 := (109, [some (.inr (.inr (some (13, 0)))), some (.inl n_), some (.inl k_), none, none], [.inl (S_.1 13 0 105), .inl 6, .inr (.inr (some (168, 0))), .inr (.inr (some (13, 0)))], S_)) rfl ?_
        refine sm_T_bin (w := 6 * (S_.1 13 0 105)) rfl (bi_mul (by omega) (by omega) (by omega)) ?_ -- pc_ 109
        refine sm_T_go 1 (c1 := (111, [some (.inr (.inr (some (13, 0)))), some (.inl n_), some (.inl k_), none, none], [.inl k_, .inl (6 * (S_.1 13 0 105)), .inr (.inr (some (168, 0))), .inr (.inr (some (13, 0)))], S_)) rfl ?_
        refine sm_T_bin (w := 6 * (S_.1 13 0 105) + k_) rfl (bi_add (by omega) (by omega) (by omega)) ?_ -- pc_ 111
        refine sm_T_iald (n := 36) rfl rfl (by omega) (by omega) ?_
        have bx4_ : 0 ≤ S_.2.2.1 168 0 (6 * (S_.1 13 0 105) + k_).toNat ∧ S_.2.2.1 168 0 (6 * (S_.1 13 0 105) + k_).toNat ≤ 2047 := hI_.2 168 0 _
        refine sm_T_cal (d1 := 1) (Q1 := vq_393n (S_.2.2.1 168 0 (6 * (S_.1 13 0 105) + k_).toNat) F_ N_ d_ S_) rfl rfl (by decide) (vc_393n (S_.2.2.1 168 0 (6 * (S_.1 13 0 105) + k_).toNat) F_ N_ d_ S_ hI_ (by exact d9_) (by omega) (by (have b9_ := nod_b d9_ (l_ := S_.2.2.1 168 0 (6 * S_.1 13 0 105 + k_).toNat) (by omega) (by omega); have z9_ := hu_ (nod d_ S_ (S_.2.2.1 168 0 (6 * S_.1 13 0 105 + k_).toNat)).toNat (by omega); have z8_ := rcn_le (sf_ := (fun m_ => S0_.2.2.1 166 0 (2048 * d_.toNat + m_))) (rt_ := (rto (S0_.2.2.1 156 0 d_.toNat).toNat (fun k_ => S0_.2.2.1 167 0 (16 * d_.toNat + k_)) (fun k_ => S0_.2.2.1 168 0 (6 * d_.toNat + k_)))) (q_ := (nod d_ S_ (S_.2.2.1 168 0 (6 * S_.1 13 0 105 + k_).toNat)).toNat) (((S0_.2.2.1 156 0 d_.toNat).toNat + k_.toNat)); omega))) (fun u_ Sx5_ px8_ => ?_)
        obtain ⟨rfl, hIx6_, hFx7_, px8_⟩ := px8_
        have hFx9_ : ai_fr (sx_W vw_394n) S0_ Sx5_ := ai_fr_tr hF_ (fr_le hFx7_ rfl)
        have ex10_ : Sx5_.1 13 0 105 = S_.1 13 0 105 := hFx7_.1 13 0 105 rfl
        have w113_ := (px8_).1
        have y9113_ := (px8_).2
        rw [n9_, t9_] at w113_ y9113_
        have n113_ : nod d_ Sx5_ = nod d_ S0_ := (nod_fr hFx7_).trans n9_
        have x113_ : Sx5_.2.2.1 166 0 = S_.2.2.1 166 0 := fr_arr hFx7_ rfl
        have y113_ : Sx5_.2.2.1 167 0 = S_.2.2.1 167 0 := fr_arr hFx7_ rfl
        have z113_ : Sx5_.2.2.1 168 0 = S_.2.2.1 168 0 := fr_arr hFx7_ rfl
        have rk9_ : (rto (S0_.2.2.1 156 0 d_.toNat).toNat (fun k_ => S0_.2.2.1 167 0 (16 * d_.toNat + k_)) (fun k_ => S0_.2.2.1 168 0 (6 * d_.toNat + k_))) ((S0_.2.2.1 156 0 d_.toNat).toNat + k_.toNat) = S_.2.2.1 168 0 (6 * d_ + k_).toNat := by (unfold rto; rw [if_neg (by omega), show (S0_.2.2.1 156 0 d_.toNat).toNat + k_.toNat - (S0_.2.2.1 156 0 d_.toNat).toNat = k_.toNat by omega, f168_]; exact congrArg (S0_.2.2.1 168 0) (by omega))
        have rn9_ : (nod d_ S0_ (S_.2.2.1 168 0 (6 * d_ + k_).toNat)).toNat = nsw (fun m_ => S0_.2.2.1 166 0 (2048 * d_.toNat + m_)) ((rto (S0_.2.2.1 156 0 d_.toNat).toNat (fun k_ => S0_.2.2.1 167 0 (16 * d_.toNat + k_)) (fun k_ => S0_.2.2.1 168 0 (6 * d_.toNat + k_))) ((S0_.2.2.1 156 0 d_.toNat).toNat + k_.toNat)) := by (rw [rk9_]; exact nod_n (by omega) (by omega))
        refine sm_T_inc (a := 2) (z := 1) (v := k_) (w := k_ + 1) rfl rfl (by omega) (by omega) (by omega) ?_ -- pc_ 116
        refine sm_T_go 1 (c1 := (85, [some (.inr (.inr (some (13, 0)))), some (.inl n_), some (.inl (k_ + 1)), none, none], [], Sx5_)) rfl ?_
        refine ih_.2.2.1 n_ (k_ + 1) Sx5_ hIx6_ hFx9_ ⟨?_, ?_, ?_, ?_, ?_, ?_, trivial⟩ ?_
        · intro q9_ hq9_
          have w9_ := hu_ q9_ hq9_
          rw [show (S0_.2.2.1 156 0 d_.toNat).toNat + (k_ + 1).toNat = ((S0_.2.2.1 156 0 d_.toNat).toNat + k_.toNat) + 1 by omega, y9113_]
          show _ = (((rcn (fun m_ => S0_.2.2.1 166 0 (2048 * d_.toNat + m_)) (rto (S0_.2.2.1 156 0 d_.toNat).toNat (fun k_ => S0_.2.2.1 167 0 (16 * d_.toNat + k_)) (fun k_ => S0_.2.2.1 168 0 (6 * d_.toNat + k_))) ((S0_.2.2.1 156 0 d_.toNat).toNat + k_.toNat) q9_ + (if q9_ = nsw (fun m_ => S0_.2.2.1 166 0 (2048 * d_.toNat + m_)) ((rto (S0_.2.2.1 156 0 d_.toNat).toNat (fun k_ => S0_.2.2.1 167 0 (16 * d_.toNat + k_)) (fun k_ => S0_.2.2.1 168 0 (6 * d_.toNat + k_))) ((S0_.2.2.1 156 0 d_.toNat).toNat + k_.toNat)) then 1 else 0)) : Nat) : Int)
          rw [← rn9_]
          by_cases z9_ : q9_ = (nod d_ S0_ (S_.2.2.1 168 0 (6 * d_ + k_).toNat)).toNat
          · rw [if_pos z9_, if_pos z9_, w9_]; omega
          · rw [if_neg z9_, if_neg z9_, w9_]; omega
        · rw [show (S0_.2.2.1 156 0 d_.toNat).toNat + (k_ + 1).toNat = ((S0_.2.2.1 156 0 d_.toNat).toNat + k_.toNat) + 1 by omega]
          refine ni0_s hw_ (fun q9_ => ?_)
          rw [w113_.1, rn9_]
        · intro q9_ hq9_
          have w9_ := hv_ q9_ hq9_
          have b9_ := nod_b d9_ (l_ := S_.2.2.1 168 0 (6 * d_ + k_).toNat) (by omega) (by omega)
          rw [n9_] at b9_
          rw [show (S0_.2.2.1 156 0 d_.toNat).toNat + (k_ + 1).toNat = ((S0_.2.2.1 156 0 d_.toNat).toNat + k_.toNat) + 1 by omega, w113_.2]
          show _ = if F_ ≤ (q9_ : Int) ∧ 0 < (rcn (fun m_ => S0_.2.2.1 166 0 (2048 * d_.toNat + m_)) (rto (S0_.2.2.1 156 0 d_.toNat).toNat (fun k_ => S0_.2.2.1 167 0 (16 * d_.toNat + k_)) (fun k_ => S0_.2.2.1 168 0 (6 * d_.toNat + k_))) ((S0_.2.2.1 156 0 d_.toNat).toNat + k_.toNat) q9_ + (if q9_ = nsw (fun m_ => S0_.2.2.1 166 0 (2048 * d_.toNat + m_)) ((rto (S0_.2.2.1 156 0 d_.toNat).toNat (fun k_ => S0_.2.2.1 167 0 (16 * d_.toNat + k_)) (fun k_ => S0_.2.2.1 168 0 (6 * d_.toNat + k_))) ((S0_.2.2.1 156 0 d_.toNat).toNat + k_.toNat)) then 1 else 0)) then 1 else 0
          rw [← rn9_]
          by_cases z9_ : q9_ = (nod d_ S0_ (S_.2.2.1 168 0 (6 * d_ + k_).toNat)).toNat
          · rw [if_pos z9_, if_pos z9_]; by_cases y9_ : nod d_ S0_ (S_.2.2.1 168 0 (6 * d_ + k_).toNat) < F_
            · rw [if_pos y9_, if_neg (by omega)]
            · rw [if_neg y9_, if_pos (by omega)]
          · rw [if_neg z9_, if_neg z9_, w9_, Nat.add_zero]
        · omega
        · intro k9_ u0_ u1_ u2_
          rw [x113_]
          rw [w113_.1] at u2_
          by_cases z9_ : k9_.toNat = (nod d_ S0_ (S_.2.2.1 168 0 (6 * d_ + k_).toNat)).toNat
          · have b9_ := nod_b d9_ (l_ := S_.2.2.1 168 0 (6 * d_ + k_).toNat) (by omega) (by omega); rw [n9_] at b9_; rw [show k9_ = nod d_ S0_ (S_.2.2.1 168 0 (6 * d_ + k_).toNat) by omega]; exact b9_.2.2.1
          · rw [if_neg z9_] at u2_; exact hg_ k9_ u0_ u1_ u2_
        · refine ⟨fun i9_ u0_ u1_ => ?_, fun i9_ u0_ u1_ => ?_⟩
          · rw [n113_, y113_]; have b9_ := nod_b d9_ (l_ := S_.2.2.1 168 0 (6 * d_ + k_).toNat) (by omega) (by omega); rw [n9_] at b9_; have m9_ := hr_.1 i9_ u0_ u1_; rw [n9_] at m9_; have c9_ := (dmp_l d9_ (k_ := i9_)).1 u0_ (by omega); have a9_ := nod_b d9_ c9_.1 c9_.2; rw [n9_] at a9_; exact mrk_up m9_ b9_.1 a9_.1 w113_.1 w113_.2
          · by_cases q9_ : i9_ = k_
            · rw [q9_, n113_, z113_]; exact mrk_nw w113_.1 w113_.2
            · rw [n113_, z113_]; have b9_ := nod_b d9_ (l_ := S_.2.2.1 168 0 (6 * d_ + k_).toNat) (by omega) (by omega); rw [n9_] at b9_; have m9_ := hr_.2 i9_ u0_ (by omega); rw [n9_] at m9_; have c9_ := (dmp_l d9_ (k_ := i9_)).2 u0_ (by omega); have a9_ := nod_b d9_ c9_.1 c9_.2; rw [n9_] at a9_; exact mrk_up m9_ b9_.1 a9_.1 w113_.1 w113_.2
        · omega
    · rintro n_ k_ S_ hI_ hF_ ⟨hu_, hw_, hv_, hsd_, h0_, hg_, hr_, hl_, -⟩ hm_
      have d9_ := dmp_fr hd_ hF_
      have d1_ := d9_.1
      have n9_ : nod d_ S_ = nod d_ S0_ := nod_fr hF_
      have f154_ : S_.2.2.1 154 0 = S0_.2.2.1 154 0 := fr_arr hF_ rfl
      have f155_ : S_.2.2.1 155 0 = S0_.2.2.1 155 0 := fr_arr hF_ rfl
      have f156_ : S_.2.2.1 156 0 = S0_.2.2.1 156 0 := fr_arr hF_ rfl
      have f159_ : S_.2.2.1 159 0 = S0_.2.2.1 159 0 := fr_arr hF_ rfl
      have f160_ : S_.2.2.1 160 0 = S0_.2.2.1 160 0 := fr_arr hF_ rfl
      have f164_ : S_.2.2.1 164 0 = S0_.2.2.1 164 0 := fr_arr hF_ rfl
      have f165_ : S_.2.2.1 165 0 = S0_.2.2.1 165 0 := fr_arr hF_ rfl
      have f166_ : S_.2.2.1 166 0 = S0_.2.2.1 166 0 := fr_arr hF_ rfl
      have f167_ : S_.2.2.1 167 0 = S0_.2.2.1 167 0 := fr_arr hF_ rfl
      have f168_ : S_.2.2.1 168 0 = S0_.2.2.1 168 0 := fr_arr hF_ rfl
      have c55_ : 0 ≤ S_.2.2.1 155 0 d_.toNat ∧ S_.2.2.1 155 0 d_.toNat ≤ 6 := hI_.2 155 0 _
      have c56_ : 0 ≤ S_.2.2.1 156 0 d_.toNat ∧ S_.2.2.1 156 0 d_.toNat ≤ 16 := hI_.2 156 0 _
      have e155_ : S_.2.2.1 155 0 (S_.1 13 0 105).toNat = S_.2.2.1 155 0 d_.toNat := by rw [d1_.2.2.1]
      have e156_ : S_.2.2.1 156 0 (S_.1 13 0 105).toNat = S_.2.2.1 156 0 d_.toNat := by rw [d1_.2.2.1]
      have e160_ : S_.2.2.1 160 0 (S_.1 13 0 105).toNat = F_ := by (rw [d1_.2.2.1]; exact d1_.2.2.2.1)
      have bx1_ : 0 ≤ S_.1 13 0 105 ∧ S_.1 13 0 105 ≤ 5 := hI_.1 13 0 105 rfl
      refine sm_T_go 5 (c1 := (135, [some (.inr (.inr (some (13, 0)))), some (.inl n_), some (.inl k_), none, none], [.inl (S_.1 13 0 105), .inr (.inr (some (160, 0))), .inl k_], S_)) rfl ?_
      refine sm_T_iald (n := 6) rfl rfl (by omega) (by omega) ?_
      have bx2_ : 0 ≤ S_.2.2.1 160 0 (S_.1 13 0 105).toNat ∧ S_.2.2.1 160 0 (S_.1 13 0 105).toNat ≤ 19 := hI_.2 160 0 _
      refine sm_T_br (a := 2) (z := 139) rfl (fun cx3_ => ?_) (fun cx3_ => ?_)
      · have cx3_ : k_ < (S_.2.2.1 160 0 (S_.1 13 0 105).toNat) := of_decide_eq_true cx3_
        refine sm_T_go 4 (c1 := (283, [some (.inr (.inr (some (13, 0)))), some (.inl n_), some (.inl k_), none, none], [.inl (S_.1 13 0 105), .inr (.inr (some (160, 0)))], S_)) rfl ?_
        refine sm_T_iald (n := 6) rfl rfl (by omega) (by omega) ?_
        refine sm_T_go 1 (c1 := (285, [some (.inr (.inr (some (13, 0)))), some (.inl n_), some (.inl (S_.2.2.1 160 0 (S_.1 13 0 105).toNat)), none, none], [], S_)) rfl ?_
        refine ih_.2.2.2.2 n_ (S_.2.2.1 160 0 (S_.1 13 0 105).toNat) S_ hI_ hF_ ⟨?_, ?_, ?_, ?_, ?_, ?_, ?_, trivial⟩ ?_
        · intro q9_ hq9_
          have w9_ := hu_ q9_ hq9_
          rw [show (k_ + 1).toNat = F_.toNat by omega, show (N_ - 1 - k_).toNat = N_.toNat - F_.toNat by omega] at w9_
          exact w9_
        · (rw [show N_.toNat - F_.toNat = (N_ - 1 - k_).toNat by omega]; exact hw_)
        · intro q9_ hq9_
          have w9_ := hv_ q9_ hq9_
          by_cases z9_ : (q9_ : Int) < F_
          · rw [if_pos (by (rw [e160_]; exact z9_)), if_neg (by omega)]; rw [if_neg (by omega)] at w9_; exact w9_
          · rw [if_neg (by (rw [e160_]; exact z9_))]; exact w9_
        · (intro j9_ u1_ u2_ u3_; exact hsd_ j9_ (by omega) u1_ u2_ u3_)
        · (rw [e160_]; omega)
        · exact hr_
        · (intro j9_ u0_ u1_ u2_; exact hl_ j9_ (by omega) u0_ u1_ u2_)
        · omega
      · have cx3_ : ¬ (k_ < (S_.2.2.1 160 0 (S_.1 13 0 105).toNat)) := of_decide_eq_false cx3_
        refine sm_T_go 3 (c1 := (144, [some (.inr (.inr (some (13, 0)))), some (.inl n_), some (.inl k_), none, none], [.inl k_, .inr (.inr (some (202, 0)))], S_)) rfl ?_
        refine sm_T_zald (n := 2048) rfl rfl (by omega) (by omega) ?_
        have bx4_ : 0 ≤ S_.2.2.1 202 0 k_.toNat ∧ S_.2.2.1 202 0 k_.toNat ≤ 1 := hI_.2 202 0 _
        refine sm_T_b0 (a := 0) (z := 124) rfl (fun cx5_ => ?_) (fun cx5_ => ?_)
        · have cx5_ : (S_.2.2.1 202 0 k_.toNat) = 0 := of_decide_eq_true cx5_
          refine sm_T_inc (a := 2) (z := (-1)) (v := k_) (w := k_ - 1) rfl rfl (by omega) (by omega) (by omega) ?_ -- pc_ 269
          refine sm_T_go 1 (c1 := (126, [some (.inr (.inr (some (13, 0)))), some (.inl n_), some (.inl (k_ - 1)), none, none], [], S_)) rfl ?_
          refine ih_.2.2.2.1 n_ (k_ - 1) S_ hI_ hF_ ⟨?_, ?_, ?_, ?_, ?_, ?_, ?_, ?_, trivial⟩ ?_
          · intro q9_ hq9_
            have w9_ := hu_ q9_ hq9_
            have fn9_ : (ndf F_.toNat N_.toNat ((S0_.2.2.1 156 0 d_.toNat).toNat + (S0_.2.2.1 155 0 d_.toNat).toNat) (fun m_ => S0_.2.2.1 166 0 (2048 * d_.toNat + m_)) (fun m_ => S0_.2.2.1 164 0 (2048 * d_.toNat + m_)) (fun m_ => S0_.2.2.1 165 0 (2048 * d_.toNat + m_)) (rto (S0_.2.2.1 156 0 d_.toNat).toNat (fun k_ => S0_.2.2.1 167 0 (16 * d_.toNat + k_)) (fun k_ => S0_.2.2.1 168 0 (6 * d_.toNat + k_)))) k_.toNat = (ndk N_.toNat (fun m_ => S0_.2.2.1 166 0 (2048 * d_.toNat + m_)) (fun m_ => S0_.2.2.1 164 0 (2048 * d_.toNat + m_)) (fun m_ => S0_.2.2.1 165 0 (2048 * d_.toNat + m_)) (nd0 (fun m_ => S0_.2.2.1 166 0 (2048 * d_.toNat + m_)) (rto (S0_.2.2.1 156 0 d_.toNat).toNat (fun k_ => S0_.2.2.1 167 0 (16 * d_.toNat + k_)) (fun k_ => S0_.2.2.1 168 0 (6 * d_.toNat + k_))) ((S0_.2.2.1 156 0 d_.toNat).toNat + (S0_.2.2.1 155 0 d_.toNat).toNat)) (N_ - 1 - k_).toNat).1 k_.toNat := ndk_fn (glo_k hd_) (sfb_k hd_) ((k_ + 1 - F_).toNat) _ _ (by omega) (by omega)
            have wk9_ := hw_ k_.toNat (by omega)
            have e9_ : ∀ x9_ : Int, x9_ = k_ - 1 → (x9_ + 1).toNat = k_.toNat ∧ (N_ - 1 - x9_).toNat = (N_ - 1 - k_).toNat + 1 := fun x9_ y9_ => by omega
            have pc9_ := psm_c (g_ := (pgn (fun m_ => S0_.2.2.1 166 0 (2048 * d_.toNat + m_)) (fun m_ => S0_.2.2.1 164 0 (2048 * d_.toNat + m_)) (fun m_ => S0_.2.2.1 165 0 (2048 * d_.toNat + m_)) (ndf F_.toNat N_.toNat ((S0_.2.2.1 156 0 d_.toNat).toNat + (S0_.2.2.1 155 0 d_.toNat).toNat) (fun m_ => S0_.2.2.1 166 0 (2048 * d_.toNat + m_)) (fun m_ => S0_.2.2.1 164 0 (2048 * d_.toNat + m_)) (fun m_ => S0_.2.2.1 165 0 (2048 * d_.toNat + m_)) (rto (S0_.2.2.1 156 0 d_.toNat).toNat (fun k_ => S0_.2.2.1 167 0 (16 * d_.toNat + k_)) (fun k_ => S0_.2.2.1 168 0 (6 * d_.toNat + k_)))) q9_)) (a_ := k_.toNat) (N_ - 1 - k_).toNat
            rw [(e9_ _ (by omega)).1, (e9_ _ (by omega)).2, pc9_, show k_.toNat + 1 = (k_ + 1).toNat by omega]
            have g9_ : pgn (fun m_ => S0_.2.2.1 166 0 (2048 * d_.toNat + m_)) (fun m_ => S0_.2.2.1 164 0 (2048 * d_.toNat + m_)) (fun m_ => S0_.2.2.1 165 0 (2048 * d_.toNat + m_)) (ndf F_.toNat N_.toNat ((S0_.2.2.1 156 0 d_.toNat).toNat + (S0_.2.2.1 155 0 d_.toNat).toNat) (fun m_ => S0_.2.2.1 166 0 (2048 * d_.toNat + m_)) (fun m_ => S0_.2.2.1 164 0 (2048 * d_.toNat + m_)) (fun m_ => S0_.2.2.1 165 0 (2048 * d_.toNat + m_)) (rto (S0_.2.2.1 156 0 d_.toNat).toNat (fun k_ => S0_.2.2.1 167 0 (16 * d_.toNat + k_)) (fun k_ => S0_.2.2.1 168 0 (6 * d_.toNat + k_)))) q9_ k_.toNat = 0 := by (unfold pgn; rw [if_neg (by (rw [fn9_]; intro z9_; have y9_ := wk9_.mpr z9_; omega))])
            rw [g9_, Nat.zero_add]
            exact w9_
          · have fn9_ : (ndf F_.toNat N_.toNat ((S0_.2.2.1 156 0 d_.toNat).toNat + (S0_.2.2.1 155 0 d_.toNat).toNat) (fun m_ => S0_.2.2.1 166 0 (2048 * d_.toNat + m_)) (fun m_ => S0_.2.2.1 164 0 (2048 * d_.toNat + m_)) (fun m_ => S0_.2.2.1 165 0 (2048 * d_.toNat + m_)) (rto (S0_.2.2.1 156 0 d_.toNat).toNat (fun k_ => S0_.2.2.1 167 0 (16 * d_.toNat + k_)) (fun k_ => S0_.2.2.1 168 0 (6 * d_.toNat + k_)))) k_.toNat = (ndk N_.toNat (fun m_ => S0_.2.2.1 166 0 (2048 * d_.toNat + m_)) (fun m_ => S0_.2.2.1 164 0 (2048 * d_.toNat + m_)) (fun m_ => S0_.2.2.1 165 0 (2048 * d_.toNat + m_)) (nd0 (fun m_ => S0_.2.2.1 166 0 (2048 * d_.toNat + m_)) (rto (S0_.2.2.1 156 0 d_.toNat).toNat (fun k_ => S0_.2.2.1 167 0 (16 * d_.toNat + k_)) (fun k_ => S0_.2.2.1 168 0 (6 * d_.toNat + k_))) ((S0_.2.2.1 156 0 d_.toNat).toNat + (S0_.2.2.1 155 0 d_.toNat).toNat)) (N_ - 1 - k_).toNat).1 k_.toNat := ndk_fn (glo_k hd_) (sfb_k hd_) ((k_ + 1 - F_).toNat) _ _ (by omega) (by omega)
            have wk9_ := hw_ k_.toNat (by omega)
            have e9_ : ∀ x9_ : Int, x9_ = k_ - 1 → (x9_ + 1).toNat = k_.toNat ∧ (N_ - 1 - x9_).toNat = (N_ - 1 - k_).toNat + 1 := fun x9_ y9_ => by omega
            rw [(e9_ _ (by omega)).2]
            exact ndw_n (n_ := k_.toNat) hw_ (by omega) (by omega) (by omega)
          · exact hv_
          · intro j9_ u0_ u1_ u2_ u3_
            by_cases z9_ : j9_ = k_
            · rw [z9_] at u3_; exfalso; omega
            · exact hsd_ j9_ (by omega) u1_ u2_ u3_
          · omega
          · exact hg_
          · exact hr_
          · intro j9_ u0_ u1_ u2_ u3_
            by_cases z9_ : j9_ = k_
            · rw [z9_] at u3_; exfalso; omega
            · exact hl_ j9_ (by omega) u1_ u2_ u3_
          · omega
        · have cx5_ : ¬ ((S_.2.2.1 202 0 k_.toNat) = 0) := of_decide_eq_false cx5_
          have t9_ : (2048 * S_.1 13 0 105 + k_).toNat = (2048 * d_ + k_).toNat := by (rw [d1_.2.2.1])
          have ub9_ : ∀ q9_ : Nat, (q9_ : Int) < N_ → 0 ≤ S_.2.2.1 201 0 q9_ ∧ S_.2.2.1 201 0 q9_ ≤ 100000 := fun q9_ h9_ => by (have w9_ := hu_ q9_ h9_; have l8_ := rcn_le (sf_ := (fun m_ => S0_.2.2.1 166 0 (2048 * d_.toNat + m_))) (rt_ := (rto (S0_.2.2.1 156 0 d_.toNat).toNat (fun k_ => S0_.2.2.1 167 0 (16 * d_.toNat + k_)) (fun k_ => S0_.2.2.1 168 0 (6 * d_.toNat + k_)))) (q_ := q9_) ((S0_.2.2.1 156 0 d_.toNat).toNat + (S0_.2.2.1 155 0 d_.toNat).toNat); have l7_ := psm_le (g_ := (pgn (fun m_ => S0_.2.2.1 166 0 (2048 * d_.toNat + m_)) (fun m_ => S0_.2.2.1 164 0 (2048 * d_.toNat + m_)) (fun m_ => S0_.2.2.1 165 0 (2048 * d_.toNat + m_)) (ndf F_.toNat N_.toNat ((S0_.2.2.1 156 0 d_.toNat).toNat + (S0_.2.2.1 155 0 d_.toNat).toNat) (fun m_ => S0_.2.2.1 166 0 (2048 * d_.toNat + m_)) (fun m_ => S0_.2.2.1 164 0 (2048 * d_.toNat + m_)) (fun m_ => S0_.2.2.1 165 0 (2048 * d_.toNat + m_)) (rto (S0_.2.2.1 156 0 d_.toNat).toNat (fun k_ => S0_.2.2.1 167 0 (16 * d_.toNat + k_)) (fun k_ => S0_.2.2.1 168 0 (6 * d_.toNat + k_)))) q9_)) (fun _ => pgn_le) (a_ := (k_ + 1).toNat) (N_ - 1 - k_).toNat; have x55_ : S_.2.2.1 155 0 d_.toNat = S0_.2.2.1 155 0 d_.toNat := congrFun f155_ _; have x56_ : S_.2.2.1 156 0 d_.toNat = S0_.2.2.1 156 0 d_.toNat := congrFun f156_ _; omega)
          have w9_ := hg_ k_ (by omega) (by omega) (by omega)
          have p9_ := nod_p d9_ (k_ := k_) (by omega) (by omega) w9_
          have q1_ := nod_b d9_ (l_ := S_.2.2.1 164 0 (2048 * d_ + k_).toNat) (by omega) (by omega)
          have q2_ := nod_b d9_ (l_ := S_.2.2.1 165 0 (2048 * d_ + k_).toNat) (by omega) (by omega)
          have l8_ : 0 ≤ S_.2.2.1 164 0 (2048 * S_.1 13 0 105 + k_).toNat ∧ S_.2.2.1 164 0 (2048 * S_.1 13 0 105 + k_).toNat < 2 * N_ := by (rw [t9_]; omega)
          have l7_ : 0 ≤ S_.2.2.1 165 0 (2048 * S_.1 13 0 105 + k_).toNat ∧ S_.2.2.1 165 0 (2048 * S_.1 13 0 105 + k_).toNat < 2 * N_ := by (rw [t9_]; omega)
          refine sm_T_go 6 (c1 := (160, [some (.inr (.inr (some (13, 0)))), some (.inl n_), some (.inl k_), none, none], [.inl (S_.1 13 0 105), .inl 2048, .inr (.inr (some (164, 0))), .inr (.inr (some (13, 0)))], S_)) rfl ?_
          refine sm_T_bin (w := 2048 * (S_.1 13 0 105)) rfl (bi_mul (by omega) (by omega) (by omega)) ?_ -- pc_ 160
          refine sm_T_go 1 (c1 := (162, [some (.inr (.inr (some (13, 0)))), some (.inl n_), some (.inl k_), none, none], [.inl k_, .inl (2048 * (S_.1 13 0 105)), .inr (.inr (some (164, 0))), .inr (.inr (some (13, 0)))], S_)) rfl ?_
          refine sm_T_bin (w := 2048 * (S_.1 13 0 105) + k_) rfl (bi_add (by omega) (by omega) (by omega)) ?_ -- pc_ 162
          refine sm_T_iald (n := 12288) rfl rfl (by omega) (by omega) ?_
          have bx6_ : 0 ≤ S_.2.2.1 164 0 (2048 * (S_.1 13 0 105) + k_).toNat ∧ S_.2.2.1 164 0 (2048 * (S_.1 13 0 105) + k_).toNat ≤ 2047 := hI_.2 164 0 _
          refine sm_T_cal (d1 := 0) (Q1 := vq_392 (S_.2.2.1 164 0 (2048 * (S_.1 13 0 105) + k_).toNat) F_ N_ d_ S_) rfl rfl (by decide) (vc_392 (S_.2.2.1 164 0 (2048 * (S_.1 13 0 105) + k_).toNat) F_ N_ d_ S_ hI_ (by exact d9_) (by omega)) (fun u_ Sx7_ px10_ => ?_)
          obtain ⟨rfl, vx12_, rfl, px10_⟩ := px10_
          have e164_ := px10_
          rw [t9_] at e164_
          have sa9_ : vx12_ = swt (fun m_ => S0_.2.2.1 166 0 (2048 * d_.toNat + m_)) (S0_.2.2.1 164 0 (2048 * d_.toNat + k_.toNat)) := by (have r9_ : S_.2.2.1 164 0 (2048 * d_ + k_).toNat = S0_.2.2.1 164 0 (2048 * d_.toNat + k_.toNat) := (by (rw [f164_]; exact congrArg (S0_.2.2.1 164 0) (by omega))); rw [e164_.2.2.2, r9_, f166_]; exact congrArg (fun x_ => i_xor (S0_.2.2.1 166 0 x_) (S0_.2.2.1 164 0 (2048 * d_.toNat + k_.toNat) % 2)) (by omega))
          have sa9u := ub9_ (vx12_ / 2).toNat (by omega)
          have a164_ := e164_.1
          refine sm_T_go 7 (c1 := (180, [some (.inr (.inr (some (13, 0)))), some (.inl n_), some (.inl k_), some (.inl vx12_), none], [.inl (S_.1 13 0 105), .inl 2048, .inr (.inr (some (165, 0))), .inr (.inr (some (13, 0)))], S_)) rfl ?_
          refine sm_T_bin (w := 2048 * (S_.1 13 0 105)) rfl (bi_mul (by omega) (by omega) (by omega)) ?_ -- pc_ 180
          refine sm_T_go 1 (c1 := (182, [some (.inr (.inr (some (13, 0)))), some (.inl n_), some (.inl k_), some (.inl vx12_), none], [.inl k_, .inl (2048 * (S_.1 13 0 105)), .inr (.inr (some (165, 0))), .inr (.inr (some (13, 0)))], S_)) rfl ?_
          refine sm_T_bin (w := 2048 * (S_.1 13 0 105) + k_) rfl (bi_add (by omega) (by omega) (by omega)) ?_ -- pc_ 182
          refine sm_T_iald (n := 12288) rfl rfl (by omega) (by omega) ?_
          have bx13_ : 0 ≤ S_.2.2.1 165 0 (2048 * (S_.1 13 0 105) + k_).toNat ∧ S_.2.2.1 165 0 (2048 * (S_.1 13 0 105) + k_).toNat ≤ 2047 := hI_.2 165 0 _
          refine sm_T_cal (d1 := 0) (Q1 := vq_392 (S_.2.2.1 165 0 (2048 * (S_.1 13 0 105) + k_).toNat) F_ N_ d_ S_) rfl rfl (by decide) (vc_392 (S_.2.2.1 165 0 (2048 * (S_.1 13 0 105) + k_).toNat) F_ N_ d_ S_ hI_ (by exact d9_) (by omega)) (fun u_ Sx14_ px17_ => ?_)
          obtain ⟨rfl, vx19_, rfl, px17_⟩ := px17_
          have e184_ := px17_
          rw [t9_] at e184_
          have sb9_ : vx19_ = swt (fun m_ => S0_.2.2.1 166 0 (2048 * d_.toNat + m_)) (S0_.2.2.1 165 0 (2048 * d_.toNat + k_.toNat)) := by (have r9_ : S_.2.2.1 165 0 (2048 * d_ + k_).toNat = S0_.2.2.1 165 0 (2048 * d_.toNat + k_.toNat) := (by (rw [f165_]; exact congrArg (S0_.2.2.1 165 0) (by omega))); rw [e184_.2.2.2, r9_, f166_]; exact congrArg (fun x_ => i_xor (S0_.2.2.1 166 0 x_) (S0_.2.2.1 165 0 (2048 * d_.toNat + k_.toNat) % 2)) (by omega))
          have sb9u := ub9_ (vx19_ / 2).toNat (by omega)
          have a184_ := e184_.1
          refine sm_T_go 6 (c1 := (197, [some (.inr (.inr (some (13, 0)))), some (.inl n_), some (.inl k_), some (.inl vx12_), some (.inl vx19_)], [.inl vx19_, .inl vx12_, .inl k_, .inr (.inr (some (199, 0)))], S_)) rfl ?_
          refine sm_T_br (a := 3) (z := 7) rfl (fun cx20_ => ?_) (fun cx20_ => ?_)
          · have cx20_ : vx19_ ≤ vx12_ := of_decide_eq_true cx20_
            refine sm_T_go 1 (c1 := (206, [some (.inr (.inr (some (13, 0)))), some (.inl n_), some (.inl k_), some (.inl vx12_), some (.inl vx19_)], [.inl vx19_, .inl k_, .inr (.inr (some (199, 0)))], S_)) rfl ?_
            refine sm_T_iast (n := 2048) rfl rfl (by omega) (by omega) ?_
            have hIx21_ : gi (sm_aI S_ 199 0 k_.toNat vx19_) := gi_aI hI_ (show 0 ≤ vx19_ ∧ vx19_ ≤ 2025 from ⟨by omega, by omega⟩)
            have hFx22_ : ai_fr (sx_W vw_394n) S0_ (sm_aI S_ 199 0 k_.toNat vx19_) := ai_fr_tr hF_ (ai_fr_aI rfl)
            refine sm_T_go 5 (c1 := (215, [some (.inr (.inr (some (13, 0)))), some (.inl n_), some (.inl k_), some (.inl vx12_), some (.inl vx19_)], [.inl vx19_, .inl vx12_, .inl k_, .inr (.inr (some (200, 0)))], sm_aI S_ 199 0 k_.toNat vx19_)) rfl ?_
            refine sm_T_br (a := 3) (z := 8) rfl (fun cx23_ => ?_) (fun cx23_ => ?_)
            · have cx23_ : vx19_ ≤ vx12_ := of_decide_eq_true cx23_
              refine sm_T_go 1 (c1 := (224, [some (.inr (.inr (some (13, 0)))), some (.inl n_), some (.inl k_), some (.inl vx12_), some (.inl vx19_)], [.inl vx12_, .inl k_, .inr (.inr (some (200, 0)))], sm_aI S_ 199 0 k_.toNat vx19_)) rfl ?_
              refine sm_T_iast (n := 2048) rfl rfl (by omega) (by omega) ?_
              have hIx24_ : gi (sm_aI (sm_aI S_ 199 0 k_.toNat vx19_) 200 0 k_.toNat vx12_) := gi_aI hIx21_ (show 0 ≤ vx12_ ∧ vx12_ ≤ 2025 from ⟨by omega, by omega⟩)
              have hFx25_ : ai_fr (sx_W vw_394n) S0_ (sm_aI (sm_aI S_ 199 0 k_.toNat vx19_) 200 0 k_.toNat vx12_) := ai_fr_tr hFx22_ (ai_fr_aI rfl)
              refine sm_T_go 4 (c1 := (231, [some (.inr (.inr (some (13, 0)))), some (.inl n_), some (.inl k_), some (.inl vx12_), some (.inl vx19_)], [.inl 1, .inl vx12_, .inr (.inr (some (202, 0)))], sm_aI (sm_aI S_ 199 0 k_.toNat vx19_) 200 0 k_.toNat vx12_)) rfl ?_
              refine sm_T_bin (w := (vx12_ / 2)) rfl (bi_shr (k := 1) (by decide) (by omega) (by omega)) ?_ -- pc_ 231
              refine sm_T_go 1 (c1 := (233, [some (.inr (.inr (some (13, 0)))), some (.inl n_), some (.inl k_), some (.inl vx12_), some (.inl vx19_)], [.inl 1, .inl (vx12_ / 2), .inr (.inr (some (202, 0)))], sm_aI (sm_aI S_ 199 0 k_.toNat vx19_) 200 0 k_.toNat vx12_)) rfl ?_
              refine sm_T_zas1 (n := 2048) rfl rfl (by omega) (by omega) (by omega) ?_
              have hIx26_ : gi (sm_aI (sm_aI (sm_aI S_ 199 0 k_.toNat vx19_) 200 0 k_.toNat vx12_) 202 0 (vx12_ / 2).toNat 1) := gi_aI hIx24_ (show 0 ≤ 1 ∧ 1 ≤ 1 from ⟨by omega, by omega⟩)
              have hFx27_ : ai_fr (sx_W vw_394n) S0_ (sm_aI (sm_aI (sm_aI S_ 199 0 k_.toNat vx19_) 200 0 k_.toNat vx12_) 202 0 (vx12_ / 2).toNat 1) := ai_fr_tr hFx25_ (ai_fr_aI rfl)
              refine sm_T_go 4 (c1 := (241, [some (.inr (.inr (some (13, 0)))), some (.inl n_), some (.inl k_), some (.inl vx12_), some (.inl vx19_)], [.inl 1, .inl vx19_, .inr (.inr (some (202, 0)))], sm_aI (sm_aI (sm_aI S_ 199 0 k_.toNat vx19_) 200 0 k_.toNat vx12_) 202 0 (vx12_ / 2).toNat 1)) rfl ?_
              refine sm_T_bin (w := (vx19_ / 2)) rfl (bi_shr (k := 1) (by decide) (by omega) (by omega)) ?_ -- pc_ 241
              refine sm_T_go 1 (c1 := (243, [some (.inr (.inr (some (13, 0)))), some (.inl n_), some (.inl k_), some (.inl vx12_), some (.inl vx19_)], [.inl 1, .inl (vx19_ / 2), .inr (.inr (some (202, 0)))], sm_aI (sm_aI (sm_aI S_ 199 0 k_.toNat vx19_) 200 0 k_.toNat vx12_) 202 0 (vx12_ / 2).toNat 1)) rfl ?_
              refine sm_T_zas1 (n := 2048) rfl rfl (by omega) (by omega) (by omega) ?_
              have hIx28_ : gi (sm_aI (sm_aI (sm_aI (sm_aI S_ 199 0 k_.toNat vx19_) 200 0 k_.toNat vx12_) 202 0 (vx12_ / 2).toNat 1) 202 0 (vx19_ / 2).toNat 1) := gi_aI hIx26_ (show 0 ≤ 1 ∧ 1 ≤ 1 from ⟨by omega, by omega⟩)
              have hFx29_ : ai_fr (sx_W vw_394n) S0_ (sm_aI (sm_aI (sm_aI (sm_aI S_ 199 0 k_.toNat vx19_) 200 0 k_.toNat vx12_) 202 0 (vx12_ / 2).toNat 1) 202 0 (vx19_ / 2).toNat 1) := ai_fr_tr hFx27_ (ai_fr_aI rfl)
              refine sm_T_go 4 (c1 := (250, [some (.inr (.inr (some (13, 0)))), some (.inl n_), some (.inl k_), some (.inl vx12_), some (.inl vx19_)], [.inl 1, .inl vx12_, .inr (.inr (some (201, 0)))], sm_aI (sm_aI (sm_aI (sm_aI S_ 199 0 k_.toNat vx19_) 200 0 k_.toNat vx12_) 202 0 (vx12_ / 2).toNat 1) 202 0 (vx19_ / 2).toNat 1)) rfl ?_
              refine sm_T_bin (w := (vx12_ / 2)) rfl (bi_shr (k := 1) (by decide) (by omega) (by omega)) ?_ -- pc_ 250
              refine sm_T_go 1 (c1 := (252, [some (.inr (.inr (some (13, 0)))), some (.inl n_), some (.inl k_), some (.inl vx12_), some (.inl vx19_)], [.inl (vx12_ / 2), .inr (.inr (some (201, 0))), .inl (vx12_ / 2), .inr (.inr (some (201, 0)))], sm_aI (sm_aI (sm_aI (sm_aI S_ 199 0 k_.toNat vx19_) 200 0 k_.toNat vx12_) 202 0 (vx12_ / 2).toNat 1) 202 0 (vx19_ / 2).toNat 1)) rfl ?_
              refine sm_T_iald (n := 2048) rfl rfl (by omega) (by omega) ?_
              have bx30_ : (-2147483648) ≤ S_.2.2.1 201 0 (vx12_ / 2).toNat ∧ S_.2.2.1 201 0 (vx12_ / 2).toNat ≤ 2147483647 := hI_.2 201 0 _
              refine sm_T_go 1 (c1 := (254, [some (.inr (.inr (some (13, 0)))), some (.inl n_), some (.inl k_), some (.inl vx12_), some (.inl vx19_)], [.inl 1, .inl (S_.2.2.1 201 0 (vx12_ / 2).toNat), .inl (vx12_ / 2), .inr (.inr (some (201, 0)))], sm_aI (sm_aI (sm_aI (sm_aI S_ 199 0 k_.toNat vx19_) 200 0 k_.toNat vx12_) 202 0 (vx12_ / 2).toNat 1) 202 0 (vx19_ / 2).toNat 1)) rfl ?_
              refine sm_T_bin (w := (S_.2.2.1 201 0 (vx12_ / 2).toNat) + 1) rfl (bi_add (by omega) (by omega) (by omega)) ?_ -- pc_ 254
              refine sm_T_iast (n := 2048) rfl rfl (by omega) (by omega) ?_
              have hIx31_ : gi (sm_aI (sm_aI (sm_aI (sm_aI (sm_aI S_ 199 0 k_.toNat vx19_) 200 0 k_.toNat vx12_) 202 0 (vx12_ / 2).toNat 1) 202 0 (vx19_ / 2).toNat 1) 201 0 (vx12_ / 2).toNat ((S_.2.2.1 201 0 (vx12_ / 2).toNat) + 1)) := gi_aI hIx28_ (show (-2147483648) ≤ (S_.2.2.1 201 0 (vx12_ / 2).toNat) + 1 ∧ (S_.2.2.1 201 0 (vx12_ / 2).toNat) + 1 ≤ 2147483647 from ⟨by omega, by omega⟩)
              have hFx32_ : ai_fr (sx_W vw_394n) S0_ (sm_aI (sm_aI (sm_aI (sm_aI (sm_aI S_ 199 0 k_.toNat vx19_) 200 0 k_.toNat vx12_) 202 0 (vx12_ / 2).toNat 1) 202 0 (vx19_ / 2).toNat 1) 201 0 (vx12_ / 2).toNat ((S_.2.2.1 201 0 (vx12_ / 2).toNat) + 1)) := ai_fr_tr hFx29_ (ai_fr_aI rfl)
              refine sm_T_go 4 (c1 := (263, [some (.inr (.inr (some (13, 0)))), some (.inl n_), some (.inl k_), some (.inl vx12_), some (.inl vx19_)], [.inl 1, .inl vx19_, .inr (.inr (some (201, 0)))], sm_aI (sm_aI (sm_aI (sm_aI (sm_aI S_ 199 0 k_.toNat vx19_) 200 0 k_.toNat vx12_) 202 0 (vx12_ / 2).toNat 1) 202 0 (vx19_ / 2).toNat 1) 201 0 (vx12_ / 2).toNat ((S_.2.2.1 201 0 (vx12_ / 2).toNat) + 1))) rfl ?_
              refine sm_T_bin (w := (vx19_ / 2)) rfl (bi_shr (k := 1) (by decide) (by omega) (by omega)) ?_ -- pc_ 263
              refine sm_T_go 1 (c1 := (265, [some (.inr (.inr (some (13, 0)))), some (.inl n_), some (.inl k_), some (.inl vx12_), some (.inl vx19_)], [.inl (vx19_ / 2), .inr (.inr (some (201, 0))), .inl (vx19_ / 2), .inr (.inr (some (201, 0)))], sm_aI (sm_aI (sm_aI (sm_aI (sm_aI S_ 199 0 k_.toNat vx19_) 200 0 k_.toNat vx12_) 202 0 (vx12_ / 2).toNat 1) 202 0 (vx19_ / 2).toNat 1) 201 0 (vx12_ / 2).toNat ((S_.2.2.1 201 0 (vx12_ / 2).toNat) + 1))) rfl ?_
              refine sm_T_iald (n := 2048) rfl rfl (by omega) (by omega) ?_
              have bx33_ : (-2147483648) ≤ (sm_aI (sm_aI (sm_aI (sm_aI (sm_aI S_ 199 0 k_.toNat vx19_) 200 0 k_.toNat vx12_) 202 0 (vx12_ / 2).toNat 1) 202 0 (vx19_ / 2).toNat 1) 201 0 (vx12_ / 2).toNat ((S_.2.2.1 201 0 (vx12_ / 2).toNat) + 1)).2.2.1 201 0 (vx19_ / 2).toNat ∧ (sm_aI (sm_aI (sm_aI (sm_aI (sm_aI S_ 199 0 k_.toNat vx19_) 200 0 k_.toNat vx12_) 202 0 (vx12_ / 2).toNat 1) 202 0 (vx19_ / 2).toNat 1) 201 0 (vx12_ / 2).toNat ((S_.2.2.1 201 0 (vx12_ / 2).toNat) + 1)).2.2.1 201 0 (vx19_ / 2).toNat ≤ 2147483647 := hIx31_.2 201 0 _
              refine sm_T_go 1 (c1 := (267, [some (.inr (.inr (some (13, 0)))), some (.inl n_), some (.inl k_), some (.inl vx12_), some (.inl vx19_)], [.inl 1, .inl ((sm_aI (sm_aI (sm_aI (sm_aI (sm_aI S_ 199 0 k_.toNat vx19_) 200 0 k_.toNat vx12_) 202 0 (vx12_ / 2).toNat 1) 202 0 (vx19_ / 2).toNat 1) 201 0 (vx12_ / 2).toNat ((S_.2.2.1 201 0 (vx12_ / 2).toNat) + 1)).2.2.1 201 0 (vx19_ / 2).toNat), .inl (vx19_ / 2), .inr (.inr (some (201, 0)))], sm_aI (sm_aI (sm_aI (sm_aI (sm_aI S_ 199 0 k_.toNat vx19_) 200 0 k_.toNat vx12_) 202 0 (vx12_ / 2).toNat 1) 202 0 (vx19_ / 2).toNat 1) 201 0 (vx12_ / 2).toNat ((S_.2.2.1 201 0 (vx12_ / 2).toNat) + 1))) rfl ?_
              refine sm_T_bin (w := ((sm_aI (sm_aI (sm_aI (sm_aI (sm_aI S_ 199 0 k_.toNat vx19_) 200 0 k_.toNat vx12_) 202 0 (vx12_ / 2).toNat 1) 202 0 (vx19_ / 2).toNat 1) 201 0 (vx12_ / 2).toNat ((S_.2.2.1 201 0 (vx12_ / 2).toNat) + 1)).2.2.1 201 0 (vx19_ / 2).toNat) + 1) rfl (bi_add (by omega) (by (first | omega | ((try simp only [rd_eq, rd_ne, rf_eq, rf_nk, rf_nt, rd_fa, rd_af, rd_fl, rd_al, rd_lf, rd_la, rd_leq, rd_lne, rd_fr, rd_ar, ne_eq, Nat.reduceEqDiff, not_false_eq_true]); split <;> omega))) (by (first | omega | ((try simp only [rd_eq, rd_ne, rf_eq, rf_nk, rf_nt, rd_fa, rd_af, rd_fl, rd_al, rd_lf, rd_la, rd_leq, rd_lne, rd_fr, rd_ar, ne_eq, Nat.reduceEqDiff, not_false_eq_true]); split <;> omega)))) ?_ -- pc_ 267
              refine sm_T_iast (n := 2048) rfl rfl (by (first | omega | ((try simp only [rd_eq, rd_ne, rf_eq, rf_nk, rf_nt, rd_fa, rd_af, rd_fl, rd_al, rd_lf, rd_la, rd_leq, rd_lne, rd_fr, rd_ar, ne_eq, Nat.reduceEqDiff, not_false_eq_true]); split <;> omega))) (by (first | omega | ((try simp only [rd_eq, rd_ne, rf_eq, rf_nk, rf_nt, rd_fa, rd_af, rd_fl, rd_al, rd_lf, rd_la, rd_leq, rd_lne, rd_fr, rd_ar, ne_eq, Nat.reduceEqDiff, not_false_eq_true]); split <;> omega))) ?_
              have hIx34_ : gi (sm_aI (sm_aI (sm_aI (sm_aI (sm_aI (sm_aI S_ 199 0 k_.toNat vx19_) 200 0 k_.toNat vx12_) 202 0 (vx12_ / 2).toNat 1) 202 0 (vx19_ / 2).toNat 1) 201 0 (vx12_ / 2).toNat ((S_.2.2.1 201 0 (vx12_ / 2).toNat) + 1)) 201 0 (vx19_ / 2).toNat (((sm_aI (sm_aI (sm_aI (sm_aI (sm_aI S_ 199 0 k_.toNat vx19_) 200 0 k_.toNat vx12_) 202 0 (vx12_ / 2).toNat 1) 202 0 (vx19_ / 2).toNat 1) 201 0 (vx12_ / 2).toNat ((S_.2.2.1 201 0 (vx12_ / 2).toNat) + 1)).2.2.1 201 0 (vx19_ / 2).toNat) + 1)) := gi_aI hIx31_ (show (-2147483648) ≤ ((sm_aI (sm_aI (sm_aI (sm_aI (sm_aI S_ 199 0 k_.toNat vx19_) 200 0 k_.toNat vx12_) 202 0 (vx12_ / 2).toNat 1) 202 0 (vx19_ / 2).toNat 1) 201 0 (vx12_ / 2).toNat ((S_.2.2.1 201 0 (vx12_ / 2).toNat) + 1)).2.2.1 201 0 (vx19_ / 2).toNat) + 1 ∧ ((sm_aI (sm_aI (sm_aI (sm_aI (sm_aI S_ 199 0 k_.toNat vx19_) 200 0 k_.toNat vx12_) 202 0 (vx12_ / 2).toNat 1) 202 0 (vx19_ / 2).toNat 1) 201 0 (vx12_ / 2).toNat ((S_.2.2.1 201 0 (vx12_ / 2).toNat) + 1)).2.2.1 201 0 (vx19_ / 2).toNat) + 1 ≤ 2147483647 from ⟨by (first | omega | ((try simp only [rd_eq, rd_ne, rf_eq, rf_nk, rf_nt, rd_fa, rd_af, rd_fl, rd_al, rd_lf, rd_la, rd_leq, rd_lne, rd_fr, rd_ar, ne_eq, Nat.reduceEqDiff, not_false_eq_true]); split <;> omega)), by (first | omega | ((try simp only [rd_eq, rd_ne, rf_eq, rf_nk, rf_nt, rd_fa, rd_af, rd_fl, rd_al, rd_lf, rd_la, rd_leq, rd_lne, rd_fr, rd_ar, ne_eq, Nat.reduceEqDiff, not_false_eq_true]); split <;> omega))⟩)
              have hFx35_ : ai_fr (sx_W vw_394n) S0_ (sm_aI (sm_aI (sm_aI (sm_aI (sm_aI (sm_aI S_ 199 0 k_.toNat vx19_) 200 0 k_.toNat vx12_) 202 0 (vx12_ / 2).toNat 1) 202 0 (vx19_ / 2).toNat 1) 201 0 (vx12_ / 2).toNat ((S_.2.2.1 201 0 (vx12_ / 2).toNat) + 1)) 201 0 (vx19_ / 2).toNat (((sm_aI (sm_aI (sm_aI (sm_aI (sm_aI S_ 199 0 k_.toNat vx19_) 200 0 k_.toNat vx12_) 202 0 (vx12_ / 2).toNat 1) 202 0 (vx19_ / 2).toNat 1) 201 0 (vx12_ / 2).toNat ((S_.2.2.1 201 0 (vx12_ / 2).toNat) + 1)).2.2.1 201 0 (vx19_ / 2).toNat) + 1)) := ai_fr_tr hFx32_ (ai_fr_aI rfl)
              refine sm_T_inc (a := 2) (z := (-1)) (v := k_) (w := k_ - 1) rfl rfl (by omega) (by omega) (by omega) ?_ -- pc_ 269
              refine sm_T_go 1 (c1 := (126, [some (.inr (.inr (some (13, 0)))), some (.inl n_), some (.inl (k_ - 1)), some (.inl vx12_), some (.inl vx19_)], [], sm_aI (sm_aI (sm_aI (sm_aI (sm_aI (sm_aI S_ 199 0 k_.toNat vx19_) 200 0 k_.toNat vx12_) 202 0 (vx12_ / 2).toNat 1) 202 0 (vx19_ / 2).toNat 1) 201 0 (vx12_ / 2).toNat ((S_.2.2.1 201 0 (vx12_ / 2).toNat) + 1)) 201 0 (vx19_ / 2).toNat (((sm_aI (sm_aI (sm_aI (sm_aI (sm_aI S_ 199 0 k_.toNat vx19_) 200 0 k_.toNat vx12_) 202 0 (vx12_ / 2).toNat 1) 202 0 (vx19_ / 2).toNat 1) 201 0 (vx12_ / 2).toNat ((S_.2.2.1 201 0 (vx12_ / 2).toNat) + 1)).2.2.1 201 0 (vx19_ / 2).toNat) + 1))) rfl ?_
              refine sm_T_wk [some (.inr (.inr (some (13, 0)))), some (.inl n_), some (.inl (k_ - 1)), none, none] (by exact ⟨rfl, rfl, rfl, trivial⟩) ?_
              refine ih_.2.2.2.1 n_ (k_ - 1) (sm_aI (sm_aI (sm_aI (sm_aI (sm_aI (sm_aI S_ 199 0 k_.toNat vx19_) 200 0 k_.toNat vx12_) 202 0 (vx12_ / 2).toNat 1) 202 0 (vx19_ / 2).toNat 1) 201 0 (vx12_ / 2).toNat ((S_.2.2.1 201 0 (vx12_ / 2).toNat) + 1)) 201 0 (vx19_ / 2).toNat (((sm_aI (sm_aI (sm_aI (sm_aI (sm_aI S_ 199 0 k_.toNat vx19_) 200 0 k_.toNat vx12_) 202 0 (vx12_ / 2).toNat 1) 202 0 (vx19_ / 2).toNat 1) 201 0 (vx12_ / 2).toNat ((S_.2.2.1 201 0 (vx12_ / 2).toNat) + 1)).2.2.1 201 0 (vx19_ / 2).toNat) + 1)) hIx34_ hFx35_ ⟨?_, ?_, ?_, ?_, ?_, ?_, ?_, ?_, trivial⟩ ?_
              · intro q9_ hq9_
                have w9_ := hu_ q9_ hq9_
                have fn9_ : (ndf F_.toNat N_.toNat ((S0_.2.2.1 156 0 d_.toNat).toNat + (S0_.2.2.1 155 0 d_.toNat).toNat) (fun m_ => S0_.2.2.1 166 0 (2048 * d_.toNat + m_)) (fun m_ => S0_.2.2.1 164 0 (2048 * d_.toNat + m_)) (fun m_ => S0_.2.2.1 165 0 (2048 * d_.toNat + m_)) (rto (S0_.2.2.1 156 0 d_.toNat).toNat (fun k_ => S0_.2.2.1 167 0 (16 * d_.toNat + k_)) (fun k_ => S0_.2.2.1 168 0 (6 * d_.toNat + k_)))) k_.toNat = (ndk N_.toNat (fun m_ => S0_.2.2.1 166 0 (2048 * d_.toNat + m_)) (fun m_ => S0_.2.2.1 164 0 (2048 * d_.toNat + m_)) (fun m_ => S0_.2.2.1 165 0 (2048 * d_.toNat + m_)) (nd0 (fun m_ => S0_.2.2.1 166 0 (2048 * d_.toNat + m_)) (rto (S0_.2.2.1 156 0 d_.toNat).toNat (fun k_ => S0_.2.2.1 167 0 (16 * d_.toNat + k_)) (fun k_ => S0_.2.2.1 168 0 (6 * d_.toNat + k_))) ((S0_.2.2.1 156 0 d_.toNat).toNat + (S0_.2.2.1 155 0 d_.toNat).toNat)) (N_ - 1 - k_).toNat).1 k_.toNat := ndk_fn (glo_k hd_) (sfb_k hd_) ((k_ + 1 - F_).toNat) _ _ (by omega) (by omega)
                have wk9_ := hw_ k_.toNat (by omega)
                have e9_ : ∀ x9_ : Int, x9_ = k_ - 1 → (x9_ + 1).toNat = k_.toNat ∧ (N_ - 1 - x9_).toNat = (N_ - 1 - k_).toNat + 1 := fun x9_ y9_ => by omega
                have pc9_ := psm_c (g_ := (pgn (fun m_ => S0_.2.2.1 166 0 (2048 * d_.toNat + m_)) (fun m_ => S0_.2.2.1 164 0 (2048 * d_.toNat + m_)) (fun m_ => S0_.2.2.1 165 0 (2048 * d_.toNat + m_)) (ndf F_.toNat N_.toNat ((S0_.2.2.1 156 0 d_.toNat).toNat + (S0_.2.2.1 155 0 d_.toNat).toNat) (fun m_ => S0_.2.2.1 166 0 (2048 * d_.toNat + m_)) (fun m_ => S0_.2.2.1 164 0 (2048 * d_.toNat + m_)) (fun m_ => S0_.2.2.1 165 0 (2048 * d_.toNat + m_)) (rto (S0_.2.2.1 156 0 d_.toNat).toNat (fun k_ => S0_.2.2.1 167 0 (16 * d_.toNat + k_)) (fun k_ => S0_.2.2.1 168 0 (6 * d_.toNat + k_)))) q9_)) (a_ := k_.toNat) (N_ - 1 - k_).toNat
                rw [(e9_ _ (by omega)).1, (e9_ _ (by omega)).2, pc9_, show k_.toNat + 1 = (k_ + 1).toNat by omega]
                have ia9_ : (nod d_ S_ (S_.2.2.1 164 0 (2048 * d_ + k_).toNat)).toNat = nsw (fun m_ => S0_.2.2.1 166 0 (2048 * d_.toNat + m_)) (S0_.2.2.1 164 0 (2048 * d_.toNat + k_.toNat)) := by (rw [n9_, nod_n (by omega) (by omega), f164_]; exact congrArg (fun x_ => nsw (fun m_ => S0_.2.2.1 166 0 (2048 * d_.toNat + m_)) (S0_.2.2.1 164 0 x_)) (by omega))
                have ib9_ : (nod d_ S_ (S_.2.2.1 165 0 (2048 * d_ + k_).toNat)).toNat = nsw (fun m_ => S0_.2.2.1 166 0 (2048 * d_.toNat + m_)) (S0_.2.2.1 165 0 (2048 * d_.toNat + k_.toNat)) := by (rw [n9_, nod_n (by omega) (by omega), f165_]; exact congrArg (fun x_ => nsw (fun m_ => S0_.2.2.1 166 0 (2048 * d_.toNat + m_)) (S0_.2.2.1 165 0 x_)) (by omega))
                have g9_ : pgn (fun m_ => S0_.2.2.1 166 0 (2048 * d_.toNat + m_)) (fun m_ => S0_.2.2.1 164 0 (2048 * d_.toNat + m_)) (fun m_ => S0_.2.2.1 165 0 (2048 * d_.toNat + m_)) (ndf F_.toNat N_.toNat ((S0_.2.2.1 156 0 d_.toNat).toNat + (S0_.2.2.1 155 0 d_.toNat).toNat) (fun m_ => S0_.2.2.1 166 0 (2048 * d_.toNat + m_)) (fun m_ => S0_.2.2.1 164 0 (2048 * d_.toNat + m_)) (fun m_ => S0_.2.2.1 165 0 (2048 * d_.toNat + m_)) (rto (S0_.2.2.1 156 0 d_.toNat).toNat (fun k_ => S0_.2.2.1 167 0 (16 * d_.toNat + k_)) (fun k_ => S0_.2.2.1 168 0 (6 * d_.toNat + k_)))) q9_ k_.toNat = (if q9_ = nsw (fun m_ => S0_.2.2.1 166 0 (2048 * d_.toNat + m_)) (S0_.2.2.1 164 0 (2048 * d_.toNat + k_.toNat)) then 1 else 0) + (if q9_ = nsw (fun m_ => S0_.2.2.1 166 0 (2048 * d_.toNat + m_)) (S0_.2.2.1 165 0 (2048 * d_.toNat + k_.toNat)) then 1 else 0) := by (unfold pgn; rw [if_pos (by (rw [fn9_]; exact wk9_.mp (by omega)))])
                rw [g9_]
                (try simp only [rd_eq, rd_ne, rf_eq, rf_nk, rf_nt, rd_fa, rd_af, rd_fl, rd_al, rd_lf, rd_la, rd_leq, rd_lne, rd_fr, rd_ar, ne_eq, Nat.reduceEqDiff, not_false_eq_true])
                rw [a164_, a184_, ia9_, ib9_]
                refine (inc2 w9_).trans ?_
                exact congrArg (fun x_ : Nat => (x_ : Int)) (by omega)
              · have fn9_ : (ndf F_.toNat N_.toNat ((S0_.2.2.1 156 0 d_.toNat).toNat + (S0_.2.2.1 155 0 d_.toNat).toNat) (fun m_ => S0_.2.2.1 166 0 (2048 * d_.toNat + m_)) (fun m_ => S0_.2.2.1 164 0 (2048 * d_.toNat + m_)) (fun m_ => S0_.2.2.1 165 0 (2048 * d_.toNat + m_)) (rto (S0_.2.2.1 156 0 d_.toNat).toNat (fun k_ => S0_.2.2.1 167 0 (16 * d_.toNat + k_)) (fun k_ => S0_.2.2.1 168 0 (6 * d_.toNat + k_)))) k_.toNat = (ndk N_.toNat (fun m_ => S0_.2.2.1 166 0 (2048 * d_.toNat + m_)) (fun m_ => S0_.2.2.1 164 0 (2048 * d_.toNat + m_)) (fun m_ => S0_.2.2.1 165 0 (2048 * d_.toNat + m_)) (nd0 (fun m_ => S0_.2.2.1 166 0 (2048 * d_.toNat + m_)) (rto (S0_.2.2.1 156 0 d_.toNat).toNat (fun k_ => S0_.2.2.1 167 0 (16 * d_.toNat + k_)) (fun k_ => S0_.2.2.1 168 0 (6 * d_.toNat + k_))) ((S0_.2.2.1 156 0 d_.toNat).toNat + (S0_.2.2.1 155 0 d_.toNat).toNat)) (N_ - 1 - k_).toNat).1 k_.toNat := ndk_fn (glo_k hd_) (sfb_k hd_) ((k_ + 1 - F_).toNat) _ _ (by omega) (by omega)
                have wk9_ := hw_ k_.toNat (by omega)
                have e9_ : ∀ x9_ : Int, x9_ = k_ - 1 → (x9_ + 1).toNat = k_.toNat ∧ (N_ - 1 - x9_).toNat = (N_ - 1 - k_).toNat + 1 := fun x9_ y9_ => by omega
                have ia9_ : (nod d_ S_ (S_.2.2.1 164 0 (2048 * d_ + k_).toNat)).toNat = nsw (fun m_ => S0_.2.2.1 166 0 (2048 * d_.toNat + m_)) (S0_.2.2.1 164 0 (2048 * d_.toNat + k_.toNat)) := by (rw [n9_, nod_n (by omega) (by omega), f164_]; exact congrArg (fun x_ => nsw (fun m_ => S0_.2.2.1 166 0 (2048 * d_.toNat + m_)) (S0_.2.2.1 164 0 x_)) (by omega))
                have ib9_ : (nod d_ S_ (S_.2.2.1 165 0 (2048 * d_ + k_).toNat)).toNat = nsw (fun m_ => S0_.2.2.1 166 0 (2048 * d_.toNat + m_)) (S0_.2.2.1 165 0 (2048 * d_.toNat + k_.toNat)) := by (rw [n9_, nod_n (by omega) (by omega), f165_]; exact congrArg (fun x_ => nsw (fun m_ => S0_.2.2.1 166 0 (2048 * d_.toNat + m_)) (S0_.2.2.1 165 0 x_)) (by omega))
                rw [(e9_ _ (by omega)).2]
                refine ndw_y (n_ := k_.toNat) hw_ (by omega) (by omega) (by omega) (fun q9_ => ?_)
                (try simp only [rd_eq, rd_ne, rf_eq, rf_nk, rf_nt, rd_fa, rd_af, rd_fl, rd_al, rd_lf, rd_la, rd_leq, rd_lne, rd_fr, rd_ar, ne_eq, Nat.reduceEqDiff, not_false_eq_true])
                rw [a164_, a184_, ia9_, ib9_]
              · intro q9_ hq9_
                have w9_ := hv_ q9_ hq9_
                (try simp only [rd_eq, rd_ne, rf_eq, rf_nk, rf_nt, rd_fa, rd_af, rd_fl, rd_al, rd_lf, rd_la, rd_leq, rd_lne, rd_fr, rd_ar, ne_eq, Nat.reduceEqDiff, not_false_eq_true])
                exact w9_
              · intro j9_ u0_ u1_ u2_ u3_
                by_cases z9_ : j9_ = k_
                · subst z9_
                  unfold sdv
                  rw [← sa9_, ← sb9_]
                  (try simp only [rd_eq, rd_ne, rf_eq, rf_nk, rf_nt, rd_fa, rd_af, rd_fl, rd_al, rd_lf, rd_la, rd_leq, rd_lne, rd_fr, rd_ar, ne_eq, Nat.reduceEqDiff, not_false_eq_true])
                  (try simp only [if_true])
                  refine ⟨?_, ?_⟩ <;> (split <;> omega)
                · have u4_ : S_.2.2.1 202 0 j9_.toNat = 1 := by
                    (try simp only [rd_eq, rd_ne, rf_eq, rf_nk, rf_nt, rd_fa, rd_af, rd_fl, rd_al, rd_lf, rd_la, rd_leq, rd_lne, rd_fr, rd_ar, ne_eq, Nat.reduceEqDiff, not_false_eq_true] at *)
                    rw [a164_, a184_] at u3_
                    rw [if_neg (by omega), if_neg (by omega)] at u3_
                    exact u3_
                  have w9_ := hsd_ j9_ (by omega) u1_ u2_ u4_
                  (try simp only [rd_eq, rd_ne, rf_eq, rf_nk, rf_nt, rd_fa, rd_af, rd_fl, rd_al, rd_lf, rd_la, rd_leq, rd_lne, rd_fr, rd_ar, ne_eq, Nat.reduceEqDiff, not_false_eq_true])
                  rw [if_neg (by omega), if_neg (by omega)]
                  exact w9_
              · omega
              · have s2_ : ∀ j9_, S_.2.2.1 202 0 j9_ = 1 → ((sm_aI (sm_aI (sm_aI (sm_aI (sm_aI (sm_aI S_ 199 0 k_.toNat vx19_) 200 0 k_.toNat vx12_) 202 0 (vx12_ / 2).toNat 1) 202 0 (vx19_ / 2).toNat 1) 201 0 (vx12_ / 2).toNat ((S_.2.2.1 201 0 (vx12_ / 2).toNat) + 1)) 201 0 (vx19_ / 2).toNat (((sm_aI (sm_aI (sm_aI (sm_aI (sm_aI S_ 199 0 k_.toNat vx19_) 200 0 k_.toNat vx12_) 202 0 (vx12_ / 2).toNat 1) 202 0 (vx19_ / 2).toNat 1) 201 0 (vx12_ / 2).toNat ((S_.2.2.1 201 0 (vx12_ / 2).toNat) + 1)).2.2.1 201 0 (vx19_ / 2).toNat) + 1))).2.2.1 202 0 j9_ = 1 := fun j9_ u9_ => by ((try simp only [rd_eq, rd_ne, rf_eq, rf_nk, rf_nt, rd_fa, rd_af, rd_fl, rd_al, rd_lf, rd_la, rd_leq, rd_lne, rd_fr, rd_ar, ne_eq, Nat.reduceEqDiff, not_false_eq_true]); split; rfl; (split; rfl; exact u9_))
                have s3_ : ((sm_aI (sm_aI (sm_aI (sm_aI (sm_aI (sm_aI S_ 199 0 k_.toNat vx19_) 200 0 k_.toNat vx12_) 202 0 (vx12_ / 2).toNat 1) 202 0 (vx19_ / 2).toNat 1) 201 0 (vx12_ / 2).toNat ((S_.2.2.1 201 0 (vx12_ / 2).toNat) + 1)) 201 0 (vx19_ / 2).toNat (((sm_aI (sm_aI (sm_aI (sm_aI (sm_aI S_ 199 0 k_.toNat vx19_) 200 0 k_.toNat vx12_) 202 0 (vx12_ / 2).toNat 1) 202 0 (vx19_ / 2).toNat 1) 201 0 (vx12_ / 2).toNat ((S_.2.2.1 201 0 (vx12_ / 2).toNat) + 1)).2.2.1 201 0 (vx19_ / 2).toNat) + 1))).2.2.1 203 0 = S_.2.2.1 203 0 := by (funext j9_; (try simp only [rd_eq, rd_ne, rf_eq, rf_nk, rf_nt, rd_fa, rd_af, rd_fl, rd_al, rd_lf, rd_la, rd_leq, rd_lne, rd_fr, rd_ar, ne_eq, Nat.reduceEqDiff, not_false_eq_true]))
                have s6_ : ((sm_aI (sm_aI (sm_aI (sm_aI (sm_aI (sm_aI S_ 199 0 k_.toNat vx19_) 200 0 k_.toNat vx12_) 202 0 (vx12_ / 2).toNat 1) 202 0 (vx19_ / 2).toNat 1) 201 0 (vx12_ / 2).toNat ((S_.2.2.1 201 0 (vx12_ / 2).toNat) + 1)) 201 0 (vx19_ / 2).toNat (((sm_aI (sm_aI (sm_aI (sm_aI (sm_aI S_ 199 0 k_.toNat vx19_) 200 0 k_.toNat vx12_) 202 0 (vx12_ / 2).toNat 1) 202 0 (vx19_ / 2).toNat 1) 201 0 (vx12_ / 2).toNat ((S_.2.2.1 201 0 (vx12_ / 2).toNat) + 1)).2.2.1 201 0 (vx19_ / 2).toNat) + 1))).2.2.1 166 0 = S_.2.2.1 166 0 := by (funext j9_; (try simp only [rd_eq, rd_ne, rf_eq, rf_nk, rf_nt, rd_fa, rd_af, rd_fl, rd_al, rd_lf, rd_la, rd_leq, rd_lne, rd_fr, rd_ar, ne_eq, Nat.reduceEqDiff, not_false_eq_true]))
                intro k9_ u0_ u1_ u2_
                rw [s6_]
                (try simp only [rd_eq, rd_ne, rf_eq, rf_nk, rf_nt, rd_fa, rd_af, rd_fl, rd_al, rd_lf, rd_la, rd_leq, rd_lne, rd_fr, rd_ar, ne_eq, Nat.reduceEqDiff, not_false_eq_true] at *)
                rw [a164_, a184_] at u2_
                by_cases z9_ : k9_.toNat = (nod d_ S_ (S_.2.2.1 165 0 (2048 * d_ + k_).toNat)).toNat
                · rw [show k9_ = nod d_ S_ (S_.2.2.1 165 0 (2048 * d_ + k_).toNat) by omega]; exact q2_.2.2.1
                · rw [if_neg z9_] at u2_
                  by_cases y9_ : k9_.toNat = (nod d_ S_ (S_.2.2.1 164 0 (2048 * d_ + k_).toNat)).toNat
                  · rw [show k9_ = nod d_ S_ (S_.2.2.1 164 0 (2048 * d_ + k_).toNat) by omega]; exact q1_.2.2.1
                  · rw [if_neg y9_] at u2_; exact hg_ k9_ u0_ u1_ u2_
              · have s2_ : ∀ j9_, S_.2.2.1 202 0 j9_ = 1 → ((sm_aI (sm_aI (sm_aI (sm_aI (sm_aI (sm_aI S_ 199 0 k_.toNat vx19_) 200 0 k_.toNat vx12_) 202 0 (vx12_ / 2).toNat 1) 202 0 (vx19_ / 2).toNat 1) 201 0 (vx12_ / 2).toNat ((S_.2.2.1 201 0 (vx12_ / 2).toNat) + 1)) 201 0 (vx19_ / 2).toNat (((sm_aI (sm_aI (sm_aI (sm_aI (sm_aI S_ 199 0 k_.toNat vx19_) 200 0 k_.toNat vx12_) 202 0 (vx12_ / 2).toNat 1) 202 0 (vx19_ / 2).toNat 1) 201 0 (vx12_ / 2).toNat ((S_.2.2.1 201 0 (vx12_ / 2).toNat) + 1)).2.2.1 201 0 (vx19_ / 2).toNat) + 1))).2.2.1 202 0 j9_ = 1 := fun j9_ u9_ => by ((try simp only [rd_eq, rd_ne, rf_eq, rf_nk, rf_nt, rd_fa, rd_af, rd_fl, rd_al, rd_lf, rd_la, rd_leq, rd_lne, rd_fr, rd_ar, ne_eq, Nat.reduceEqDiff, not_false_eq_true]); split; rfl; (split; rfl; exact u9_))
                have s3_ : ((sm_aI (sm_aI (sm_aI (sm_aI (sm_aI (sm_aI S_ 199 0 k_.toNat vx19_) 200 0 k_.toNat vx12_) 202 0 (vx12_ / 2).toNat 1) 202 0 (vx19_ / 2).toNat 1) 201 0 (vx12_ / 2).toNat ((S_.2.2.1 201 0 (vx12_ / 2).toNat) + 1)) 201 0 (vx19_ / 2).toNat (((sm_aI (sm_aI (sm_aI (sm_aI (sm_aI S_ 199 0 k_.toNat vx19_) 200 0 k_.toNat vx12_) 202 0 (vx12_ / 2).toNat 1) 202 0 (vx19_ / 2).toNat 1) 201 0 (vx12_ / 2).toNat ((S_.2.2.1 201 0 (vx12_ / 2).toNat) + 1)).2.2.1 201 0 (vx19_ / 2).toNat) + 1))).2.2.1 203 0 = S_.2.2.1 203 0 := by (funext j9_; (try simp only [rd_eq, rd_ne, rf_eq, rf_nk, rf_nt, rd_fa, rd_af, rd_fl, rd_al, rd_lf, rd_la, rd_leq, rd_lne, rd_fr, rd_ar, ne_eq, Nat.reduceEqDiff, not_false_eq_true]))
                have s6_ : ((sm_aI (sm_aI (sm_aI (sm_aI (sm_aI (sm_aI S_ 199 0 k_.toNat vx19_) 200 0 k_.toNat vx12_) 202 0 (vx12_ / 2).toNat 1) 202 0 (vx19_ / 2).toNat 1) 201 0 (vx12_ / 2).toNat ((S_.2.2.1 201 0 (vx12_ / 2).toNat) + 1)) 201 0 (vx19_ / 2).toNat (((sm_aI (sm_aI (sm_aI (sm_aI (sm_aI S_ 199 0 k_.toNat vx19_) 200 0 k_.toNat vx12_) 202 0 (vx12_ / 2).toNat 1) 202 0 (vx19_ / 2).toNat 1) 201 0 (vx12_ / 2).toNat ((S_.2.2.1 201 0 (vx12_ / 2).toNat) + 1)).2.2.1 201 0 (vx19_ / 2).toNat) + 1))).2.2.1 166 0 = S_.2.2.1 166 0 := by (funext j9_; (try simp only [rd_eq, rd_ne, rf_eq, rf_nk, rf_nt, rd_fa, rd_af, rd_fl, rd_al, rd_lf, rd_la, rd_leq, rd_lne, rd_fr, rd_ar, ne_eq, Nat.reduceEqDiff, not_false_eq_true]))
                exact rtd_mo hr_ s6_ (by (funext j9_; (try simp only [rd_eq, rd_ne, rf_eq, rf_nk, rf_nt, rd_fa, rd_af, rd_fl, rd_al, rd_lf, rd_la, rd_leq, rd_lne, rd_fr, rd_ar, ne_eq, Nat.reduceEqDiff, not_false_eq_true]))) (by (funext j9_; (try simp only [rd_eq, rd_ne, rf_eq, rf_nk, rf_nt, rd_fa, rd_af, rd_fl, rd_al, rd_lf, rd_la, rd_leq, rd_lne, rd_fr, rd_ar, ne_eq, Nat.reduceEqDiff, not_false_eq_true]))) s2_ (fun j9_ u9_ => by (rw [s3_]; exact u9_))
              · have s2_ : ∀ j9_, S_.2.2.1 202 0 j9_ = 1 → ((sm_aI (sm_aI (sm_aI (sm_aI (sm_aI (sm_aI S_ 199 0 k_.toNat vx19_) 200 0 k_.toNat vx12_) 202 0 (vx12_ / 2).toNat 1) 202 0 (vx19_ / 2).toNat 1) 201 0 (vx12_ / 2).toNat ((S_.2.2.1 201 0 (vx12_ / 2).toNat) + 1)) 201 0 (vx19_ / 2).toNat (((sm_aI (sm_aI (sm_aI (sm_aI (sm_aI S_ 199 0 k_.toNat vx19_) 200 0 k_.toNat vx12_) 202 0 (vx12_ / 2).toNat 1) 202 0 (vx19_ / 2).toNat 1) 201 0 (vx12_ / 2).toNat ((S_.2.2.1 201 0 (vx12_ / 2).toNat) + 1)).2.2.1 201 0 (vx19_ / 2).toNat) + 1))).2.2.1 202 0 j9_ = 1 := fun j9_ u9_ => by ((try simp only [rd_eq, rd_ne, rf_eq, rf_nk, rf_nt, rd_fa, rd_af, rd_fl, rd_al, rd_lf, rd_la, rd_leq, rd_lne, rd_fr, rd_ar, ne_eq, Nat.reduceEqDiff, not_false_eq_true]); split; rfl; (split; rfl; exact u9_))
                have s3_ : ((sm_aI (sm_aI (sm_aI (sm_aI (sm_aI (sm_aI S_ 199 0 k_.toNat vx19_) 200 0 k_.toNat vx12_) 202 0 (vx12_ / 2).toNat 1) 202 0 (vx19_ / 2).toNat 1) 201 0 (vx12_ / 2).toNat ((S_.2.2.1 201 0 (vx12_ / 2).toNat) + 1)) 201 0 (vx19_ / 2).toNat (((sm_aI (sm_aI (sm_aI (sm_aI (sm_aI S_ 199 0 k_.toNat vx19_) 200 0 k_.toNat vx12_) 202 0 (vx12_ / 2).toNat 1) 202 0 (vx19_ / 2).toNat 1) 201 0 (vx12_ / 2).toNat ((S_.2.2.1 201 0 (vx12_ / 2).toNat) + 1)).2.2.1 201 0 (vx19_ / 2).toNat) + 1))).2.2.1 203 0 = S_.2.2.1 203 0 := by (funext j9_; (try simp only [rd_eq, rd_ne, rf_eq, rf_nk, rf_nt, rd_fa, rd_af, rd_fl, rd_al, rd_lf, rd_la, rd_leq, rd_lne, rd_fr, rd_ar, ne_eq, Nat.reduceEqDiff, not_false_eq_true]))
                have s6_ : ((sm_aI (sm_aI (sm_aI (sm_aI (sm_aI (sm_aI S_ 199 0 k_.toNat vx19_) 200 0 k_.toNat vx12_) 202 0 (vx12_ / 2).toNat 1) 202 0 (vx19_ / 2).toNat 1) 201 0 (vx12_ / 2).toNat ((S_.2.2.1 201 0 (vx12_ / 2).toNat) + 1)) 201 0 (vx19_ / 2).toNat (((sm_aI (sm_aI (sm_aI (sm_aI (sm_aI S_ 199 0 k_.toNat vx19_) 200 0 k_.toNat vx12_) 202 0 (vx12_ / 2).toNat 1) 202 0 (vx19_ / 2).toNat 1) 201 0 (vx12_ / 2).toNat ((S_.2.2.1 201 0 (vx12_ / 2).toNat) + 1)).2.2.1 201 0 (vx19_ / 2).toNat) + 1))).2.2.1 166 0 = S_.2.2.1 166 0 := by (funext j9_; (try simp only [rd_eq, rd_ne, rf_eq, rf_nk, rf_nt, rd_fa, rd_af, rd_fl, rd_al, rd_lf, rd_la, rd_leq, rd_lne, rd_fr, rd_ar, ne_eq, Nat.reduceEqDiff, not_false_eq_true]))
                intro j9_ u0_ u1_ u2_ u3_
                by_cases z9_ : j9_ = k_
                · subst z9_
                  unfold lgp
                  (try simp only [rd_eq, rd_ne, rf_eq, rf_nk, rf_nt, rd_fa, rd_af, rd_fl, rd_al, rd_lf, rd_la, rd_leq, rd_lne, rd_fr, rd_ar, ne_eq, Nat.reduceEqDiff, not_false_eq_true])
                  rw [a164_, a184_]
                  first | (rw [if_pos rfl, if_pos rfl]) | skip
                  simp only [if_true]
                  refine ⟨⟨by omega, by omega, ?_⟩, by omega, by omega, ?_⟩ <;> (first | (rw [a164_]) | (rw [a184_]) | skip) <;> (split; rfl; (split; rfl; (exfalso; omega)))
                · have u4_ : S_.2.2.1 202 0 j9_.toNat = 1 := by
                    (try simp only [rd_eq, rd_ne, rf_eq, rf_nk, rf_nt, rd_fa, rd_af, rd_fl, rd_al, rd_lf, rd_la, rd_leq, rd_lne, rd_fr, rd_ar, ne_eq, Nat.reduceEqDiff, not_false_eq_true] at *)
                    rw [a164_, a184_] at u3_
                    rw [if_neg (by omega), if_neg (by omega)] at u3_
                    exact u3_
                  exact lgp_mo (hl_ j9_ (by omega) u1_ u2_ u4_) (by ((try simp only [rd_eq, rd_ne, rf_eq, rf_nk, rf_nt, rd_fa, rd_af, rd_fl, rd_al, rd_lf, rd_la, rd_leq, rd_lne, rd_fr, rd_ar, ne_eq, Nat.reduceEqDiff, not_false_eq_true]); rw [if_neg (by omega)])) (by ((try simp only [rd_eq, rd_ne, rf_eq, rf_nk, rf_nt, rd_fa, rd_af, rd_fl, rd_al, rd_lf, rd_la, rd_leq, rd_lne, rd_fr, rd_ar, ne_eq, Nat.reduceEqDiff, not_false_eq_true]); rw [if_neg (by omega)])) s2_
              · omega
            · have cx23_ : ¬ (vx19_ ≤ vx12_) := of_decide_eq_false cx23_
              exfalso; omega
          · have cx20_ : ¬ (vx19_ ≤ vx12_) := of_decide_eq_false cx20_
            refine sm_T_go 2 (c1 := (206, [some (.inr (.inr (some (13, 0)))), some (.inl n_), some (.inl k_), some (.inl vx12_), some (.inl vx19_)], [.inl vx12_, .inl k_, .inr (.inr (some (199, 0)))], S_)) rfl ?_
            refine sm_T_iast (n := 2048) rfl rfl (by omega) (by omega) ?_
            have hIx36_ : gi (sm_aI S_ 199 0 k_.toNat vx12_) := gi_aI hI_ (show 0 ≤ vx12_ ∧ vx12_ ≤ 2025 from ⟨by omega, by omega⟩)
            have hFx37_ : ai_fr (sx_W vw_394n) S0_ (sm_aI S_ 199 0 k_.toNat vx12_) := ai_fr_tr hF_ (ai_fr_aI rfl)
            refine sm_T_go 5 (c1 := (215, [some (.inr (.inr (some (13, 0)))), some (.inl n_), some (.inl k_), some (.inl vx12_), some (.inl vx19_)], [.inl vx19_, .inl vx12_, .inl k_, .inr (.inr (some (200, 0)))], sm_aI S_ 199 0 k_.toNat vx12_)) rfl ?_
            refine sm_T_br (a := 3) (z := 8) rfl (fun cx38_ => ?_) (fun cx38_ => ?_)
            · have cx38_ : vx19_ ≤ vx12_ := of_decide_eq_true cx38_
              exfalso; omega
            · have cx38_ : ¬ (vx19_ ≤ vx12_) := of_decide_eq_false cx38_
              refine sm_T_go 2 (c1 := (224, [some (.inr (.inr (some (13, 0)))), some (.inl n_), some (.inl k_), some (.inl vx12_), some (.inl vx19_)], [.inl vx19_, .inl k_, .inr (.inr (some (200, 0)))], sm_aI S_ 199 0 k_.toNat vx12_)) rfl ?_
              refine sm_T_iast (n := 2048) rfl rfl (by omega) (by omega) ?_
              have hIx39_ : gi (sm_aI (sm_aI S_ 199 0 k_.toNat vx12_) 200 0 k_.toNat vx19_) := gi_aI hIx36_ (show 0 ≤ vx19_ ∧ vx19_ ≤ 2025 from ⟨by omega, by omega⟩)
              have hFx40_ : ai_fr (sx_W vw_394n) S0_ (sm_aI (sm_aI S_ 199 0 k_.toNat vx12_) 200 0 k_.toNat vx19_) := ai_fr_tr hFx37_ (ai_fr_aI rfl)
              refine sm_T_go 4 (c1 := (231, [some (.inr (.inr (some (13, 0)))), some (.inl n_), some (.inl k_), some (.inl vx12_), some (.inl vx19_)], [.inl 1, .inl vx12_, .inr (.inr (some (202, 0)))], sm_aI (sm_aI S_ 199 0 k_.toNat vx12_) 200 0 k_.toNat vx19_)) rfl ?_
              refine sm_T_bin (w := (vx12_ / 2)) rfl (bi_shr (k := 1) (by decide) (by omega) (by omega)) ?_ -- pc_ 231
              refine sm_T_go 1 (c1 := (233, [some (.inr (.inr (some (13, 0)))), some (.inl n_), some (.inl k_), some (.inl vx12_), some (.inl vx19_)], [.inl 1, .inl (vx12_ / 2), .inr (.inr (some (202, 0)))], sm_aI (sm_aI S_ 199 0 k_.toNat vx12_) 200 0 k_.toNat vx19_)) rfl ?_
              refine sm_T_zas1 (n := 2048) rfl rfl (by omega) (by omega) (by omega) ?_
              have hIx41_ : gi (sm_aI (sm_aI (sm_aI S_ 199 0 k_.toNat vx12_) 200 0 k_.toNat vx19_) 202 0 (vx12_ / 2).toNat 1) := gi_aI hIx39_ (show 0 ≤ 1 ∧ 1 ≤ 1 from ⟨by omega, by omega⟩)
              have hFx42_ : ai_fr (sx_W vw_394n) S0_ (sm_aI (sm_aI (sm_aI S_ 199 0 k_.toNat vx12_) 200 0 k_.toNat vx19_) 202 0 (vx12_ / 2).toNat 1) := ai_fr_tr hFx40_ (ai_fr_aI rfl)
              refine sm_T_go 4 (c1 := (241, [some (.inr (.inr (some (13, 0)))), some (.inl n_), some (.inl k_), some (.inl vx12_), some (.inl vx19_)], [.inl 1, .inl vx19_, .inr (.inr (some (202, 0)))], sm_aI (sm_aI (sm_aI S_ 199 0 k_.toNat vx12_) 200 0 k_.toNat vx19_) 202 0 (vx12_ / 2).toNat 1)) rfl ?_
              refine sm_T_bin (w := (vx19_ / 2)) rfl (bi_shr (k := 1) (by decide) (by omega) (by omega)) ?_ -- pc_ 241
              refine sm_T_go 1 (c1 := (243, [some (.inr (.inr (some (13, 0)))), some (.inl n_), some (.inl k_), some (.inl vx12_), some (.inl vx19_)], [.inl 1, .inl (vx19_ / 2), .inr (.inr (some (202, 0)))], sm_aI (sm_aI (sm_aI S_ 199 0 k_.toNat vx12_) 200 0 k_.toNat vx19_) 202 0 (vx12_ / 2).toNat 1)) rfl ?_
              refine sm_T_zas1 (n := 2048) rfl rfl (by omega) (by omega) (by omega) ?_
              have hIx43_ : gi (sm_aI (sm_aI (sm_aI (sm_aI S_ 199 0 k_.toNat vx12_) 200 0 k_.toNat vx19_) 202 0 (vx12_ / 2).toNat 1) 202 0 (vx19_ / 2).toNat 1) := gi_aI hIx41_ (show 0 ≤ 1 ∧ 1 ≤ 1 from ⟨by omega, by omega⟩)
              have hFx44_ : ai_fr (sx_W vw_394n) S0_ (sm_aI (sm_aI (sm_aI (sm_aI S_ 199 0 k_.toNat vx12_) 200 0 k_.toNat vx19_) 202 0 (vx12_ / 2).toNat 1) 202 0 (vx19_ / 2).toNat 1) := ai_fr_tr hFx42_ (ai_fr_aI rfl)
              refine sm_T_go 4 (c1 := (250, [some (.inr (.inr (some (13, 0)))), some (.inl n_), some (.inl k_), some (.inl vx12_), some (.inl vx19_)], [.inl 1, .inl vx12_, .inr (.inr (some (201, 0)))], sm_aI (sm_aI (sm_aI (sm_aI S_ 199 0 k_.toNat vx12_) 200 0 k_.toNat vx19_) 202 0 (vx12_ / 2).toNat 1) 202 0 (vx19_ / 2).toNat 1)) rfl ?_
              refine sm_T_bin (w := (vx12_ / 2)) rfl (bi_shr (k := 1) (by decide) (by omega) (by omega)) ?_ -- pc_ 250
              refine sm_T_go 1 (c1 := (252, [some (.inr (.inr (some (13, 0)))), some (.inl n_), some (.inl k_), some (.inl vx12_), some (.inl vx19_)], [.inl (vx12_ / 2), .inr (.inr (some (201, 0))), .inl (vx12_ / 2), .inr (.inr (some (201, 0)))], sm_aI (sm_aI (sm_aI (sm_aI S_ 199 0 k_.toNat vx12_) 200 0 k_.toNat vx19_) 202 0 (vx12_ / 2).toNat 1) 202 0 (vx19_ / 2).toNat 1)) rfl ?_
              refine sm_T_iald (n := 2048) rfl rfl (by omega) (by omega) ?_
              have bx45_ : (-2147483648) ≤ S_.2.2.1 201 0 (vx12_ / 2).toNat ∧ S_.2.2.1 201 0 (vx12_ / 2).toNat ≤ 2147483647 := hI_.2 201 0 _
              refine sm_T_go 1 (c1 := (254, [some (.inr (.inr (some (13, 0)))), some (.inl n_), some (.inl k_), some (.inl vx12_), some (.inl vx19_)], [.inl 1, .inl (S_.2.2.1 201 0 (vx12_ / 2).toNat), .inl (vx12_ / 2), .inr (.inr (some (201, 0)))], sm_aI (sm_aI (sm_aI (sm_aI S_ 199 0 k_.toNat vx12_) 200 0 k_.toNat vx19_) 202 0 (vx12_ / 2).toNat 1) 202 0 (vx19_ / 2).toNat 1)) rfl ?_
              refine sm_T_bin (w := (S_.2.2.1 201 0 (vx12_ / 2).toNat) + 1) rfl (bi_add (by omega) (by omega) (by omega)) ?_ -- pc_ 254
              refine sm_T_iast (n := 2048) rfl rfl (by omega) (by omega) ?_
              have hIx46_ : gi (sm_aI (sm_aI (sm_aI (sm_aI (sm_aI S_ 199 0 k_.toNat vx12_) 200 0 k_.toNat vx19_) 202 0 (vx12_ / 2).toNat 1) 202 0 (vx19_ / 2).toNat 1) 201 0 (vx12_ / 2).toNat ((S_.2.2.1 201 0 (vx12_ / 2).toNat) + 1)) := gi_aI hIx43_ (show (-2147483648) ≤ (S_.2.2.1 201 0 (vx12_ / 2).toNat) + 1 ∧ (S_.2.2.1 201 0 (vx12_ / 2).toNat) + 1 ≤ 2147483647 from ⟨by omega, by omega⟩)
              have hFx47_ : ai_fr (sx_W vw_394n) S0_ (sm_aI (sm_aI (sm_aI (sm_aI (sm_aI S_ 199 0 k_.toNat vx12_) 200 0 k_.toNat vx19_) 202 0 (vx12_ / 2).toNat 1) 202 0 (vx19_ / 2).toNat 1) 201 0 (vx12_ / 2).toNat ((S_.2.2.1 201 0 (vx12_ / 2).toNat) + 1)) := ai_fr_tr hFx44_ (ai_fr_aI rfl)
              refine sm_T_go 4 (c1 := (263, [some (.inr (.inr (some (13, 0)))), some (.inl n_), some (.inl k_), some (.inl vx12_), some (.inl vx19_)], [.inl 1, .inl vx19_, .inr (.inr (some (201, 0)))], sm_aI (sm_aI (sm_aI (sm_aI (sm_aI S_ 199 0 k_.toNat vx12_) 200 0 k_.toNat vx19_) 202 0 (vx12_ / 2).toNat 1) 202 0 (vx19_ / 2).toNat 1) 201 0 (vx12_ / 2).toNat ((S_.2.2.1 201 0 (vx12_ / 2).toNat) + 1))) rfl ?_
              refine sm_T_bin (w := (vx19_ / 2)) rfl (bi_shr (k := 1) (by decide) (by omega) (by omega)) ?_ -- pc_ 263
              refine sm_T_go 1 (c1 := (265, [some (.inr (.inr (some (13, 0)))), some (.inl n_), some (.inl k_), some (.inl vx12_), some (.inl vx19_)], [.inl (vx19_ / 2), .inr (.inr (some (201, 0))), .inl (vx19_ / 2), .inr (.inr (some (201, 0)))], sm_aI (sm_aI (sm_aI (sm_aI (sm_aI S_ 199 0 k_.toNat vx12_) 200 0 k_.toNat vx19_) 202 0 (vx12_ / 2).toNat 1) 202 0 (vx19_ / 2).toNat 1) 201 0 (vx12_ / 2).toNat ((S_.2.2.1 201 0 (vx12_ / 2).toNat) + 1))) rfl ?_
              refine sm_T_iald (n := 2048) rfl rfl (by omega) (by omega) ?_
              have bx48_ : (-2147483648) ≤ (sm_aI (sm_aI (sm_aI (sm_aI (sm_aI S_ 199 0 k_.toNat vx12_) 200 0 k_.toNat vx19_) 202 0 (vx12_ / 2).toNat 1) 202 0 (vx19_ / 2).toNat 1) 201 0 (vx12_ / 2).toNat ((S_.2.2.1 201 0 (vx12_ / 2).toNat) + 1)).2.2.1 201 0 (vx19_ / 2).toNat ∧ (sm_aI (sm_aI (sm_aI (sm_aI (sm_aI S_ 199 0 k_.toNat vx12_) 200 0 k_.toNat vx19_) 202 0 (vx12_ / 2).toNat 1) 202 0 (vx19_ / 2).toNat 1) 201 0 (vx12_ / 2).toNat ((S_.2.2.1 201 0 (vx12_ / 2).toNat) + 1)).2.2.1 201 0 (vx19_ / 2).toNat ≤ 2147483647 := hIx46_.2 201 0 _
              refine sm_T_go 1 (c1 := (267, [some (.inr (.inr (some (13, 0)))), some (.inl n_), some (.inl k_), some (.inl vx12_), some (.inl vx19_)], [.inl 1, .inl ((sm_aI (sm_aI (sm_aI (sm_aI (sm_aI S_ 199 0 k_.toNat vx12_) 200 0 k_.toNat vx19_) 202 0 (vx12_ / 2).toNat 1) 202 0 (vx19_ / 2).toNat 1) 201 0 (vx12_ / 2).toNat ((S_.2.2.1 201 0 (vx12_ / 2).toNat) + 1)).2.2.1 201 0 (vx19_ / 2).toNat), .inl (vx19_ / 2), .inr (.inr (some (201, 0)))], sm_aI (sm_aI (sm_aI (sm_aI (sm_aI S_ 199 0 k_.toNat vx12_) 200 0 k_.toNat vx19_) 202 0 (vx12_ / 2).toNat 1) 202 0 (vx19_ / 2).toNat 1) 201 0 (vx12_ / 2).toNat ((S_.2.2.1 201 0 (vx12_ / 2).toNat) + 1))) rfl ?_
              refine sm_T_bin (w := ((sm_aI (sm_aI (sm_aI (sm_aI (sm_aI S_ 199 0 k_.toNat vx12_) 200 0 k_.toNat vx19_) 202 0 (vx12_ / 2).toNat 1) 202 0 (vx19_ / 2).toNat 1) 201 0 (vx12_ / 2).toNat ((S_.2.2.1 201 0 (vx12_ / 2).toNat) + 1)).2.2.1 201 0 (vx19_ / 2).toNat) + 1) rfl (bi_add (by omega) (by (first | omega | ((try simp only [rd_eq, rd_ne, rf_eq, rf_nk, rf_nt, rd_fa, rd_af, rd_fl, rd_al, rd_lf, rd_la, rd_leq, rd_lne, rd_fr, rd_ar, ne_eq, Nat.reduceEqDiff, not_false_eq_true]); split <;> omega))) (by (first | omega | ((try simp only [rd_eq, rd_ne, rf_eq, rf_nk, rf_nt, rd_fa, rd_af, rd_fl, rd_al, rd_lf, rd_la, rd_leq, rd_lne, rd_fr, rd_ar, ne_eq, Nat.reduceEqDiff, not_false_eq_true]); split <;> omega)))) ?_ -- pc_ 267
              refine sm_T_iast (n := 2048) rfl rfl (by (first | omega | ((try simp only [rd_eq, rd_ne, rf_eq, rf_nk, rf_nt, rd_fa, rd_af, rd_fl, rd_al, rd_lf, rd_la, rd_leq, rd_lne, rd_fr, rd_ar, ne_eq, Nat.reduceEqDiff, not_false_eq_true]); split <;> omega))) (by (first | omega | ((try simp only [rd_eq, rd_ne, rf_eq, rf_nk, rf_nt, rd_fa, rd_af, rd_fl, rd_al, rd_lf, rd_la, rd_leq, rd_lne, rd_fr, rd_ar, ne_eq, Nat.reduceEqDiff, not_false_eq_true]); split <;> omega))) ?_
              have hIx49_ : gi (sm_aI (sm_aI (sm_aI (sm_aI (sm_aI (sm_aI S_ 199 0 k_.toNat vx12_) 200 0 k_.toNat vx19_) 202 0 (vx12_ / 2).toNat 1) 202 0 (vx19_ / 2).toNat 1) 201 0 (vx12_ / 2).toNat ((S_.2.2.1 201 0 (vx12_ / 2).toNat) + 1)) 201 0 (vx19_ / 2).toNat (((sm_aI (sm_aI (sm_aI (sm_aI (sm_aI S_ 199 0 k_.toNat vx12_) 200 0 k_.toNat vx19_) 202 0 (vx12_ / 2).toNat 1) 202 0 (vx19_ / 2).toNat 1) 201 0 (vx12_ / 2).toNat ((S_.2.2.1 201 0 (vx12_ / 2).toNat) + 1)).2.2.1 201 0 (vx19_ / 2).toNat) + 1)) := gi_aI hIx46_ (show (-2147483648) ≤ ((sm_aI (sm_aI (sm_aI (sm_aI (sm_aI S_ 199 0 k_.toNat vx12_) 200 0 k_.toNat vx19_) 202 0 (vx12_ / 2).toNat 1) 202 0 (vx19_ / 2).toNat 1) 201 0 (vx12_ / 2).toNat ((S_.2.2.1 201 0 (vx12_ / 2).toNat) + 1)).2.2.1 201 0 (vx19_ / 2).toNat) + 1 ∧ ((sm_aI (sm_aI (sm_aI (sm_aI (sm_aI S_ 199 0 k_.toNat vx12_) 200 0 k_.toNat vx19_) 202 0 (vx12_ / 2).toNat 1) 202 0 (vx19_ / 2).toNat 1) 201 0 (vx12_ / 2).toNat ((S_.2.2.1 201 0 (vx12_ / 2).toNat) + 1)).2.2.1 201 0 (vx19_ / 2).toNat) + 1 ≤ 2147483647 from ⟨by (first | omega | ((try simp only [rd_eq, rd_ne, rf_eq, rf_nk, rf_nt, rd_fa, rd_af, rd_fl, rd_al, rd_lf, rd_la, rd_leq, rd_lne, rd_fr, rd_ar, ne_eq, Nat.reduceEqDiff, not_false_eq_true]); split <;> omega)), by (first | omega | ((try simp only [rd_eq, rd_ne, rf_eq, rf_nk, rf_nt, rd_fa, rd_af, rd_fl, rd_al, rd_lf, rd_la, rd_leq, rd_lne, rd_fr, rd_ar, ne_eq, Nat.reduceEqDiff, not_false_eq_true]); split <;> omega))⟩)
              have hFx50_ : ai_fr (sx_W vw_394n) S0_ (sm_aI (sm_aI (sm_aI (sm_aI (sm_aI (sm_aI S_ 199 0 k_.toNat vx12_) 200 0 k_.toNat vx19_) 202 0 (vx12_ / 2).toNat 1) 202 0 (vx19_ / 2).toNat 1) 201 0 (vx12_ / 2).toNat ((S_.2.2.1 201 0 (vx12_ / 2).toNat) + 1)) 201 0 (vx19_ / 2).toNat (((sm_aI (sm_aI (sm_aI (sm_aI (sm_aI S_ 199 0 k_.toNat vx12_) 200 0 k_.toNat vx19_) 202 0 (vx12_ / 2).toNat 1) 202 0 (vx19_ / 2).toNat 1) 201 0 (vx12_ / 2).toNat ((S_.2.2.1 201 0 (vx12_ / 2).toNat) + 1)).2.2.1 201 0 (vx19_ / 2).toNat) + 1)) := ai_fr_tr hFx47_ (ai_fr_aI rfl)
              refine sm_T_inc (a := 2) (z := (-1)) (v := k_) (w := k_ - 1) rfl rfl (by omega) (by omega) (by omega) ?_ -- pc_ 269
              refine sm_T_go 1 (c1 := (126, [some (.inr (.inr (some (13, 0)))), some (.inl n_), some (.inl (k_ - 1)), some (.inl vx12_), some (.inl vx19_)], [], sm_aI (sm_aI (sm_aI (sm_aI (sm_aI (sm_aI S_ 199 0 k_.toNat vx12_) 200 0 k_.toNat vx19_) 202 0 (vx12_ / 2).toNat 1) 202 0 (vx19_ / 2).toNat 1) 201 0 (vx12_ / 2).toNat ((S_.2.2.1 201 0 (vx12_ / 2).toNat) + 1)) 201 0 (vx19_ / 2).toNat (((sm_aI (sm_aI (sm_aI (sm_aI (sm_aI S_ 199 0 k_.toNat vx12_) 200 0 k_.toNat vx19_) 202 0 (vx12_ / 2).toNat 1) 202 0 (vx19_ / 2).toNat 1) 201 0 (vx12_ / 2).toNat ((S_.2.2.1 201 0 (vx12_ / 2).toNat) + 1)).2.2.1 201 0 (vx19_ / 2).toNat) + 1))) rfl ?_
              refine sm_T_wk [some (.inr (.inr (some (13, 0)))), some (.inl n_), some (.inl (k_ - 1)), none, none] (by exact ⟨rfl, rfl, rfl, trivial⟩) ?_
              refine ih_.2.2.2.1 n_ (k_ - 1) (sm_aI (sm_aI (sm_aI (sm_aI (sm_aI (sm_aI S_ 199 0 k_.toNat vx12_) 200 0 k_.toNat vx19_) 202 0 (vx12_ / 2).toNat 1) 202 0 (vx19_ / 2).toNat 1) 201 0 (vx12_ / 2).toNat ((S_.2.2.1 201 0 (vx12_ / 2).toNat) + 1)) 201 0 (vx19_ / 2).toNat (((sm_aI (sm_aI (sm_aI (sm_aI (sm_aI S_ 199 0 k_.toNat vx12_) 200 0 k_.toNat vx19_) 202 0 (vx12_ / 2).toNat 1) 202 0 (vx19_ / 2).toNat 1) 201 0 (vx12_ / 2).toNat ((S_.2.2.1 201 0 (vx12_ / 2).toNat) + 1)).2.2.1 201 0 (vx19_ / 2).toNat) + 1)) hIx49_ hFx50_ ⟨?_, ?_, ?_, ?_, ?_, ?_, ?_, ?_, trivial⟩ ?_
              · intro q9_ hq9_
                have w9_ := hu_ q9_ hq9_
                have fn9_ : (ndf F_.toNat N_.toNat ((S0_.2.2.1 156 0 d_.toNat).toNat + (S0_.2.2.1 155 0 d_.toNat).toNat) (fun m_ => S0_.2.2.1 166 0 (2048 * d_.toNat + m_)) (fun m_ => S0_.2.2.1 164 0 (2048 * d_.toNat + m_)) (fun m_ => S0_.2.2.1 165 0 (2048 * d_.toNat + m_)) (rto (S0_.2.2.1 156 0 d_.toNat).toNat (fun k_ => S0_.2.2.1 167 0 (16 * d_.toNat + k_)) (fun k_ => S0_.2.2.1 168 0 (6 * d_.toNat + k_)))) k_.toNat = (ndk N_.toNat (fun m_ => S0_.2.2.1 166 0 (2048 * d_.toNat + m_)) (fun m_ => S0_.2.2.1 164 0 (2048 * d_.toNat + m_)) (fun m_ => S0_.2.2.1 165 0 (2048 * d_.toNat + m_)) (nd0 (fun m_ => S0_.2.2.1 166 0 (2048 * d_.toNat + m_)) (rto (S0_.2.2.1 156 0 d_.toNat).toNat (fun k_ => S0_.2.2.1 167 0 (16 * d_.toNat + k_)) (fun k_ => S0_.2.2.1 168 0 (6 * d_.toNat + k_))) ((S0_.2.2.1 156 0 d_.toNat).toNat + (S0_.2.2.1 155 0 d_.toNat).toNat)) (N_ - 1 - k_).toNat).1 k_.toNat := ndk_fn (glo_k hd_) (sfb_k hd_) ((k_ + 1 - F_).toNat) _ _ (by omega) (by omega)
                have wk9_ := hw_ k_.toNat (by omega)
                have e9_ : ∀ x9_ : Int, x9_ = k_ - 1 → (x9_ + 1).toNat = k_.toNat ∧ (N_ - 1 - x9_).toNat = (N_ - 1 - k_).toNat + 1 := fun x9_ y9_ => by omega
                have pc9_ := psm_c (g_ := (pgn (fun m_ => S0_.2.2.1 166 0 (2048 * d_.toNat + m_)) (fun m_ => S0_.2.2.1 164 0 (2048 * d_.toNat + m_)) (fun m_ => S0_.2.2.1 165 0 (2048 * d_.toNat + m_)) (ndf F_.toNat N_.toNat ((S0_.2.2.1 156 0 d_.toNat).toNat + (S0_.2.2.1 155 0 d_.toNat).toNat) (fun m_ => S0_.2.2.1 166 0 (2048 * d_.toNat + m_)) (fun m_ => S0_.2.2.1 164 0 (2048 * d_.toNat + m_)) (fun m_ => S0_.2.2.1 165 0 (2048 * d_.toNat + m_)) (rto (S0_.2.2.1 156 0 d_.toNat).toNat (fun k_ => S0_.2.2.1 167 0 (16 * d_.toNat + k_)) (fun k_ => S0_.2.2.1 168 0 (6 * d_.toNat + k_)))) q9_)) (a_ := k_.toNat) (N_ - 1 - k_).toNat
                rw [(e9_ _ (by omega)).1, (e9_ _ (by omega)).2, pc9_, show k_.toNat + 1 = (k_ + 1).toNat by omega]
                have ia9_ : (nod d_ S_ (S_.2.2.1 164 0 (2048 * d_ + k_).toNat)).toNat = nsw (fun m_ => S0_.2.2.1 166 0 (2048 * d_.toNat + m_)) (S0_.2.2.1 164 0 (2048 * d_.toNat + k_.toNat)) := by (rw [n9_, nod_n (by omega) (by omega), f164_]; exact congrArg (fun x_ => nsw (fun m_ => S0_.2.2.1 166 0 (2048 * d_.toNat + m_)) (S0_.2.2.1 164 0 x_)) (by omega))
                have ib9_ : (nod d_ S_ (S_.2.2.1 165 0 (2048 * d_ + k_).toNat)).toNat = nsw (fun m_ => S0_.2.2.1 166 0 (2048 * d_.toNat + m_)) (S0_.2.2.1 165 0 (2048 * d_.toNat + k_.toNat)) := by (rw [n9_, nod_n (by omega) (by omega), f165_]; exact congrArg (fun x_ => nsw (fun m_ => S0_.2.2.1 166 0 (2048 * d_.toNat + m_)) (S0_.2.2.1 165 0 x_)) (by omega))
                have g9_ : pgn (fun m_ => S0_.2.2.1 166 0 (2048 * d_.toNat + m_)) (fun m_ => S0_.2.2.1 164 0 (2048 * d_.toNat + m_)) (fun m_ => S0_.2.2.1 165 0 (2048 * d_.toNat + m_)) (ndf F_.toNat N_.toNat ((S0_.2.2.1 156 0 d_.toNat).toNat + (S0_.2.2.1 155 0 d_.toNat).toNat) (fun m_ => S0_.2.2.1 166 0 (2048 * d_.toNat + m_)) (fun m_ => S0_.2.2.1 164 0 (2048 * d_.toNat + m_)) (fun m_ => S0_.2.2.1 165 0 (2048 * d_.toNat + m_)) (rto (S0_.2.2.1 156 0 d_.toNat).toNat (fun k_ => S0_.2.2.1 167 0 (16 * d_.toNat + k_)) (fun k_ => S0_.2.2.1 168 0 (6 * d_.toNat + k_)))) q9_ k_.toNat = (if q9_ = nsw (fun m_ => S0_.2.2.1 166 0 (2048 * d_.toNat + m_)) (S0_.2.2.1 164 0 (2048 * d_.toNat + k_.toNat)) then 1 else 0) + (if q9_ = nsw (fun m_ => S0_.2.2.1 166 0 (2048 * d_.toNat + m_)) (S0_.2.2.1 165 0 (2048 * d_.toNat + k_.toNat)) then 1 else 0) := by (unfold pgn; rw [if_pos (by (rw [fn9_]; exact wk9_.mp (by omega)))])
                rw [g9_]
                (try simp only [rd_eq, rd_ne, rf_eq, rf_nk, rf_nt, rd_fa, rd_af, rd_fl, rd_al, rd_lf, rd_la, rd_leq, rd_lne, rd_fr, rd_ar, ne_eq, Nat.reduceEqDiff, not_false_eq_true])
                rw [a164_, a184_, ia9_, ib9_]
                refine (inc2 w9_).trans ?_
                exact congrArg (fun x_ : Nat => (x_ : Int)) (by omega)
              · have fn9_ : (ndf F_.toNat N_.toNat ((S0_.2.2.1 156 0 d_.toNat).toNat + (S0_.2.2.1 155 0 d_.toNat).toNat) (fun m_ => S0_.2.2.1 166 0 (2048 * d_.toNat + m_)) (fun m_ => S0_.2.2.1 164 0 (2048 * d_.toNat + m_)) (fun m_ => S0_.2.2.1 165 0 (2048 * d_.toNat + m_)) (rto (S0_.2.2.1 156 0 d_.toNat).toNat (fun k_ => S0_.2.2.1 167 0 (16 * d_.toNat + k_)) (fun k_ => S0_.2.2.1 168 0 (6 * d_.toNat + k_)))) k_.toNat = (ndk N_.toNat (fun m_ => S0_.2.2.1 166 0 (2048 * d_.toNat + m_)) (fun m_ => S0_.2.2.1 164 0 (2048 * d_.toNat + m_)) (fun m_ => S0_.2.2.1 165 0 (2048 * d_.toNat + m_)) (nd0 (fun m_ => S0_.2.2.1 166 0 (2048 * d_.toNat + m_)) (rto (S0_.2.2.1 156 0 d_.toNat).toNat (fun k_ => S0_.2.2.1 167 0 (16 * d_.toNat + k_)) (fun k_ => S0_.2.2.1 168 0 (6 * d_.toNat + k_))) ((S0_.2.2.1 156 0 d_.toNat).toNat + (S0_.2.2.1 155 0 d_.toNat).toNat)) (N_ - 1 - k_).toNat).1 k_.toNat := ndk_fn (glo_k hd_) (sfb_k hd_) ((k_ + 1 - F_).toNat) _ _ (by omega) (by omega)
                have wk9_ := hw_ k_.toNat (by omega)
                have e9_ : ∀ x9_ : Int, x9_ = k_ - 1 → (x9_ + 1).toNat = k_.toNat ∧ (N_ - 1 - x9_).toNat = (N_ - 1 - k_).toNat + 1 := fun x9_ y9_ => by omega
                have ia9_ : (nod d_ S_ (S_.2.2.1 164 0 (2048 * d_ + k_).toNat)).toNat = nsw (fun m_ => S0_.2.2.1 166 0 (2048 * d_.toNat + m_)) (S0_.2.2.1 164 0 (2048 * d_.toNat + k_.toNat)) := by (rw [n9_, nod_n (by omega) (by omega), f164_]; exact congrArg (fun x_ => nsw (fun m_ => S0_.2.2.1 166 0 (2048 * d_.toNat + m_)) (S0_.2.2.1 164 0 x_)) (by omega))
                have ib9_ : (nod d_ S_ (S_.2.2.1 165 0 (2048 * d_ + k_).toNat)).toNat = nsw (fun m_ => S0_.2.2.1 166 0 (2048 * d_.toNat + m_)) (S0_.2.2.1 165 0 (2048 * d_.toNat + k_.toNat)) := by (rw [n9_, nod_n (by omega) (by omega), f165_]; exact congrArg (fun x_ => nsw (fun m_ => S0_.2.2.1 166 0 (2048 * d_.toNat + m_)) (S0_.2.2.1 165 0 x_)) (by omega))
                rw [(e9_ _ (by omega)).2]
                refine ndw_y (n_ := k_.toNat) hw_ (by omega) (by omega) (by omega) (fun q9_ => ?_)
                (try simp only [rd_eq, rd_ne, rf_eq, rf_nk, rf_nt, rd_fa, rd_af, rd_fl, rd_al, rd_lf, rd_la, rd_leq, rd_lne, rd_fr, rd_ar, ne_eq, Nat.reduceEqDiff, not_false_eq_true])
                rw [a164_, a184_, ia9_, ib9_]
              · intro q9_ hq9_
                have w9_ := hv_ q9_ hq9_
                (try simp only [rd_eq, rd_ne, rf_eq, rf_nk, rf_nt, rd_fa, rd_af, rd_fl, rd_al, rd_lf, rd_la, rd_leq, rd_lne, rd_fr, rd_ar, ne_eq, Nat.reduceEqDiff, not_false_eq_true])
                exact w9_
              · intro j9_ u0_ u1_ u2_ u3_
                by_cases z9_ : j9_ = k_
                · subst z9_
                  unfold sdv
                  rw [← sa9_, ← sb9_]
                  (try simp only [rd_eq, rd_ne, rf_eq, rf_nk, rf_nt, rd_fa, rd_af, rd_fl, rd_al, rd_lf, rd_la, rd_leq, rd_lne, rd_fr, rd_ar, ne_eq, Nat.reduceEqDiff, not_false_eq_true])
                  (try simp only [if_true])
                  refine ⟨?_, ?_⟩ <;> (split <;> omega)
                · have u4_ : S_.2.2.1 202 0 j9_.toNat = 1 := by
                    (try simp only [rd_eq, rd_ne, rf_eq, rf_nk, rf_nt, rd_fa, rd_af, rd_fl, rd_al, rd_lf, rd_la, rd_leq, rd_lne, rd_fr, rd_ar, ne_eq, Nat.reduceEqDiff, not_false_eq_true] at *)
                    rw [a164_, a184_] at u3_
                    rw [if_neg (by omega), if_neg (by omega)] at u3_
                    exact u3_
                  have w9_ := hsd_ j9_ (by omega) u1_ u2_ u4_
                  (try simp only [rd_eq, rd_ne, rf_eq, rf_nk, rf_nt, rd_fa, rd_af, rd_fl, rd_al, rd_lf, rd_la, rd_leq, rd_lne, rd_fr, rd_ar, ne_eq, Nat.reduceEqDiff, not_false_eq_true])
                  rw [if_neg (by omega), if_neg (by omega)]
                  exact w9_
              · omega
              · have s2_ : ∀ j9_, S_.2.2.1 202 0 j9_ = 1 → ((sm_aI (sm_aI (sm_aI (sm_aI (sm_aI (sm_aI S_ 199 0 k_.toNat vx12_) 200 0 k_.toNat vx19_) 202 0 (vx12_ / 2).toNat 1) 202 0 (vx19_ / 2).toNat 1) 201 0 (vx12_ / 2).toNat ((S_.2.2.1 201 0 (vx12_ / 2).toNat) + 1)) 201 0 (vx19_ / 2).toNat (((sm_aI (sm_aI (sm_aI (sm_aI (sm_aI S_ 199 0 k_.toNat vx12_) 200 0 k_.toNat vx19_) 202 0 (vx12_ / 2).toNat 1) 202 0 (vx19_ / 2).toNat 1) 201 0 (vx12_ / 2).toNat ((S_.2.2.1 201 0 (vx12_ / 2).toNat) + 1)).2.2.1 201 0 (vx19_ / 2).toNat) + 1))).2.2.1 202 0 j9_ = 1 := fun j9_ u9_ => by ((try simp only [rd_eq, rd_ne, rf_eq, rf_nk, rf_nt, rd_fa, rd_af, rd_fl, rd_al, rd_lf, rd_la, rd_leq, rd_lne, rd_fr, rd_ar, ne_eq, Nat.reduceEqDiff, not_false_eq_true]); split; rfl; (split; rfl; exact u9_))
                have s3_ : ((sm_aI (sm_aI (sm_aI (sm_aI (sm_aI (sm_aI S_ 199 0 k_.toNat vx12_) 200 0 k_.toNat vx19_) 202 0 (vx12_ / 2).toNat 1) 202 0 (vx19_ / 2).toNat 1) 201 0 (vx12_ / 2).toNat ((S_.2.2.1 201 0 (vx12_ / 2).toNat) + 1)) 201 0 (vx19_ / 2).toNat (((sm_aI (sm_aI (sm_aI (sm_aI (sm_aI S_ 199 0 k_.toNat vx12_) 200 0 k_.toNat vx19_) 202 0 (vx12_ / 2).toNat 1) 202 0 (vx19_ / 2).toNat 1) 201 0 (vx12_ / 2).toNat ((S_.2.2.1 201 0 (vx12_ / 2).toNat) + 1)).2.2.1 201 0 (vx19_ / 2).toNat) + 1))).2.2.1 203 0 = S_.2.2.1 203 0 := by (funext j9_; (try simp only [rd_eq, rd_ne, rf_eq, rf_nk, rf_nt, rd_fa, rd_af, rd_fl, rd_al, rd_lf, rd_la, rd_leq, rd_lne, rd_fr, rd_ar, ne_eq, Nat.reduceEqDiff, not_false_eq_true]))
                have s6_ : ((sm_aI (sm_aI (sm_aI (sm_aI (sm_aI (sm_aI S_ 199 0 k_.toNat vx12_) 200 0 k_.toNat vx19_) 202 0 (vx12_ / 2).toNat 1) 202 0 (vx19_ / 2).toNat 1) 201 0 (vx12_ / 2).toNat ((S_.2.2.1 201 0 (vx12_ / 2).toNat) + 1)) 201 0 (vx19_ / 2).toNat (((sm_aI (sm_aI (sm_aI (sm_aI (sm_aI S_ 199 0 k_.toNat vx12_) 200 0 k_.toNat vx19_) 202 0 (vx12_ / 2).toNat 1) 202 0 (vx19_ / 2).toNat 1) 201 0 (vx12_ / 2).toNat ((S_.2.2.1 201 0 (vx12_ / 2).toNat) + 1)).2.2.1 201 0 (vx19_ / 2).toNat) + 1))).2.2.1 166 0 = S_.2.2.1 166 0 := by (funext j9_; (try simp only [rd_eq, rd_ne, rf_eq, rf_nk, rf_nt, rd_fa, rd_af, rd_fl, rd_al, rd_lf, rd_la, rd_leq, rd_lne, rd_fr, rd_ar, ne_eq, Nat.reduceEqDiff, not_false_eq_true]))
                intro k9_ u0_ u1_ u2_
                rw [s6_]
                (try simp only [rd_eq, rd_ne, rf_eq, rf_nk, rf_nt, rd_fa, rd_af, rd_fl, rd_al, rd_lf, rd_la, rd_leq, rd_lne, rd_fr, rd_ar, ne_eq, Nat.reduceEqDiff, not_false_eq_true] at *)
                rw [a164_, a184_] at u2_
                by_cases z9_ : k9_.toNat = (nod d_ S_ (S_.2.2.1 165 0 (2048 * d_ + k_).toNat)).toNat
                · rw [show k9_ = nod d_ S_ (S_.2.2.1 165 0 (2048 * d_ + k_).toNat) by omega]; exact q2_.2.2.1
                · rw [if_neg z9_] at u2_
                  by_cases y9_ : k9_.toNat = (nod d_ S_ (S_.2.2.1 164 0 (2048 * d_ + k_).toNat)).toNat
                  · rw [show k9_ = nod d_ S_ (S_.2.2.1 164 0 (2048 * d_ + k_).toNat) by omega]; exact q1_.2.2.1
                  · rw [if_neg y9_] at u2_; exact hg_ k9_ u0_ u1_ u2_
              · have s2_ : ∀ j9_, S_.2.2.1 202 0 j9_ = 1 → ((sm_aI (sm_aI (sm_aI (sm_aI (sm_aI (sm_aI S_ 199 0 k_.toNat vx12_) 200 0 k_.toNat vx19_) 202 0 (vx12_ / 2).toNat 1) 202 0 (vx19_ / 2).toNat 1) 201 0 (vx12_ / 2).toNat ((S_.2.2.1 201 0 (vx12_ / 2).toNat) + 1)) 201 0 (vx19_ / 2).toNat (((sm_aI (sm_aI (sm_aI (sm_aI (sm_aI S_ 199 0 k_.toNat vx12_) 200 0 k_.toNat vx19_) 202 0 (vx12_ / 2).toNat 1) 202 0 (vx19_ / 2).toNat 1) 201 0 (vx12_ / 2).toNat ((S_.2.2.1 201 0 (vx12_ / 2).toNat) + 1)).2.2.1 201 0 (vx19_ / 2).toNat) + 1))).2.2.1 202 0 j9_ = 1 := fun j9_ u9_ => by ((try simp only [rd_eq, rd_ne, rf_eq, rf_nk, rf_nt, rd_fa, rd_af, rd_fl, rd_al, rd_lf, rd_la, rd_leq, rd_lne, rd_fr, rd_ar, ne_eq, Nat.reduceEqDiff, not_false_eq_true]); split; rfl; (split; rfl; exact u9_))
                have s3_ : ((sm_aI (sm_aI (sm_aI (sm_aI (sm_aI (sm_aI S_ 199 0 k_.toNat vx12_) 200 0 k_.toNat vx19_) 202 0 (vx12_ / 2).toNat 1) 202 0 (vx19_ / 2).toNat 1) 201 0 (vx12_ / 2).toNat ((S_.2.2.1 201 0 (vx12_ / 2).toNat) + 1)) 201 0 (vx19_ / 2).toNat (((sm_aI (sm_aI (sm_aI (sm_aI (sm_aI S_ 199 0 k_.toNat vx12_) 200 0 k_.toNat vx19_) 202 0 (vx12_ / 2).toNat 1) 202 0 (vx19_ / 2).toNat 1) 201 0 (vx12_ / 2).toNat ((S_.2.2.1 201 0 (vx12_ / 2).toNat) + 1)).2.2.1 201 0 (vx19_ / 2).toNat) + 1))).2.2.1 203 0 = S_.2.2.1 203 0 := by (funext j9_; (try simp only [rd_eq, rd_ne, rf_eq, rf_nk, rf_nt, rd_fa, rd_af, rd_fl, rd_al, rd_lf, rd_la, rd_leq, rd_lne, rd_fr, rd_ar, ne_eq, Nat.reduceEqDiff, not_false_eq_true]))
                have s6_ : ((sm_aI (sm_aI (sm_aI (sm_aI (sm_aI (sm_aI S_ 199 0 k_.toNat vx12_) 200 0 k_.toNat vx19_) 202 0 (vx12_ / 2).toNat 1) 202 0 (vx19_ / 2).toNat 1) 201 0 (vx12_ / 2).toNat ((S_.2.2.1 201 0 (vx12_ / 2).toNat) + 1)) 201 0 (vx19_ / 2).toNat (((sm_aI (sm_aI (sm_aI (sm_aI (sm_aI S_ 199 0 k_.toNat vx12_) 200 0 k_.toNat vx19_) 202 0 (vx12_ / 2).toNat 1) 202 0 (vx19_ / 2).toNat 1) 201 0 (vx12_ / 2).toNat ((S_.2.2.1 201 0 (vx12_ / 2).toNat) + 1)).2.2.1 201 0 (vx19_ / 2).toNat) + 1))).2.2.1 166 0 = S_.2.2.1 166 0 := by (funext j9_; (try simp only [rd_eq, rd_ne, rf_eq, rf_nk, rf_nt, rd_fa, rd_af, rd_fl, rd_al, rd_lf, rd_la, rd_leq, rd_lne, rd_fr, rd_ar, ne_eq, Nat.reduceEqDiff, not_false_eq_true]))
                exact rtd_mo hr_ s6_ (by (funext j9_; (try simp only [rd_eq, rd_ne, rf_eq, rf_nk, rf_nt, rd_fa, rd_af, rd_fl, rd_al, rd_lf, rd_la, rd_leq, rd_lne, rd_fr, rd_ar, ne_eq, Nat.reduceEqDiff, not_false_eq_true]))) (by (funext j9_; (try simp only [rd_eq, rd_ne, rf_eq, rf_nk, rf_nt, rd_fa, rd_af, rd_fl, rd_al, rd_lf, rd_la, rd_leq, rd_lne, rd_fr, rd_ar, ne_eq, Nat.reduceEqDiff, not_false_eq_true]))) s2_ (fun j9_ u9_ => by (rw [s3_]; exact u9_))
              · have s2_ : ∀ j9_, S_.2.2.1 202 0 j9_ = 1 → ((sm_aI (sm_aI (sm_aI (sm_aI (sm_aI (sm_aI S_ 199 0 k_.toNat vx12_) 200 0 k_.toNat vx19_) 202 0 (vx12_ / 2).toNat 1) 202 0 (vx19_ / 2).toNat 1) 201 0 (vx12_ / 2).toNat ((S_.2.2.1 201 0 (vx12_ / 2).toNat) + 1)) 201 0 (vx19_ / 2).toNat (((sm_aI (sm_aI (sm_aI (sm_aI (sm_aI S_ 199 0 k_.toNat vx12_) 200 0 k_.toNat vx19_) 202 0 (vx12_ / 2).toNat 1) 202 0 (vx19_ / 2).toNat 1) 201 0 (vx12_ / 2).toNat ((S_.2.2.1 201 0 (vx12_ / 2).toNat) + 1)).2.2.1 201 0 (vx19_ / 2).toNat) + 1))).2.2.1 202 0 j9_ = 1 := fun j9_ u9_ => by ((try simp only [rd_eq, rd_ne, rf_eq, rf_nk, rf_nt, rd_fa, rd_af, rd_fl, rd_al, rd_lf, rd_la, rd_leq, rd_lne, rd_fr, rd_ar, ne_eq, Nat.reduceEqDiff, not_false_eq_true]); split; rfl; (split; rfl; exact u9_))
                have s3_ : ((sm_aI (sm_aI (sm_aI (sm_aI (sm_aI (sm_aI S_ 199 0 k_.toNat vx12_) 200 0 k_.toNat vx19_) 202 0 (vx12_ / 2).toNat 1) 202 0 (vx19_ / 2).toNat 1) 201 0 (vx12_ / 2).toNat ((S_.2.2.1 201 0 (vx12_ / 2).toNat) + 1)) 201 0 (vx19_ / 2).toNat (((sm_aI (sm_aI (sm_aI (sm_aI (sm_aI S_ 199 0 k_.toNat vx12_) 200 0 k_.toNat vx19_) 202 0 (vx12_ / 2).toNat 1) 202 0 (vx19_ / 2).toNat 1) 201 0 (vx12_ / 2).toNat ((S_.2.2.1 201 0 (vx12_ / 2).toNat) + 1)).2.2.1 201 0 (vx19_ / 2).toNat) + 1))).2.2.1 203 0 = S_.2.2.1 203 0 := by (funext j9_; (try simp only [rd_eq, rd_ne, rf_eq, rf_nk, rf_nt, rd_fa, rd_af, rd_fl, rd_al, rd_lf, rd_la, rd_leq, rd_lne, rd_fr, rd_ar, ne_eq, Nat.reduceEqDiff, not_false_eq_true]))
                have s6_ : ((sm_aI (sm_aI (sm_aI (sm_aI (sm_aI (sm_aI S_ 199 0 k_.toNat vx12_) 200 0 k_.toNat vx19_) 202 0 (vx12_ / 2).toNat 1) 202 0 (vx19_ / 2).toNat 1) 201 0 (vx12_ / 2).toNat ((S_.2.2.1 201 0 (vx12_ / 2).toNat) + 1)) 201 0 (vx19_ / 2).toNat (((sm_aI (sm_aI (sm_aI (sm_aI (sm_aI S_ 199 0 k_.toNat vx12_) 200 0 k_.toNat vx19_) 202 0 (vx12_ / 2).toNat 1) 202 0 (vx19_ / 2).toNat 1) 201 0 (vx12_ / 2).toNat ((S_.2.2.1 201 0 (vx12_ / 2).toNat) + 1)).2.2.1 201 0 (vx19_ / 2).toNat) + 1))).2.2.1 166 0 = S_.2.2.1 166 0 := by (funext j9_; (try simp only [rd_eq, rd_ne, rf_eq, rf_nk, rf_nt, rd_fa, rd_af, rd_fl, rd_al, rd_lf, rd_la, rd_leq, rd_lne, rd_fr, rd_ar, ne_eq, Nat.reduceEqDiff, not_false_eq_true]))
                intro j9_ u0_ u1_ u2_ u3_
                by_cases z9_ : j9_ = k_
                · subst z9_
                  unfold lgp
                  (try simp only [rd_eq, rd_ne, rf_eq, rf_nk, rf_nt, rd_fa, rd_af, rd_fl, rd_al, rd_lf, rd_la, rd_leq, rd_lne, rd_fr, rd_ar, ne_eq, Nat.reduceEqDiff, not_false_eq_true])
                  rw [a164_, a184_]
                  first | (rw [if_pos rfl, if_pos rfl]) | skip
                  simp only [if_true]
                  refine ⟨⟨by omega, by omega, ?_⟩, by omega, by omega, ?_⟩ <;> (first | (rw [a164_]) | (rw [a184_]) | skip) <;> (split; rfl; (split; rfl; (exfalso; omega)))
                · have u4_ : S_.2.2.1 202 0 j9_.toNat = 1 := by
                    (try simp only [rd_eq, rd_ne, rf_eq, rf_nk, rf_nt, rd_fa, rd_af, rd_fl, rd_al, rd_lf, rd_la, rd_leq, rd_lne, rd_fr, rd_ar, ne_eq, Nat.reduceEqDiff, not_false_eq_true] at *)
                    rw [a164_, a184_] at u3_
                    rw [if_neg (by omega), if_neg (by omega)] at u3_
                    exact u3_
                  exact lgp_mo (hl_ j9_ (by omega) u1_ u2_ u4_) (by ((try simp only [rd_eq, rd_ne, rf_eq, rf_nk, rf_nt, rd_fa, rd_af, rd_fl, rd_al, rd_lf, rd_la, rd_leq, rd_lne, rd_fr, rd_ar, ne_eq, Nat.reduceEqDiff, not_false_eq_true]); rw [if_neg (by omega)])) (by ((try simp only [rd_eq, rd_ne, rf_eq, rf_nk, rf_nt, rd_fa, rd_af, rd_fl, rd_al, rd_lf, rd_la, rd_leq, rd_lne, rd_fr, rd_ar, ne_eq, Nat.reduceEqDiff, not_false_eq_true]); rw [if_neg (by omega)])) s2_
              · omega
    · rintro n_ k_ S_ hI_ hF_ ⟨hu_, hw_, hv_, hsd_, h0_, hr_, hl_, -⟩ hm_
      have d9_ := dmp_fr hd_ hF_
      have d1_ := d9_.1
      have n9_ : nod d_ S_ = nod d_ S0_ := nod_fr hF_
      have f154_ : S_.2.2.1 154 0 = S0_.2.2.1 154 0 := fr_arr hF_ rfl
      have f155_ : S_.2.2.1 155 0 = S0_.2.2.1 155 0 := fr_arr hF_ rfl
      have f156_ : S_.2.2.1 156 0 = S0_.2.2.1 156 0 := fr_arr hF_ rfl
      have f159_ : S_.2.2.1 159 0 = S0_.2.2.1 159 0 := fr_arr hF_ rfl
      have f160_ : S_.2.2.1 160 0 = S0_.2.2.1 160 0 := fr_arr hF_ rfl
      have f164_ : S_.2.2.1 164 0 = S0_.2.2.1 164 0 := fr_arr hF_ rfl
      have f165_ : S_.2.2.1 165 0 = S0_.2.2.1 165 0 := fr_arr hF_ rfl
      have f166_ : S_.2.2.1 166 0 = S0_.2.2.1 166 0 := fr_arr hF_ rfl
      have f167_ : S_.2.2.1 167 0 = S0_.2.2.1 167 0 := fr_arr hF_ rfl
      have f168_ : S_.2.2.1 168 0 = S0_.2.2.1 168 0 := fr_arr hF_ rfl
      have c55_ : 0 ≤ S_.2.2.1 155 0 d_.toNat ∧ S_.2.2.1 155 0 d_.toNat ≤ 6 := hI_.2 155 0 _
      have c56_ : 0 ≤ S_.2.2.1 156 0 d_.toNat ∧ S_.2.2.1 156 0 d_.toNat ≤ 16 := hI_.2 156 0 _
      have e155_ : S_.2.2.1 155 0 (S_.1 13 0 105).toNat = S_.2.2.1 155 0 d_.toNat := by rw [d1_.2.2.1]
      have e156_ : S_.2.2.1 156 0 (S_.1 13 0 105).toNat = S_.2.2.1 156 0 d_.toNat := by rw [d1_.2.2.1]
      have e160_ : S_.2.2.1 160 0 (S_.1 13 0 105).toNat = F_ := by (rw [d1_.2.2.1]; exact d1_.2.2.2.1)
      refine sm_T_go 2 (c1 := (287, [some (.inr (.inr (some (13, 0)))), some (.inl n_), some (.inl k_), none, none], [.inl n_, .inl k_], S_)) rfl ?_
      refine sm_T_br (a := 3) (z := 48) rfl (fun cx1_ => ?_) (fun cx1_ => ?_)
      · have cx1_ : n_ ≤ k_ := of_decide_eq_true cx1_
        refine sm_T_rv rfl ⟨_, _, rfl, rfl, hI_, hF_, ?_⟩
        exact ⟨⟨hl_, hr_⟩, fun q9_ hq9_ => by (have w9_ := hv_ q9_ hq9_; rw [if_pos (by omega)] at w9_; exact w9_), hw_, hsd_⟩
      · have cx1_ : ¬ (n_ ≤ k_) := of_decide_eq_false cx1_
        refine sm_T_go 6 (c1 := (300, [some (.inr (.inr (some (13, 0)))), some (.inl n_), some (.inl k_), none, none], [.inl k_, .inr (.inr (some (203, 0))), .inl k_, .inr (.inr (some (203, 0)))], S_)) rfl ?_
        refine sm_T_zald (n := 2048) rfl rfl (by omega) (by omega) ?_
        have bx2_ : 0 ≤ S_.2.2.1 203 0 k_.toNat ∧ S_.2.2.1 203 0 k_.toNat ≤ 1 := hI_.2 203 0 _
        refine sm_T_b0 (a := 1) (z := 22) rfl (fun cx3_ => ?_) (fun cx3_ => ?_)
        · have cx3_ : (S_.2.2.1 203 0 k_.toNat) ≠ 0 := of_decide_eq_true cx3_
          refine sm_T_go 2 (c1 := (328, [some (.inr (.inr (some (13, 0)))), some (.inl n_), some (.inl k_), none, none], [.inl 1, .inl k_, .inr (.inr (some (203, 0)))], S_)) rfl ?_
          refine sm_T_zas1 (n := 2048) rfl rfl (by omega) (by omega) (by omega) ?_
          have hIx4_ : gi (sm_aI S_ 203 0 k_.toNat 1) := gi_aI hI_ (show 0 ≤ 1 ∧ 1 ≤ 1 from ⟨by omega, by omega⟩)
          have hFx5_ : ai_fr (sx_W vw_394n) S0_ (sm_aI S_ 203 0 k_.toNat 1) := ai_fr_tr hF_ (ai_fr_aI rfl)
          refine sm_T_inc (a := 2) (z := 1) (v := k_) (w := k_ + 1) rfl rfl (by omega) (by omega) (by omega) ?_ -- pc_ 329
          refine sm_T_go 1 (c1 := (285, [some (.inr (.inr (some (13, 0)))), some (.inl n_), some (.inl (k_ + 1)), none, none], [], sm_aI S_ 203 0 k_.toNat 1)) rfl ?_
          refine ih_.2.2.2.2 n_ (k_ + 1) (sm_aI S_ 203 0 k_.toNat 1) hIx4_ hFx5_ ⟨?_, ?_, ?_, ?_, ?_, ?_, ?_, trivial⟩ ?_
          · intro q9_ hq9_
            have w9_ := hu_ q9_ hq9_
            (try simp only [rd_eq, rd_ne, rf_eq, rf_nk, rf_nt, rd_fa, rd_af, rd_fl, rd_al, rd_lf, rd_la, rd_leq, rd_lne, rd_fr, rd_ar, ne_eq, Nat.reduceEqDiff, not_false_eq_true])
            exact w9_
          · intro q9_ hq9_
            have w9_ := hw_ q9_ hq9_
            (try simp only [rd_eq, rd_ne, rf_eq, rf_nk, rf_nt, rd_fa, rd_af, rd_fl, rd_al, rd_lf, rd_la, rd_leq, rd_lne, rd_fr, rd_ar, ne_eq, Nat.reduceEqDiff, not_false_eq_true])
            exact w9_
          · intro q9_ hq9_
            have w9_ := hv_ q9_ hq9_
            have wk9_ := hw_ k_.toNat (by omega)
            have wu9_ := hu_ k_.toNat (by omega)
            rw [rd_eq]
            by_cases z9_ : q9_ = k_.toNat
            · subst z9_
              rw [if_pos rfl, if_pos (show ((k_.toNat : Nat) : Int) < k_ + 1 by omega)]
              rw [if_neg (show ¬ ((k_.toNat : Nat) : Int) < k_ by omega)] at w9_
              by_cases x9_ : 0 < rcn (fun m_ => S0_.2.2.1 166 0 (2048 * d_.toNat + m_)) (rto (S0_.2.2.1 156 0 d_.toNat).toNat (fun k_ => S0_.2.2.1 167 0 (16 * d_.toNat + k_)) (fun k_ => S0_.2.2.1 168 0 (6 * d_.toNat + k_))) ((S0_.2.2.1 156 0 d_.toNat).toNat + (S0_.2.2.1 155 0 d_.toNat).toNat) k_.toNat
              · rw [if_pos ⟨by omega, x9_⟩] at w9_; first | (rw [if_pos ⟨by omega, Or.inl x9_⟩]; done) | (exfalso; omega)
              · rw [if_neg (fun z_ => x9_ z_.2)] at w9_; by_cases v9_ : S_.2.2.1 202 0 k_.toNat = 1 ∧ 1 < S_.2.2.1 201 0 k_.toNat
                · first | (rw [if_pos ⟨by omega, Or.inr ⟨wk9_.mp v9_.1, by omega⟩⟩]; done) | (exfalso; omega)
                · first | (rw [if_neg (fun z_ => z_.2.elim x9_ (fun y_ => v9_ ⟨wk9_.mpr y_.1, by (have y8_ := y_.2; omega)⟩))]; done) | (exfalso; omega)
            · rw [if_neg z9_, w9_]; by_cases y9_ : (q9_ : Int) < k_
              · rw [if_pos y9_, if_pos (show (q9_ : Int) < k_ + 1 by omega)]
              · rw [if_neg y9_, if_neg (show ¬ (q9_ : Int) < k_ + 1 by omega)]
          · intro j9_ u1_ u2_ u3_
            have w9_ := hsd_ j9_ u1_ u2_ (by ((try simp only [rd_eq, rd_ne, rf_eq, rf_nk, rf_nt, rd_fa, rd_af, rd_fl, rd_al, rd_lf, rd_la, rd_leq, rd_lne, rd_fr, rd_ar, ne_eq, Nat.reduceEqDiff, not_false_eq_true] at *); exact u3_))
            (try simp only [rd_eq, rd_ne, rf_eq, rf_nk, rf_nt, rd_fa, rd_af, rd_fl, rd_al, rd_lf, rd_la, rd_leq, rd_lne, rd_fr, rd_ar, ne_eq, Nat.reduceEqDiff, not_false_eq_true])
            exact w9_
          · omega
          · exact rtd_mo hr_ (by (funext j9_; (try simp only [rd_eq, rd_ne, rf_eq, rf_nk, rf_nt, rd_fa, rd_af, rd_fl, rd_al, rd_lf, rd_la, rd_leq, rd_lne, rd_fr, rd_ar, ne_eq, Nat.reduceEqDiff, not_false_eq_true]))) (by (funext j9_; (try simp only [rd_eq, rd_ne, rf_eq, rf_nk, rf_nt, rd_fa, rd_af, rd_fl, rd_al, rd_lf, rd_la, rd_leq, rd_lne, rd_fr, rd_ar, ne_eq, Nat.reduceEqDiff, not_false_eq_true]))) (by (funext j9_; (try simp only [rd_eq, rd_ne, rf_eq, rf_nk, rf_nt, rd_fa, rd_af, rd_fl, rd_al, rd_lf, rd_la, rd_leq, rd_lne, rd_fr, rd_ar, ne_eq, Nat.reduceEqDiff, not_false_eq_true]))) (fun j9_ u9_ => by ((try simp only [rd_eq, rd_ne, rf_eq, rf_nk, rf_nt, rd_fa, rd_af, rd_fl, rd_al, rd_lf, rd_la, rd_leq, rd_lne, rd_fr, rd_ar, ne_eq, Nat.reduceEqDiff, not_false_eq_true]); exact u9_)) (fun j9_ u9_ => by ((try simp only [rd_eq, rd_ne, rf_eq, rf_nk, rf_nt, rd_fa, rd_af, rd_fl, rd_al, rd_lf, rd_la, rd_leq, rd_lne, rd_fr, rd_ar, ne_eq, Nat.reduceEqDiff, not_false_eq_true]); split; (first | rfl | (rename_i z9_; rw [z9_] at u9_; exfalso; omega)); exact u9_))
          · (intro j9_ u0_ u1_ u2_; exact lgp_mo (hl_ j9_ u0_ u1_ (by ((try simp only [rd_eq, rd_ne, rf_eq, rf_nk, rf_nt, rd_fa, rd_af, rd_fl, rd_al, rd_lf, rd_la, rd_leq, rd_lne, rd_fr, rd_ar, ne_eq, Nat.reduceEqDiff, not_false_eq_true] at *); exact u2_))) (by (try simp only [rd_eq, rd_ne, rf_eq, rf_nk, rf_nt, rd_fa, rd_af, rd_fl, rd_al, rd_lf, rd_la, rd_leq, rd_lne, rd_fr, rd_ar, ne_eq, Nat.reduceEqDiff, not_false_eq_true])) (by (try simp only [rd_eq, rd_ne, rf_eq, rf_nk, rf_nt, rd_fa, rd_af, rd_fl, rd_al, rd_lf, rd_la, rd_leq, rd_lne, rd_fr, rd_ar, ne_eq, Nat.reduceEqDiff, not_false_eq_true])) (fun i9_ u9_ => by ((try simp only [rd_eq, rd_ne, rf_eq, rf_nk, rf_nt, rd_fa, rd_af, rd_fl, rd_al, rd_lf, rd_la, rd_leq, rd_lne, rd_fr, rd_ar, ne_eq, Nat.reduceEqDiff, not_false_eq_true]); exact u9_)))
          · omega
        · have cx3_ : ¬ ((S_.2.2.1 203 0 k_.toNat) ≠ 0) := of_decide_eq_false cx3_
          refine sm_T_go 3 (c1 := (309, [some (.inr (.inr (some (13, 0)))), some (.inl n_), some (.inl k_), none, none], [.inl k_, .inr (.inr (some (202, 0))), .inl k_, .inr (.inr (some (203, 0)))], S_)) rfl ?_
          refine sm_T_zald (n := 2048) rfl rfl (by omega) (by omega) ?_
          have bx6_ : 0 ≤ S_.2.2.1 202 0 k_.toNat ∧ S_.2.2.1 202 0 k_.toNat ≤ 1 := hI_.2 202 0 _
          refine sm_T_b0 (a := 0) (z := 17) rfl (fun cx7_ => ?_) (fun cx7_ => ?_)
          · have cx7_ : (S_.2.2.1 202 0 k_.toNat) = 0 := of_decide_eq_true cx7_
            refine sm_T_go 1 (c1 := (328, [some (.inr (.inr (some (13, 0)))), some (.inl n_), some (.inl k_), none, none], [.inl 0, .inl k_, .inr (.inr (some (203, 0)))], S_)) rfl ?_
            refine sm_T_zas1 (n := 2048) rfl rfl (by omega) (by omega) (by omega) ?_
            have hIx8_ : gi (sm_aI S_ 203 0 k_.toNat 0) := gi_aI hI_ (show 0 ≤ 0 ∧ 0 ≤ 1 from ⟨by omega, by omega⟩)
            have hFx9_ : ai_fr (sx_W vw_394n) S0_ (sm_aI S_ 203 0 k_.toNat 0) := ai_fr_tr hF_ (ai_fr_aI rfl)
            refine sm_T_inc (a := 2) (z := 1) (v := k_) (w := k_ + 1) rfl rfl (by omega) (by omega) (by omega) ?_ -- pc_ 329
            refine sm_T_go 1 (c1 := (285, [some (.inr (.inr (some (13, 0)))), some (.inl n_), some (.inl (k_ + 1)), none, none], [], sm_aI S_ 203 0 k_.toNat 0)) rfl ?_
            refine ih_.2.2.2.2 n_ (k_ + 1) (sm_aI S_ 203 0 k_.toNat 0) hIx8_ hFx9_ ⟨?_, ?_, ?_, ?_, ?_, ?_, ?_, trivial⟩ ?_
            · intro q9_ hq9_
              have w9_ := hu_ q9_ hq9_
              (try simp only [rd_eq, rd_ne, rf_eq, rf_nk, rf_nt, rd_fa, rd_af, rd_fl, rd_al, rd_lf, rd_la, rd_leq, rd_lne, rd_fr, rd_ar, ne_eq, Nat.reduceEqDiff, not_false_eq_true])
              exact w9_
            · intro q9_ hq9_
              have w9_ := hw_ q9_ hq9_
              (try simp only [rd_eq, rd_ne, rf_eq, rf_nk, rf_nt, rd_fa, rd_af, rd_fl, rd_al, rd_lf, rd_la, rd_leq, rd_lne, rd_fr, rd_ar, ne_eq, Nat.reduceEqDiff, not_false_eq_true])
              exact w9_
            · intro q9_ hq9_
              have w9_ := hv_ q9_ hq9_
              have wk9_ := hw_ k_.toNat (by omega)
              have wu9_ := hu_ k_.toNat (by omega)
              rw [rd_eq]
              by_cases z9_ : q9_ = k_.toNat
              · subst z9_
                rw [if_pos rfl, if_pos (show ((k_.toNat : Nat) : Int) < k_ + 1 by omega)]
                rw [if_neg (show ¬ ((k_.toNat : Nat) : Int) < k_ by omega)] at w9_
                by_cases x9_ : 0 < rcn (fun m_ => S0_.2.2.1 166 0 (2048 * d_.toNat + m_)) (rto (S0_.2.2.1 156 0 d_.toNat).toNat (fun k_ => S0_.2.2.1 167 0 (16 * d_.toNat + k_)) (fun k_ => S0_.2.2.1 168 0 (6 * d_.toNat + k_))) ((S0_.2.2.1 156 0 d_.toNat).toNat + (S0_.2.2.1 155 0 d_.toNat).toNat) k_.toNat
                · rw [if_pos ⟨by omega, x9_⟩] at w9_; first | (rw [if_pos ⟨by omega, Or.inl x9_⟩]; done) | (exfalso; omega)
                · rw [if_neg (fun z_ => x9_ z_.2)] at w9_; by_cases v9_ : S_.2.2.1 202 0 k_.toNat = 1 ∧ 1 < S_.2.2.1 201 0 k_.toNat
                  · first | (rw [if_pos ⟨by omega, Or.inr ⟨wk9_.mp v9_.1, by omega⟩⟩]; done) | (exfalso; omega)
                  · first | (rw [if_neg (fun z_ => z_.2.elim x9_ (fun y_ => v9_ ⟨wk9_.mpr y_.1, by (have y8_ := y_.2; omega)⟩))]; done) | (exfalso; omega)
              · rw [if_neg z9_, w9_]; by_cases y9_ : (q9_ : Int) < k_
                · rw [if_pos y9_, if_pos (show (q9_ : Int) < k_ + 1 by omega)]
                · rw [if_neg y9_, if_neg (show ¬ (q9_ : Int) < k_ + 1 by omega)]
            · intro j9_ u1_ u2_ u3_
              have w9_ := hsd_ j9_ u1_ u2_ (by ((try simp only [rd_eq, rd_ne, rf_eq, rf_nk, rf_nt, rd_fa, rd_af, rd_fl, rd_al, rd_lf, rd_la, rd_leq, rd_lne, rd_fr, rd_ar, ne_eq, Nat.reduceEqDiff, not_false_eq_true] at *); exact u3_))
              (try simp only [rd_eq, rd_ne, rf_eq, rf_nk, rf_nt, rd_fa, rd_af, rd_fl, rd_al, rd_lf, rd_la, rd_leq, rd_lne, rd_fr, rd_ar, ne_eq, Nat.reduceEqDiff, not_false_eq_true])
              exact w9_
            · omega
            · exact rtd_mo hr_ (by (funext j9_; (try simp only [rd_eq, rd_ne, rf_eq, rf_nk, rf_nt, rd_fa, rd_af, rd_fl, rd_al, rd_lf, rd_la, rd_leq, rd_lne, rd_fr, rd_ar, ne_eq, Nat.reduceEqDiff, not_false_eq_true]))) (by (funext j9_; (try simp only [rd_eq, rd_ne, rf_eq, rf_nk, rf_nt, rd_fa, rd_af, rd_fl, rd_al, rd_lf, rd_la, rd_leq, rd_lne, rd_fr, rd_ar, ne_eq, Nat.reduceEqDiff, not_false_eq_true]))) (by (funext j9_; (try simp only [rd_eq, rd_ne, rf_eq, rf_nk, rf_nt, rd_fa, rd_af, rd_fl, rd_al, rd_lf, rd_la, rd_leq, rd_lne, rd_fr, rd_ar, ne_eq, Nat.reduceEqDiff, not_false_eq_true]))) (fun j9_ u9_ => by ((try simp only [rd_eq, rd_ne, rf_eq, rf_nk, rf_nt, rd_fa, rd_af, rd_fl, rd_al, rd_lf, rd_la, rd_leq, rd_lne, rd_fr, rd_ar, ne_eq, Nat.reduceEqDiff, not_false_eq_true]); exact u9_)) (fun j9_ u9_ => by ((try simp only [rd_eq, rd_ne, rf_eq, rf_nk, rf_nt, rd_fa, rd_af, rd_fl, rd_al, rd_lf, rd_la, rd_leq, rd_lne, rd_fr, rd_ar, ne_eq, Nat.reduceEqDiff, not_false_eq_true]); split; (first | rfl | (rename_i z9_; rw [z9_] at u9_; exfalso; omega)); exact u9_))
            · (intro j9_ u0_ u1_ u2_; exact lgp_mo (hl_ j9_ u0_ u1_ (by ((try simp only [rd_eq, rd_ne, rf_eq, rf_nk, rf_nt, rd_fa, rd_af, rd_fl, rd_al, rd_lf, rd_la, rd_leq, rd_lne, rd_fr, rd_ar, ne_eq, Nat.reduceEqDiff, not_false_eq_true] at *); exact u2_))) (by (try simp only [rd_eq, rd_ne, rf_eq, rf_nk, rf_nt, rd_fa, rd_af, rd_fl, rd_al, rd_lf, rd_la, rd_leq, rd_lne, rd_fr, rd_ar, ne_eq, Nat.reduceEqDiff, not_false_eq_true])) (by (try simp only [rd_eq, rd_ne, rf_eq, rf_nk, rf_nt, rd_fa, rd_af, rd_fl, rd_al, rd_lf, rd_la, rd_leq, rd_lne, rd_fr, rd_ar, ne_eq, Nat.reduceEqDiff, not_false_eq_true])) (fun i9_ u9_ => by ((try simp only [rd_eq, rd_ne, rf_eq, rf_nk, rf_nt, rd_fa, rd_af, rd_fl, rd_al, rd_lf, rd_la, rd_leq, rd_lne, rd_fr, rd_ar, ne_eq, Nat.reduceEqDiff, not_false_eq_true]); exact u9_)))
            · omega
          · have cx7_ : ¬ ((S_.2.2.1 202 0 k_.toNat) = 0) := of_decide_eq_false cx7_
            refine sm_T_go 3 (c1 := (318, [some (.inr (.inr (some (13, 0)))), some (.inl n_), some (.inl k_), none, none], [.inl k_, .inr (.inr (some (201, 0))), .inl k_, .inr (.inr (some (203, 0)))], S_)) rfl ?_
            refine sm_T_iald (n := 2048) rfl rfl (by omega) (by omega) ?_
            have bx10_ : (-2147483648) ≤ S_.2.2.1 201 0 k_.toNat ∧ S_.2.2.1 201 0 k_.toNat ≤ 2147483647 := hI_.2 201 0 _
            refine sm_T_go 1 (c1 := (320, [some (.inr (.inr (some (13, 0)))), some (.inl n_), some (.inl k_), none, none], [.inl 1, .inl (S_.2.2.1 201 0 k_.toNat), .inl k_, .inr (.inr (some (203, 0)))], S_)) rfl ?_
            refine sm_T_br (a := 5) (z := 7) rfl (fun cx11_ => ?_) (fun cx11_ => ?_)
            · have cx11_ : (S_.2.2.1 201 0 k_.toNat) ≤ 1 := of_decide_eq_true cx11_
              refine sm_T_go 1 (c1 := (328, [some (.inr (.inr (some (13, 0)))), some (.inl n_), some (.inl k_), none, none], [.inl 0, .inl k_, .inr (.inr (some (203, 0)))], S_)) rfl ?_
              refine sm_T_zas1 (n := 2048) rfl rfl (by omega) (by omega) (by omega) ?_
              have hIx12_ : gi (sm_aI S_ 203 0 k_.toNat 0) := gi_aI hI_ (show 0 ≤ 0 ∧ 0 ≤ 1 from ⟨by omega, by omega⟩)
              have hFx13_ : ai_fr (sx_W vw_394n) S0_ (sm_aI S_ 203 0 k_.toNat 0) := ai_fr_tr hF_ (ai_fr_aI rfl)
              refine sm_T_inc (a := 2) (z := 1) (v := k_) (w := k_ + 1) rfl rfl (by omega) (by omega) (by omega) ?_ -- pc_ 329
              refine sm_T_go 1 (c1 := (285, [some (.inr (.inr (some (13, 0)))), some (.inl n_), some (.inl (k_ + 1)), none, none], [], sm_aI S_ 203 0 k_.toNat 0)) rfl ?_
              refine ih_.2.2.2.2 n_ (k_ + 1) (sm_aI S_ 203 0 k_.toNat 0) hIx12_ hFx13_ ⟨?_, ?_, ?_, ?_, ?_, ?_, ?_, trivial⟩ ?_
              · intro q9_ hq9_
                have w9_ := hu_ q9_ hq9_
                (try simp only [rd_eq, rd_ne, rf_eq, rf_nk, rf_nt, rd_fa, rd_af, rd_fl, rd_al, rd_lf, rd_la, rd_leq, rd_lne, rd_fr, rd_ar, ne_eq, Nat.reduceEqDiff, not_false_eq_true])
                exact w9_
              · intro q9_ hq9_
                have w9_ := hw_ q9_ hq9_
                (try simp only [rd_eq, rd_ne, rf_eq, rf_nk, rf_nt, rd_fa, rd_af, rd_fl, rd_al, rd_lf, rd_la, rd_leq, rd_lne, rd_fr, rd_ar, ne_eq, Nat.reduceEqDiff, not_false_eq_true])
                exact w9_
              · intro q9_ hq9_
                have w9_ := hv_ q9_ hq9_
                have wk9_ := hw_ k_.toNat (by omega)
                have wu9_ := hu_ k_.toNat (by omega)
                rw [rd_eq]
                by_cases z9_ : q9_ = k_.toNat
                · subst z9_
                  rw [if_pos rfl, if_pos (show ((k_.toNat : Nat) : Int) < k_ + 1 by omega)]
                  rw [if_neg (show ¬ ((k_.toNat : Nat) : Int) < k_ by omega)] at w9_
                  by_cases x9_ : 0 < rcn (fun m_ => S0_.2.2.1 166 0 (2048 * d_.toNat + m_)) (rto (S0_.2.2.1 156 0 d_.toNat).toNat (fun k_ => S0_.2.2.1 167 0 (16 * d_.toNat + k_)) (fun k_ => S0_.2.2.1 168 0 (6 * d_.toNat + k_))) ((S0_.2.2.1 156 0 d_.toNat).toNat + (S0_.2.2.1 155 0 d_.toNat).toNat) k_.toNat
                  · rw [if_pos ⟨by omega, x9_⟩] at w9_; first | (rw [if_pos ⟨by omega, Or.inl x9_⟩]; done) | (exfalso; omega)
                  · rw [if_neg (fun z_ => x9_ z_.2)] at w9_; by_cases v9_ : S_.2.2.1 202 0 k_.toNat = 1 ∧ 1 < S_.2.2.1 201 0 k_.toNat
                    · first | (rw [if_pos ⟨by omega, Or.inr ⟨wk9_.mp v9_.1, by omega⟩⟩]; done) | (exfalso; omega)
                    · first | (rw [if_neg (fun z_ => z_.2.elim x9_ (fun y_ => v9_ ⟨wk9_.mpr y_.1, by (have y8_ := y_.2; omega)⟩))]; done) | (exfalso; omega)
                · rw [if_neg z9_, w9_]; by_cases y9_ : (q9_ : Int) < k_
                  · rw [if_pos y9_, if_pos (show (q9_ : Int) < k_ + 1 by omega)]
                  · rw [if_neg y9_, if_neg (show ¬ (q9_ : Int) < k_ + 1 by omega)]
              · intro j9_ u1_ u2_ u3_
                have w9_ := hsd_ j9_ u1_ u2_ (by ((try simp only [rd_eq, rd_ne, rf_eq, rf_nk, rf_nt, rd_fa, rd_af, rd_fl, rd_al, rd_lf, rd_la, rd_leq, rd_lne, rd_fr, rd_ar, ne_eq, Nat.reduceEqDiff, not_false_eq_true] at *); exact u3_))
                (try simp only [rd_eq, rd_ne, rf_eq, rf_nk, rf_nt, rd_fa, rd_af, rd_fl, rd_al, rd_lf, rd_la, rd_leq, rd_lne, rd_fr, rd_ar, ne_eq, Nat.reduceEqDiff, not_false_eq_true])
                exact w9_
              · omega
              · exact rtd_mo hr_ (by (funext j9_; (try simp only [rd_eq, rd_ne, rf_eq, rf_nk, rf_nt, rd_fa, rd_af, rd_fl, rd_al, rd_lf, rd_la, rd_leq, rd_lne, rd_fr, rd_ar, ne_eq, Nat.reduceEqDiff, not_false_eq_true]))) (by (funext j9_; (try simp only [rd_eq, rd_ne, rf_eq, rf_nk, rf_nt, rd_fa, rd_af, rd_fl, rd_al, rd_lf, rd_la, rd_leq, rd_lne, rd_fr, rd_ar, ne_eq, Nat.reduceEqDiff, not_false_eq_true]))) (by (funext j9_; (try simp only [rd_eq, rd_ne, rf_eq, rf_nk, rf_nt, rd_fa, rd_af, rd_fl, rd_al, rd_lf, rd_la, rd_leq, rd_lne, rd_fr, rd_ar, ne_eq, Nat.reduceEqDiff, not_false_eq_true]))) (fun j9_ u9_ => by ((try simp only [rd_eq, rd_ne, rf_eq, rf_nk, rf_nt, rd_fa, rd_af, rd_fl, rd_al, rd_lf, rd_la, rd_leq, rd_lne, rd_fr, rd_ar, ne_eq, Nat.reduceEqDiff, not_false_eq_true]); exact u9_)) (fun j9_ u9_ => by ((try simp only [rd_eq, rd_ne, rf_eq, rf_nk, rf_nt, rd_fa, rd_af, rd_fl, rd_al, rd_lf, rd_la, rd_leq, rd_lne, rd_fr, rd_ar, ne_eq, Nat.reduceEqDiff, not_false_eq_true]); split; (first | rfl | (rename_i z9_; rw [z9_] at u9_; exfalso; omega)); exact u9_))
              · (intro j9_ u0_ u1_ u2_; exact lgp_mo (hl_ j9_ u0_ u1_ (by ((try simp only [rd_eq, rd_ne, rf_eq, rf_nk, rf_nt, rd_fa, rd_af, rd_fl, rd_al, rd_lf, rd_la, rd_leq, rd_lne, rd_fr, rd_ar, ne_eq, Nat.reduceEqDiff, not_false_eq_true] at *); exact u2_))) (by (try simp only [rd_eq, rd_ne, rf_eq, rf_nk, rf_nt, rd_fa, rd_af, rd_fl, rd_al, rd_lf, rd_la, rd_leq, rd_lne, rd_fr, rd_ar, ne_eq, Nat.reduceEqDiff, not_false_eq_true])) (by (try simp only [rd_eq, rd_ne, rf_eq, rf_nk, rf_nt, rd_fa, rd_af, rd_fl, rd_al, rd_lf, rd_la, rd_leq, rd_lne, rd_fr, rd_ar, ne_eq, Nat.reduceEqDiff, not_false_eq_true])) (fun i9_ u9_ => by ((try simp only [rd_eq, rd_ne, rf_eq, rf_nk, rf_nt, rd_fa, rd_af, rd_fl, rd_al, rd_lf, rd_la, rd_leq, rd_lne, rd_fr, rd_ar, ne_eq, Nat.reduceEqDiff, not_false_eq_true]); exact u9_)))
              · omega
            · have cx11_ : ¬ ((S_.2.2.1 201 0 k_.toNat) ≤ 1) := of_decide_eq_false cx11_
              refine sm_T_go 2 (c1 := (328, [some (.inr (.inr (some (13, 0)))), some (.inl n_), some (.inl k_), none, none], [.inl 1, .inl k_, .inr (.inr (some (203, 0)))], S_)) rfl ?_
              refine sm_T_zas1 (n := 2048) rfl rfl (by omega) (by omega) (by omega) ?_
              have hIx14_ : gi (sm_aI S_ 203 0 k_.toNat 1) := gi_aI hI_ (show 0 ≤ 1 ∧ 1 ≤ 1 from ⟨by omega, by omega⟩)
              have hFx15_ : ai_fr (sx_W vw_394n) S0_ (sm_aI S_ 203 0 k_.toNat 1) := ai_fr_tr hF_ (ai_fr_aI rfl)
              refine sm_T_inc (a := 2) (z := 1) (v := k_) (w := k_ + 1) rfl rfl (by omega) (by omega) (by omega) ?_ -- pc_ 329
              refine sm_T_go 1 (c1 := (285, [some (.inr (.inr (some (13, 0)))), some (.inl n_), some (.inl (k_ + 1)), none, none], [], sm_aI S_ 203 0 k_.toNat 1)) rfl ?_
              refine ih_.2.2.2.2 n_ (k_ + 1) (sm_aI S_ 203 0 k_.toNat 1) hIx14_ hFx15_ ⟨?_, ?_, ?_, ?_, ?_, ?_, ?_, trivial⟩ ?_
              · intro q9_ hq9_
                have w9_ := hu_ q9_ hq9_
                (try simp only [rd_eq, rd_ne, rf_eq, rf_nk, rf_nt, rd_fa, rd_af, rd_fl, rd_al, rd_lf, rd_la, rd_leq, rd_lne, rd_fr, rd_ar, ne_eq, Nat.reduceEqDiff, not_false_eq_true])
                exact w9_
              · intro q9_ hq9_
                have w9_ := hw_ q9_ hq9_
                (try simp only [rd_eq, rd_ne, rf_eq, rf_nk, rf_nt, rd_fa, rd_af, rd_fl, rd_al, rd_lf, rd_la, rd_leq, rd_lne, rd_fr, rd_ar, ne_eq, Nat.reduceEqDiff, not_false_eq_true])
                exact w9_
              · intro q9_ hq9_
                have w9_ := hv_ q9_ hq9_
                have wk9_ := hw_ k_.toNat (by omega)
                have wu9_ := hu_ k_.toNat (by omega)
                rw [rd_eq]
                by_cases z9_ : q9_ = k_.toNat
                · subst z9_
                  rw [if_pos rfl, if_pos (show ((k_.toNat : Nat) : Int) < k_ + 1 by omega)]
                  rw [if_neg (show ¬ ((k_.toNat : Nat) : Int) < k_ by omega)] at w9_
                  by_cases x9_ : 0 < rcn (fun m_ => S0_.2.2.1 166 0 (2048 * d_.toNat + m_)) (rto (S0_.2.2.1 156 0 d_.toNat).toNat (fun k_ => S0_.2.2.1 167 0 (16 * d_.toNat + k_)) (fun k_ => S0_.2.2.1 168 0 (6 * d_.toNat + k_))) ((S0_.2.2.1 156 0 d_.toNat).toNat + (S0_.2.2.1 155 0 d_.toNat).toNat) k_.toNat
                  · rw [if_pos ⟨by omega, x9_⟩] at w9_; first | (rw [if_pos ⟨by omega, Or.inl x9_⟩]; done) | (exfalso; omega)
                  · rw [if_neg (fun z_ => x9_ z_.2)] at w9_; by_cases v9_ : S_.2.2.1 202 0 k_.toNat = 1 ∧ 1 < S_.2.2.1 201 0 k_.toNat
                    · first | (rw [if_pos ⟨by omega, Or.inr ⟨wk9_.mp v9_.1, by omega⟩⟩]; done) | (exfalso; omega)
                    · first | (rw [if_neg (fun z_ => z_.2.elim x9_ (fun y_ => v9_ ⟨wk9_.mpr y_.1, by (have y8_ := y_.2; omega)⟩))]; done) | (exfalso; omega)
                · rw [if_neg z9_, w9_]; by_cases y9_ : (q9_ : Int) < k_
                  · rw [if_pos y9_, if_pos (show (q9_ : Int) < k_ + 1 by omega)]
                  · rw [if_neg y9_, if_neg (show ¬ (q9_ : Int) < k_ + 1 by omega)]
              · intro j9_ u1_ u2_ u3_
                have w9_ := hsd_ j9_ u1_ u2_ (by ((try simp only [rd_eq, rd_ne, rf_eq, rf_nk, rf_nt, rd_fa, rd_af, rd_fl, rd_al, rd_lf, rd_la, rd_leq, rd_lne, rd_fr, rd_ar, ne_eq, Nat.reduceEqDiff, not_false_eq_true] at *); exact u3_))
                (try simp only [rd_eq, rd_ne, rf_eq, rf_nk, rf_nt, rd_fa, rd_af, rd_fl, rd_al, rd_lf, rd_la, rd_leq, rd_lne, rd_fr, rd_ar, ne_eq, Nat.reduceEqDiff, not_false_eq_true])
                exact w9_
              · omega
              · exact rtd_mo hr_ (by (funext j9_; (try simp only [rd_eq, rd_ne, rf_eq, rf_nk, rf_nt, rd_fa, rd_af, rd_fl, rd_al, rd_lf, rd_la, rd_leq, rd_lne, rd_fr, rd_ar, ne_eq, Nat.reduceEqDiff, not_false_eq_true]))) (by (funext j9_; (try simp only [rd_eq, rd_ne, rf_eq, rf_nk, rf_nt, rd_fa, rd_af, rd_fl, rd_al, rd_lf, rd_la, rd_leq, rd_lne, rd_fr, rd_ar, ne_eq, Nat.reduceEqDiff, not_false_eq_true]))) (by (funext j9_; (try simp only [rd_eq, rd_ne, rf_eq, rf_nk, rf_nt, rd_fa, rd_af, rd_fl, rd_al, rd_lf, rd_la, rd_leq, rd_lne, rd_fr, rd_ar, ne_eq, Nat.reduceEqDiff, not_false_eq_true]))) (fun j9_ u9_ => by ((try simp only [rd_eq, rd_ne, rf_eq, rf_nk, rf_nt, rd_fa, rd_af, rd_fl, rd_al, rd_lf, rd_la, rd_leq, rd_lne, rd_fr, rd_ar, ne_eq, Nat.reduceEqDiff, not_false_eq_true]); exact u9_)) (fun j9_ u9_ => by ((try simp only [rd_eq, rd_ne, rf_eq, rf_nk, rf_nt, rd_fa, rd_af, rd_fl, rd_al, rd_lf, rd_la, rd_leq, rd_lne, rd_fr, rd_ar, ne_eq, Nat.reduceEqDiff, not_false_eq_true]); split; (first | rfl | (rename_i z9_; rw [z9_] at u9_; exfalso; omega)); exact u9_))
              · (intro j9_ u0_ u1_ u2_; exact lgp_mo (hl_ j9_ u0_ u1_ (by ((try simp only [rd_eq, rd_ne, rf_eq, rf_nk, rf_nt, rd_fa, rd_af, rd_fl, rd_al, rd_lf, rd_la, rd_leq, rd_lne, rd_fr, rd_ar, ne_eq, Nat.reduceEqDiff, not_false_eq_true] at *); exact u2_))) (by (try simp only [rd_eq, rd_ne, rf_eq, rf_nk, rf_nt, rd_fa, rd_af, rd_fl, rd_al, rd_lf, rd_la, rd_leq, rd_lne, rd_fr, rd_ar, ne_eq, Nat.reduceEqDiff, not_false_eq_true])) (by (try simp only [rd_eq, rd_ne, rf_eq, rf_nk, rf_nt, rd_fa, rd_af, rd_fl, rd_al, rd_lf, rd_la, rd_leq, rd_lne, rd_fr, rd_ar, ne_eq, Nat.reduceEqDiff, not_false_eq_true])) (fun i9_ u9_ => by ((try simp only [rd_eq, rd_ne, rf_eq, rf_nk, rf_nt, rd_fa, rd_af, rd_fl, rd_al, rd_lf, rd_la, rd_leq, rd_lne, rd_fr, rd_ar, ne_eq, Nat.reduceEqDiff, not_false_eq_true]); exact u9_)))
              · omega
set_option maxHeartbeats 8000000 in
set_option maxRecDepth 20000 in
theorem vc_394n {sc_ : Nat × (Nat → Int)} (F_ : Int) (N_ : Int) (d_ : Int) (S0_ : sm_S) (hI_ : gi S0_) (hd_ : dmp F_ N_ d_ S0_) : sm_T (mt_P sc_) 2 394 (0, [some (.inr (.inr (some (13, 0)))), none, none, none, none], [], S0_) (fun ro9_ => ∃ u_ S1_, ro9_ = (.inl u_, S1_, 0) ∧ vq_394n F_ N_ d_ S0_ u_ S1_) := by
  have hF_ : ai_fr (sx_W vw_394n) S0_ S0_ := ai_fr_rf
  have bx1_ : 0 ≤ S0_.1 13 0 105 ∧ S0_.1 13 0 105 ≤ 5 := hI_.1 13 0 105 rfl
  refine sm_T_go 4 (c1 := (8, [some (.inr (.inr (some (13, 0)))), none, none, none, none], [.inl (S0_.1 13 0 105), .inr (.inr (some (159, 0)))], S0_)) rfl ?_
  refine sm_T_iald (n := 6) rfl rfl (by omega) (by omega) ?_
  have bx2_ : 0 ≤ S0_.2.2.1 159 0 (S0_.1 13 0 105).toNat ∧ S0_.2.2.1 159 0 (S0_.1 13 0 105).toNat ≤ 1013 := hI_.2 159 0 _
  refine sm_T_go 3 (c1 := (12, [some (.inr (.inr (some (13, 0)))), some (.inl (S0_.2.2.1 159 0 (S0_.1 13 0 105).toNat)), some (.inl 0), none, none], [], S0_)) rfl ?_
  refine (vl_394n F_ N_ d_ S0_ hd_ _).1 (S0_.2.2.1 159 0 (S0_.1 13 0 105).toNat) 0 S0_ hI_ hF_ ⟨?_, ?_, ?_, trivial⟩ (Nat.lt_succ_self _)
  · (intro j9_ hj9_; exfalso; omega)
  · (have d1_ := hd_.1; rw [d1_.2.2.1]; omega)
  · (intro j9_ u0_ u1_; exfalso; omega)
end
/-! 99.ztZ7 -/
section
/-! cuts: rising lists of nodes; written by wip/p55/gen/vg -/

/-! rising lists -/
def ins (x_ : Nat) : List Nat → List Nat
  | [] => [x_]
  | y_ :: l_ => if x_ < y_ then x_ :: y_ :: l_ else if x_ = y_ then y_ :: l_ else y_ :: ins x_ l_
def ris : List Nat → Prop
  | [] => True
  | y_ :: l_ => (∀ z_, z_ ∈ l_ → y_ < z_) ∧ ris l_
theorem ins_c {x_ y_ : Nat} {l_ : List Nat} : ins x_ (y_ :: l_) = if x_ < y_ then x_ :: y_ :: l_ else if x_ = y_ then y_ :: l_ else y_ :: ins x_ l_ := rfl
theorem ins_m {x_ z_ : Nat} : ∀ {l_ : List Nat}, z_ ∈ ins x_ l_ ↔ z_ = x_ ∨ z_ ∈ l_
  | [] => by
    show z_ ∈ [x_] ↔ z_ = x_ ∨ z_ ∈ []
    constructor
    · intro h_
      exact Or.inl (List.mem_singleton.mp h_)
    · rintro (h_ | h_)
      · exact List.mem_singleton.mpr h_
      · exact absurd h_ List.not_mem_nil
  | y_ :: l_ => by
    have ih_ := ins_m (x_ := x_) (z_ := z_) (l_ := l_)
    rw [ins_c]
    by_cases c_ : x_ < y_
    · rw [if_pos c_, List.mem_cons]
    · rw [if_neg c_]
      by_cases e_ : x_ = y_
      · rw [if_pos e_, e_]
        constructor
        · intro h_
          exact Or.inr h_
        · rintro (h_ | h_)
          · rw [h_]
            exact List.mem_cons_self
          · exact h_
      · rw [if_neg e_, List.mem_cons, ih_, List.mem_cons]
        constructor
        · rintro (h_ | h_ | h_)
          · exact Or.inr (Or.inl h_)
          · exact Or.inl h_
          · exact Or.inr (Or.inr h_)
        · rintro (h_ | h_ | h_)
          · exact Or.inr (Or.inl h_)
          · exact Or.inl h_
          · exact Or.inr (Or.inr h_)
theorem ins_r {x_ : Nat} : ∀ {l_ : List Nat}, ris l_ → ris (ins x_ l_)
  | [], _ => ⟨fun z_ h_ => absurd h_ List.not_mem_nil, trivial⟩
  | y_ :: l_, h_ => by
    obtain ⟨h1_, h2_⟩ := h_
    rw [ins_c]
    by_cases c_ : x_ < y_
    · rw [if_pos c_]
      refine ⟨fun z_ hz_ => ?_, h1_, h2_⟩
      rcases List.mem_cons.mp hz_ with e_ | e_
      · omega
      · have := h1_ z_ e_
        omega
    · rw [if_neg c_]
      by_cases e_ : x_ = y_
      · rw [if_pos e_]
        exact ⟨h1_, h2_⟩
      · rw [if_neg e_]
        refine ⟨fun z_ hz_ => ?_, ins_r h2_⟩
        rcases ins_m.mp hz_ with q_ | q_
        · omega
        · exact h1_ z_ q_
/-- rising lists with the_ same members are_ one_ -/
theorem ris_u : ∀ {l_ m_ : List Nat}, ris l_ → ris m_ → (∀ z_, z_ ∈ l_ ↔ z_ ∈ m_) → l_ = m_
  | [], [], _, _, _ => rfl
  | [], b_ :: m_, _, _, h_ => absurd ((h_ b_).mpr List.mem_cons_self) List.not_mem_nil
  | a_ :: l_, [], _, _, h_ => absurd ((h_ a_).mp List.mem_cons_self) List.not_mem_nil
  | a_ :: l_, b_ :: m_, hl_, hm9_, h_ => by
    obtain ⟨l1_, l2_⟩ := hl_
    obtain ⟨m1_, m2_⟩ := hm9_
    have e_ : a_ = b_ := by
      rcases List.mem_cons.mp ((h_ a_).mp List.mem_cons_self) with p_ | p_
      · exact p_
      · rcases List.mem_cons.mp ((h_ b_).mpr List.mem_cons_self) with q_ | q_
        · exact q_.symm
        · have := m1_ a_ p_
          have := l1_ b_ q_
          omega
    subst e_
    have t_ : l_ = m_ := ris_u l2_ m2_ (fun z_ => by
      constructor
      · intro q_
        have w_ := l1_ z_ q_
        rcases List.mem_cons.mp ((h_ z_).mp (List.mem_cons_of_mem _ q_)) with p_ | p_
        · omega
        · exact p_
      · intro q_
        have w_ := m1_ z_ q_
        rcases List.mem_cons.mp ((h_ z_).mpr (List.mem_cons_of_mem _ q_)) with p_ | p_
        · omega
        · exact p_)
    rw [t_]
/-- one_ put_ at a_ place -/
def iap (x_ : Nat) : Nat → List Nat → List Nat
  | 0, l_ => x_ :: l_
  | _ + 1, [] => [x_]
  | a_ + 1, y_ :: l_ => y_ :: iap x_ a_ l_
theorem iap_m {x_ z_ : Nat} : ∀ {a_ : Nat} {l_ : List Nat}, z_ ∈ iap x_ a_ l_ ↔ z_ = x_ ∨ z_ ∈ l_
  | 0, l_ => List.mem_cons
  | a_ + 1, [] => by
    show z_ ∈ [x_] ↔ z_ = x_ ∨ z_ ∈ []
    constructor
    · intro h_
      exact Or.inl (List.mem_singleton.mp h_)
    · rintro (h_ | h_)
      · exact List.mem_singleton.mpr h_
      · exact absurd h_ List.not_mem_nil
  | a_ + 1, y_ :: l_ => by
    show z_ ∈ y_ :: iap x_ a_ l_ ↔ z_ = x_ ∨ z_ ∈ y_ :: l_
    rw [List.mem_cons, iap_m (a_ := a_) (l_ := l_), List.mem_cons]
    constructor
    · rintro (h_ | h_ | h_)
      · exact Or.inr (Or.inl h_)
      · exact Or.inl h_
      · exact Or.inr (Or.inr h_)
    · rintro (h_ | h_ | h_)
      · exact Or.inr (Or.inl h_)
      · exact Or.inl h_
      · exact Or.inr (Or.inr h_)
theorem iap_l {x_ : Nat} : ∀ {a_ : Nat} {l_ : List Nat}, a_ ≤ l_.length → (iap x_ a_ l_).length = l_.length + 1
  | 0, l_, _ => rfl
  | a_ + 1, [], h_ => absurd h_ (by simp)
  | a_ + 1, y_ :: l_, h_ => by
    have h_ : a_ + 1 ≤ l_.length + 1 := h_
    show (iap x_ a_ l_).length + 1 = l_.length + 1 + 1
    rw [iap_l (by omega)]
theorem iap_g {x_ : Nat} : ∀ (a_ : Nat) (l_ : List Nat) (j_ : Nat), a_ ≤ l_.length → (iap x_ a_ l_)[j_]? = if j_ < a_ then l_[j_]? else if j_ = a_ then some x_ else l_[j_ - 1]?
  | 0, l_, 0, _ => by
    rw [if_neg (by omega), if_pos rfl]
    rfl
  | 0, l_, j_ + 1, _ => by
    rw [if_neg (by omega), if_neg (by omega)]
    rfl
  | a_ + 1, [], _, h_ => absurd h_ (by simp)
  | a_ + 1, y_ :: l_, 0, _ => by
    rw [if_pos (by omega)]
    rfl
  | a_ + 1, y_ :: l_, j_ + 1, h_ => by
    have h_ : a_ + 1 ≤ l_.length + 1 := h_
    show (iap x_ a_ l_)[j_]? = _
    rw [iap_g a_ l_ j_ (by omega)]
    by_cases c_ : j_ < a_
    · rw [if_pos c_, if_pos (show j_ + 1 < a_ + 1 by omega)]
      rfl
    · rw [if_neg c_, if_neg (show ¬ j_ + 1 < a_ + 1 by omega)]
      by_cases e_ : j_ = a_
      · rw [if_pos e_, if_pos (show j_ + 1 = a_ + 1 by omega)]
      · rw [if_neg e_, if_neg (show ¬ j_ + 1 = a_ + 1 by omega)]
        obtain ⟨k_, rfl⟩ : ∃ k_, j_ = k_ + 1 := ⟨j_ - 1, by omega⟩
        rfl
/-- put_ where it_ belongs, it_ is_ put_ in -/
theorem iap_i {x_ : Nat} : ∀ {a_ : Nat} {l_ : List Nat}, a_ ≤ l_.length → (∀ j_ z_, j_ < a_ → l_[j_]? = some z_ → z_ < x_) → (∀ j_ z_, a_ ≤ j_ → l_[j_]? = some z_ → x_ < z_) → iap x_ a_ l_ = ins x_ l_
  | 0, [], _, _, _ => rfl
  | 0, y_ :: l_, _, _, h2_ => by
    have q_ := h2_ 0 y_ (Nat.le_refl _) rfl
    rw [ins_c, if_pos q_]
    rfl
  | a_ + 1, [], h_, _, _ => absurd h_ (by simp)
  | a_ + 1, y_ :: l_, h_, h1_, h2_ => by
    have h_ : a_ + 1 ≤ l_.length + 1 := h_
    have q_ := h1_ 0 y_ (by omega) rfl
    rw [ins_c, if_neg (by omega), if_neg (by omega)]
    show y_ :: iap x_ a_ l_ = y_ :: ins x_ l_
    rw [iap_i (by omega) (fun j_ z_ hj_ e_ => h1_ (j_ + 1) z_ (by omega) e_) (fun j_ z_ hj_ e_ => h2_ (j_ + 1) z_ (by omega) e_)]
theorem ins_o {x_ : Nat} : ∀ {l_ : List Nat}, ris l_ → x_ ∈ l_ → ins x_ l_ = l_ := fun h_ m_ => ris_u (ins_r h_) h_ (fun z_ => by
  rw [ins_m]
  constructor
  · rintro (e_ | e_)
    · rw [e_]
      exact m_
    · exact e_
  · exact Or.inr)
/-! cuts -/
/-- one_ step of_ the_ cuts: place k_ of_ cut_ i_ -/
def ctst (inn_ : Nat → Bool) (cl_ ch_ : Nat → Nat) (L_ : List (List Nat)) (i_ k_ : Nat) : List (List Nat) :=
  match L_[i_]? with
  | none => L_
  | some c_ =>
    match c_[k_]? with
    | none => L_
    | some x_ => if inn_ x_ = true ∧ (ins (cl_ x_) (ins (ch_ x_) (c_.filter (fun y_ => y_ != x_)))).length ≤ 3 ∧ ¬ ins (cl_ x_) (ins (ch_ x_) (c_.filter (fun y_ => y_ != x_))) ∈ L_ then L_ ++ [ins (cl_ x_) (ins (ch_ x_) (c_.filter (fun y_ => y_ != x_)))] else L_
/-- the_ cuts of_ n_ after m_ steps -/
def crn (inn_ : Nat → Bool) (cl_ ch_ : Nat → Nat) (n_ : Nat) : Nat → List (List Nat)
  | 0 => [ins (cl_ n_) [ch_ n_]]
  | m_ + 1 => ctst inn_ cl_ ch_ (crn inn_ cl_ ch_ n_ m_) (m_ / 3) (m_ % 3)
end
