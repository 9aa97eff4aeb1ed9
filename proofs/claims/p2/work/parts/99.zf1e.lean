/-! Builder.startGraph -/
def vw_34 : sx_Wl := ([(1, 3), (1, 6), (1, 8), (1, 9), (3, 4), (3, 5)], [26, 29, 42, 43], [])
def vq_34 (m_ : Int) (tb_ : Nat → Int) (tn_ : Nat) (A_ : pA) (mm_ : Nat) (dd_ : Nat) (F_ : Nat) (I_ : Nat) (S0_ : sm_S) (u_ : Option sm_V) (S1_ : sm_S) : Prop := u_ = none ∧ gi S1_ ∧ ai_fr (sx_W vw_34) S0_ S1_ ∧ (idf dd_ S0_ S1_ ∧ (cxs dd_ F_ I_ 0 1 (([], 0, 1), ein A_ mm_, fun _ => none, []) S1_))
set_option maxHeartbeats 2000000 in
theorem vl_34 {sc_ : Nat × (Nat → Int)} (m_ : Int) (tb_ : Nat → Int) (tn_ : Nat) (A_ : pA) (mm_ : Nat) (dd_ : Nat) (F_ : Nat) (I_ : Nat) (S0_ : sm_S) (hd_ : S0_.2.1 1 0 1 = some dd_) (hFn_ : (F_ : Int) = 1 + S0_.1 3 dd_ 1 + S0_.1 3 dd_ 2 ∧ 1 ≤ F_ ∧ F_ ≤ 13) (hin0_ : S0_.1 3 dd_ 1 = (I_ : Int) ∧ I_ ≤ 12 ∧ 0 ≤ S0_.1 3 dd_ 2) (hm1_ : m_ = (mm_ : Int) ∧ mm_ ≤ 15) (her_ : er1 tb_ tn_ A_ mm_ S0_) (hA_ : a_ok tb_ tn_ A_ mm_) (hsu_ : su (t_in A_ 0 mm_) (A_.1 mm_) = (I_ : Int)) : ∀ nn_ : Nat, (∀ (nd_ : Int) (s_ : Int) (S_ : sm_S), gi S_ → ai_fr (sx_W vw_34) S0_ S_ → ((S_.1 3 dd_ 5 = 0) ∧ (cgl dd_ F_ [] S_) ∧ ((S_.1 1 0 6) = 0 ∧ (S_.1 1 0 9) = 0 ∧ (S_.1 1 0 3) = 1) ∧ (0 ≤ s_ ∧ s_ ≤ (A_.1 mm_ : Int) ∧ nd_ = 1 + su (t_in A_ 0 mm_) s_.toNat) ∧ (∀ s9_ : Nat, s9_ < s_.toNat → rwv (S_.2.2.1 26 0) (8 * s9_) (ein A_ mm_ s9_) ∧ (ein A_ mm_ s9_).length ≤ 8) ∧ (S_.1 3 dd_ 1 = (I_ : Int)) ∧ (idf dd_ S0_ S_) ∧ True) → ((20 * (50 - s_) + 10).toNat) < nn_ → sm_T (mt_P sc_) 1 34 (76, [some (.inr (.inr (some (1, 0)))), some (.inl m_), some (.inl nd_), some (.inl s_), none], [], S_) (fun ro9_ => ∃ u_ S1_, ro9_ = (.inl u_, S1_, 0) ∧ vq_34 m_ tb_ tn_ A_ mm_ dd_ F_ I_ S0_ u_ S1_)) ∧ (∀ (nd_ : Int) (s_ : Int) (k_ : Int) (S_ : sm_S), gi S_ → ai_fr (sx_W vw_34) S0_ S_ → ((S_.1 3 dd_ 5 = 0) ∧ (cgl dd_ F_ [] S_) ∧ ((S_.1 1 0 6) = 0 ∧ (S_.1 1 0 9) = 0 ∧ (S_.1 1 0 3) = 1) ∧ (0 ≤ s_ ∧ s_ < (A_.1 mm_ : Int) ∧ nd_ = 1 + su (t_in A_ 0 mm_) s_.toNat + k_ ∧ 0 ≤ k_ ∧ k_ ≤ A_.2.2.2.1 (40 * mm_ + s_.toNat) ∧ A_.2.2.1 (40 * mm_ + s_.toNat) = 0) ∧ (∀ s9_ : Nat, s9_ < s_.toNat → rwv (S_.2.2.1 26 0) (8 * s9_) (ein A_ mm_ s9_) ∧ (ein A_ mm_ s9_).length ≤ 8) ∧ (rwv (S_.2.2.1 26 0) (8 * s_.toNat) (r_bt 0 (su (t_in A_ 0 mm_) s_.toNat).toNat k_.toNat)) ∧ (S_.1 3 dd_ 1 = (I_ : Int)) ∧ (idf dd_ S0_ S_) ∧ True) → ((20 * (50 - s_) + 9 - k_).toNat) < nn_ → sm_T (mt_P sc_) 1 34 (109, [some (.inr (.inr (some (1, 0)))), some (.inl m_), some (.inl nd_), some (.inl s_), some (.inl k_)], [], S_) (fun ro9_ => ∃ u_ S1_, ro9_ = (.inl u_, S1_, 0) ∧ vq_34 m_ tb_ tn_ A_ mm_ dd_ F_ I_ S0_ u_ S1_)) := by
  intro nn_
  induction nn_ with
  | zero => exact ⟨fun _ _ _ _ _ _ h_ => absurd h_ (Nat.not_lt_zero _), fun _ _ _ _ _ _ _ h_ => absurd h_ (Nat.not_lt_zero _)⟩
  | succ nn_ ih_ =>
    refine ⟨?_, ?_⟩
    · rintro nd_ s_ S_ hI_ hF_ ⟨hbg_, hg_, hb_, h0_, h1_, hin_, hD_, -⟩ hm_
      have A40_ := (hA_.2 mm_ (Nat.le_refl _)).1
      have cn_ : S_.2.2.1 77 0 m_.toNat = (A_.1 mm_ : Int) := by rw [fr_arr (t := 77) (i := 0) hF_ rfl, show m_.toNat = mm_ by omega]; exact her_.1
      have cb_ := su_el (f_ := t_in A_ 0 mm_) (k_ := A_.1 mm_) (fun j_ hj_ => by have z_ := ((hA_.2 mm_ (Nat.le_refl _)).2 j_ hj_).2.2.1; unfold t_in; split <;> omega)
      have sv_ : s_ < (A_.1 mm_ : Int) → S_.2.2.1 79 0 (40 * m_ + s_).toNat = A_.2.2.1 (40 * mm_ + s_.toNat) ∧ S_.2.2.1 80 0 (40 * m_ + s_).toNat = A_.2.2.2.1 (40 * mm_ + s_.toNat) := by intro z_; rw [fr_arr (t := 79) (i := 0) hF_ rfl, fr_arr (t := 80) (i := 0) hF_ rfl, show (40 * m_ + s_).toNat = 40 * mm_ + s_.toNat by omega]; exact ⟨(her_.2 s_.toNat (by omega)).2.1, (her_.2 s_.toNat (by omega)).2.2.1⟩
      have s1_ : s_ < (A_.1 mm_ : Int) → su (t_in A_ 0 mm_) (s_.toNat + 1) = su (t_in A_ 0 mm_) s_.toNat + t_in A_ 0 mm_ s_.toNat ∧ su (t_in A_ 0 mm_) (s_.toNat + 1) ≤ su (t_in A_ 0 mm_) (A_.1 mm_) ∧ 0 ≤ su (t_in A_ 0 mm_) s_.toNat := fun z_ => ⟨rfl, (cb_.2.2 (s_.toNat + 1) (by omega)).2, (cb_.2.2 s_.toNat (by omega)).1⟩
      refine sm_T_go 5 (c1 := (85, [some (.inr (.inr (some (1, 0)))), some (.inl m_), some (.inl nd_), some (.inl s_), none], [.inl m_, .inr (.inr (some (77, 0))), .inl s_], S_)) rfl ?_
      refine sm_T_iald (n := 17) rfl rfl (by omega) (by omega) ?_
      have bx1_ : 0 ≤ S_.2.2.1 77 0 m_.toNat ∧ S_.2.2.1 77 0 m_.toNat ≤ 40 := hI_.2 77 0 _
      refine sm_T_br (a := 3) (z := 73) rfl (fun cx2_ => ?_) (fun cx2_ => ?_)
      · have cx2_ : (S_.2.2.1 77 0 m_.toNat) ≤ s_ := of_decide_eq_true cx2_
        refine sm_T_rv rfl ⟨_, _, rfl, rfl, hI_, hF_, ?_⟩
        refine ⟨hD_, ?_⟩
        refine ⟨hg_, hb_.2.1, hb_.2.2, by show (1 : Nat) ≤ 201; decide, by decide, by show (1 : Nat) ≤ 1; decide, ⟨fun s9_ hs9_ => ?_, fun _ => 0, fun a_ ha_ o_ ho_ => by cases ho_⟩, ⟨hb_.1, trivial⟩, ⟨hin_, by rw [hbg_]; exact ⟨Int.le_refl _, (by decide : (0 : Int) < 2 ^ 0)⟩, fun k9_ hk9_ => absurd hk9_ (Nat.not_lt_zero _)⟩⟩
        by_cases z_ : s9_ < s_.toNat
        · have w_ := h1_ s9_ z_; rw [show 8 * (40 * 0 + s9_) = 8 * s9_ by omega]; exact w_
        · have e0_ : ein A_ mm_ s9_ = [] := by unfold ein; rw [if_neg (by rintro ⟨z1_, z2_⟩; omega)]
          show rwv _ _ (ein A_ mm_ s9_) ∧ (ein A_ mm_ s9_).length ≤ 8; rw [e0_]; exact ⟨fun k9_ z9_ e9_ => by simp at e9_, by simp⟩
      · have cx2_ : ¬ ((S_.2.2.1 77 0 m_.toNat) ≤ s_) := of_decide_eq_false cx2_
        obtain ⟨sv1_, sv2_⟩ := sv_ (by omega)
        have s2_ := s1_ (by omega)
        refine sm_T_go 5 (c1 := (99, [some (.inr (.inr (some (1, 0)))), some (.inl m_), some (.inl nd_), some (.inl s_), none], [.inl 40, .inl m_, .inr (.inr (some (79, 0)))], S_)) rfl ?_
        refine sm_T_bin (w := 40 * m_) rfl (bi_mul (by omega) (by omega) (by omega)) ?_
        refine sm_T_go 1 (c1 := (101, [some (.inr (.inr (some (1, 0)))), some (.inl m_), some (.inl nd_), some (.inl s_), none], [.inl s_, .inl (40 * m_), .inr (.inr (some (79, 0)))], S_)) rfl ?_
        refine sm_T_bin (w := 40 * m_ + s_) rfl (bi_add (by omega) (by omega) (by omega)) ?_
        refine sm_T_iald (n := 640) rfl rfl (by omega) (by omega) ?_
        have bx3_ : 0 ≤ S_.2.2.1 79 0 (40 * m_ + s_).toNat ∧ S_.2.2.1 79 0 (40 * m_ + s_).toNat ≤ 5 := hI_.2 79 0 _
        refine sm_T_b0 (a := 1) (z := 50) rfl (fun cx4_ => ?_) (fun cx4_ => ?_)
        · have cx4_ : (S_.2.2.1 79 0 (40 * m_ + s_).toNat) ≠ 0 := of_decide_eq_true cx4_
          refine sm_T_inc (a := 3) (z := 1) (v := s_) (w := s_ + 1) rfl rfl (by omega) (by omega) (by omega) ?_
          refine sm_T_go 1 (c1 := (76, [some (.inr (.inr (some (1, 0)))), some (.inl m_), some (.inl nd_), some (.inl (s_ + 1)), none], [], S_)) rfl ?_
          refine ih_.1 nd_ (s_ + 1) S_ hI_ hF_ ⟨?_, ?_, ?_, ?_, ?_, ?_, ?_, trivial⟩ ?_
          · exact hbg_
          · exact hg_
          · exact hb_
          · have t9_ : t_in A_ 0 mm_ s_.toNat = 0 := by unfold t_in; rw [if_neg (by omega)]
            rw [show (s_ + 1).toNat = s_.toNat + 1 by omega]
            omega
          · intro s9_ hs9_
            by_cases z_ : s9_ < s_.toNat
            · exact h1_ s9_ z_
            · have e0_ : ein A_ mm_ s9_ = [] := by unfold ein; rw [if_neg (by rintro ⟨z1_, z2_⟩; rw [show s9_ = s_.toNat by omega] at z2_; omega)]
              rw [e0_]; exact ⟨fun k9_ z9_ e9_ => by simp at e9_, by simp⟩
          · exact hin_
          · exact hD_
          · omega
        · have cx4_ : ¬ ((S_.2.2.1 79 0 (40 * m_ + s_).toNat) ≠ 0) := of_decide_eq_false cx4_
          refine sm_T_go 2 (c1 := (109, [some (.inr (.inr (some (1, 0)))), some (.inl m_), some (.inl nd_), some (.inl s_), some (.inl 0)], [], S_)) rfl ?_
          refine ih_.2 nd_ s_ 0 S_ hI_ hF_ ⟨?_, ?_, ?_, ?_, ?_, ?_, ?_, ?_, trivial⟩ ?_
          · exact hbg_
          · exact hg_
          · exact hb_
          · (have wb_ := ((hA_.2 mm_ (Nat.le_refl _)).2 s_.toNat (by omega)).2.2.1); omega
          · exact h1_
          · (intro k9_ z9_ e9_; simp [r_bt] at e9_)
          · exact hin_
          · exact hD_
          · omega
    · rintro nd_ s_ k_ S_ hI_ hF_ ⟨hbg_, hg_, hb_, h0_, h1_, h2_, hin_, hD_, -⟩ hm_
      have A40_ := (hA_.2 mm_ (Nat.le_refl _)).1
      have cn_ : S_.2.2.1 77 0 m_.toNat = (A_.1 mm_ : Int) := by rw [fr_arr (t := 77) (i := 0) hF_ rfl, show m_.toNat = mm_ by omega]; exact her_.1
      have cb_ := su_el (f_ := t_in A_ 0 mm_) (k_ := A_.1 mm_) (fun j_ hj_ => by have z_ := ((hA_.2 mm_ (Nat.le_refl _)).2 j_ hj_).2.2.1; unfold t_in; split <;> omega)
      have sv_ : s_ < (A_.1 mm_ : Int) → S_.2.2.1 79 0 (40 * m_ + s_).toNat = A_.2.2.1 (40 * mm_ + s_.toNat) ∧ S_.2.2.1 80 0 (40 * m_ + s_).toNat = A_.2.2.2.1 (40 * mm_ + s_.toNat) := by intro z_; rw [fr_arr (t := 79) (i := 0) hF_ rfl, fr_arr (t := 80) (i := 0) hF_ rfl, show (40 * m_ + s_).toNat = 40 * mm_ + s_.toNat by omega]; exact ⟨(her_.2 s_.toNat (by omega)).2.1, (her_.2 s_.toNat (by omega)).2.2.1⟩
      have s1_ : s_ < (A_.1 mm_ : Int) → su (t_in A_ 0 mm_) (s_.toNat + 1) = su (t_in A_ 0 mm_) s_.toNat + t_in A_ 0 mm_ s_.toNat ∧ su (t_in A_ 0 mm_) (s_.toNat + 1) ≤ su (t_in A_ 0 mm_) (A_.1 mm_) ∧ 0 ≤ su (t_in A_ 0 mm_) s_.toNat := fun z_ => ⟨rfl, (cb_.2.2 (s_.toNat + 1) (by omega)).2, (cb_.2.2 s_.toNat (by omega)).1⟩
      obtain ⟨sv1_, sv2_⟩ := sv_ (by omega)
      have s2_ := s1_ (by omega)
      have wb_ := ((hA_.2 mm_ (Nat.le_refl _)).2 s_.toNat (by omega)).2.2.1
      have tn0_ : t_in A_ 0 mm_ s_.toNat = A_.2.2.2.1 (40 * mm_ + s_.toNat) := by unfold t_in; rw [if_pos (by omega)]
      refine sm_T_go 6 (c1 := (121, [some (.inr (.inr (some (1, 0)))), some (.inl m_), some (.inl nd_), some (.inl s_), some (.inl k_)], [.inl 40, .inl m_, .inr (.inr (some (80, 0))), .inl k_], S_)) rfl ?_
      refine sm_T_bin (w := 40 * m_) rfl (bi_mul (by omega) (by omega) (by omega)) ?_
      refine sm_T_go 1 (c1 := (123, [some (.inr (.inr (some (1, 0)))), some (.inl m_), some (.inl nd_), some (.inl s_), some (.inl k_)], [.inl s_, .inl (40 * m_), .inr (.inr (some (80, 0))), .inl k_], S_)) rfl ?_
      refine sm_T_bin (w := 40 * m_ + s_) rfl (bi_add (by omega) (by omega) (by omega)) ?_
      refine sm_T_iald (n := 640) rfl rfl (by omega) (by omega) ?_
      have bx1_ : 0 ≤ S_.2.2.1 80 0 (40 * m_ + s_).toNat ∧ S_.2.2.1 80 0 (40 * m_ + s_).toNat ≤ 8 := hI_.2 80 0 _
      refine sm_T_br (a := 3) (z := 28) rfl (fun cx2_ => ?_) (fun cx2_ => ?_)
      · have cx2_ : (S_.2.2.1 80 0 (40 * m_ + s_).toNat) ≤ k_ := of_decide_eq_true cx2_
        refine sm_T_inc (a := 3) (z := 1) (v := s_) (w := s_ + 1) rfl rfl (by omega) (by omega) (by omega) ?_
        refine sm_T_go 1 (c1 := (76, [some (.inr (.inr (some (1, 0)))), some (.inl m_), some (.inl nd_), some (.inl (s_ + 1)), some (.inl k_)], [], S_)) rfl ?_
        refine sm_T_wk [some (.inr (.inr (some (1, 0)))), some (.inl m_), some (.inl nd_), some (.inl (s_ + 1)), none] (by exact ⟨rfl, rfl, rfl, rfl, trivial⟩) ?_
        refine ih_.1 nd_ (s_ + 1) S_ hI_ hF_ ⟨?_, ?_, ?_, ?_, ?_, ?_, ?_, trivial⟩ ?_
        · exact hbg_
        · exact hg_
        · exact hb_
        · rw [show (s_ + 1).toNat = s_.toNat + 1 by omega]
          omega
        · intro s9_ hs9_
          by_cases z_ : s9_ < s_.toNat
          · exact h1_ s9_ z_
          · have z9_ : s9_ = s_.toNat := by omega
            have e0_ : ein A_ mm_ s9_ = r_bt 0 (su (t_in A_ 0 mm_) s_.toNat).toNat k_.toNat := by unfold ein; rw [z9_, if_pos ⟨by omega, by omega⟩, show (A_.2.2.2.1 (40 * mm_ + s_.toNat)).toNat = k_.toNat by omega]
            rw [e0_, z9_, r_bt_l]; exact ⟨h2_, by omega⟩
        · exact hin_
        · exact hD_
        · omega
      · have cx2_ : ¬ ((S_.2.2.1 80 0 (40 * m_ + s_).toNat) ≤ k_) := of_decide_eq_false cx2_
        refine sm_T_go 4 (c1 := (134, [some (.inr (.inr (some (1, 0)))), some (.inl m_), some (.inl nd_), some (.inl s_), some (.inl k_)], [.inl s_, .inl 0, .inr (.inr (some (26, 0)))], S_)) rfl ?_
        refine sm_T_cal (d1 := 0) (Q1 := vq_35 0 s_ S_) rfl rfl (by decide) (vc_35 0 s_ S_ hI_ (by decide) (by omega)) (fun u_ Sx3_ px6_ => ?_)
        obtain ⟨rfl, vx8_, rfl, px6_⟩ := px6_
        have e134_ := px6_
        refine sm_T_go 1 (c1 := (139, [some (.inr (.inr (some (1, 0)))), some (.inl m_), some (.inl nd_), some (.inl s_), some (.inl k_)], [.inl k_, .inl vx8_, .inr (.inr (some (26, 0)))], S_)) rfl ?_
        refine sm_T_bin (w := vx8_ + k_) rfl (bi_add (by omega) (by omega) (by omega)) ?_
        refine sm_T_go 2 (c1 := (142, [some (.inr (.inr (some (1, 0)))), some (.inl m_), some (.inl nd_), some (.inl s_), some (.inl k_)], [.inl nd_, .inl 2, .inl (vx8_ + k_), .inr (.inr (some (26, 0)))], S_)) rfl ?_
        refine sm_T_bin (w := 2 * nd_) rfl (bi_mul (by omega) (by omega) (by omega)) ?_
        refine sm_T_iast (n := 64320) rfl rfl (by omega) (by omega) ?_
        have hIx9_ : gi (sm_aI S_ 26 0 (vx8_ + k_).toNat (2 * nd_)) := gi_aI hI_ (show 0 ≤ 2 * nd_ ∧ 2 * nd_ ≤ 2025 from ⟨by omega, by omega⟩)
        have hFx10_ : ai_fr (sx_W vw_34) S0_ (sm_aI S_ 26 0 (vx8_ + k_).toNat (2 * nd_)) := ai_fr_tr hF_ (ai_fr_aI rfl)
        have hDx11_ : idf dd_ S0_ (sm_aI S_ 26 0 (vx8_ + k_).toNat (2 * nd_)) := idf_aI hD_ (Or.inl (by decide))
        refine sm_T_inc (a := 2) (z := 1) (v := nd_) (w := nd_ + 1) rfl rfl (by omega) (by omega) (by omega) ?_
        refine sm_T_inc (a := 4) (z := 1) (v := k_) (w := k_ + 1) rfl rfl (by omega) (by omega) (by omega) ?_
        refine sm_T_go 1 (c1 := (109, [some (.inr (.inr (some (1, 0)))), some (.inl m_), some (.inl (nd_ + 1)), some (.inl s_), some (.inl (k_ + 1))], [], sm_aI S_ 26 0 (vx8_ + k_).toNat (2 * nd_))) rfl ?_
        refine ih_.2 (nd_ + 1) s_ (k_ + 1) (sm_aI S_ 26 0 (vx8_ + k_).toNat (2 * nd_)) hIx9_ hFx10_ ⟨?_, ?_, ?_, ?_, ?_, ?_, ?_, ?_, trivial⟩ ?_
        · exact hbg_
        · exact cgl_fr (w_ := ([], [26], [])) hg_ (ai_fr_aI rfl) rfl rfl rfl rfl rfl rfl rfl rfl
        · exact hb_
        · omega
        · intro s9_ hs9_
          have w_ := h1_ s9_ hs9_
          exact ⟨rwv_cg w_.1 (fun k9_ hk9_ => by have w2_ := w_.2; rw [rd_eq, if_neg (by omega)]), w_.2⟩
        · rw [show (k_ + 1).toNat = k_.toNat + 1 by omega, r_bt_s]
          refine rwv_ap (q_ := 8 * s_.toNat + k_.toNat) h2_ (by rw [r_bt_l]) (fun j9_ => ?_)
          rw [rd_eq, show (_ : Int).toNat = 8 * s_.toNat + k_.toNat from by omega]
          by_cases q9_ : j9_ = 8 * s_.toNat + k_.toNat
          · rw [if_pos q9_, if_pos q9_]; push_cast; omega
          · rw [if_neg q9_, if_neg q9_]
        · exact hin_
        · exact hDx11_
        · omega
set_option maxHeartbeats 2000000 in
theorem vc_34 {sc_ : Nat × (Nat → Int)} (m_ : Int) (tb_ : Nat → Int) (tn_ : Nat) (A_ : pA) (mm_ : Nat) (dd_ : Nat) (F_ : Nat) (I_ : Nat) (S0_ : sm_S) (hI_ : gi S0_) (hd_ : S0_.2.1 1 0 1 = some dd_) (hFn_ : (F_ : Int) = 1 + S0_.1 3 dd_ 1 + S0_.1 3 dd_ 2 ∧ 1 ≤ F_ ∧ F_ ≤ 13) (hin0_ : S0_.1 3 dd_ 1 = (I_ : Int) ∧ I_ ≤ 12 ∧ 0 ≤ S0_.1 3 dd_ 2) (hm1_ : m_ = (mm_ : Int) ∧ mm_ ≤ 15) (her_ : er1 tb_ tn_ A_ mm_ S0_) (hA_ : a_ok tb_ tn_ A_ mm_) (hsu_ : su (t_in A_ 0 mm_) (A_.1 mm_) = (I_ : Int)) : sm_T (mt_P sc_) 1 34 (0, [some (.inr (.inr (some (1, 0)))), some (.inl m_), none, none, none], [], S0_) (fun ro9_ => ∃ u_ S1_, ro9_ = (.inl u_, S1_, 0) ∧ vq_34 m_ tb_ tn_ A_ mm_ dd_ F_ I_ S0_ u_ S1_) := by
  have hF_ : ai_fr (sx_W vw_34) S0_ S0_ := ai_fr_rf
  have hD_ : idf dd_ S0_ S0_ := idf_rf
  refine sm_T_go 1 (c1 := (1, [some (.inr (.inr (some (1, 0)))), some (.inl m_), none, none, none], [.inr (.inr (some (1, 0)))], S0_)) rfl ?_
  refine sm_T_gr rfl rfl ((hF_.2.1 1 0 1 rfl).trans hd_) ?_
  refine sm_T_go 1 (c1 := (5, [some (.inr (.inr (some (1, 0)))), some (.inl m_), none, none, none], [.inr (.inr (some (1, 0))), .inr (.inr (some (3, dd_)))], S0_)) rfl ?_
  refine sm_T_gr rfl rfl ((hF_.2.1 1 0 1 rfl).trans hd_) ?_
  refine sm_T_cal (d1 := 0) (Q1 := vq_63 dd_ S0_) rfl rfl (by decide) (vc_63 dd_ S0_ hI_ (by omega)) (fun u_ Sx1_ px4_ => ?_)
  obtain ⟨rfl, vx6_, rfl, px4_⟩ := px4_
  have e8_ := px4_
  have hIx7_ : gi (sm_pI S0_ 3 dd_ 4 vx6_) := gi_pI hI_ (show 0 ≤ vx6_ ∧ vx6_ ≤ 1013 from ⟨by omega, by omega⟩)
  have hFx8_ : ai_fr (sx_W vw_34) S0_ (sm_pI S0_ 3 dd_ 4 vx6_) := ai_fr_tr hF_ (ai_fr_pI rfl)
  have hDx9_ : idf dd_ S0_ (sm_pI S0_ 3 dd_ 4 vx6_) := idf_pI hD_ (Or.inr rfl)
  refine sm_T_go 2 (c1 := (15, [some (.inr (.inr (some (1, 0)))), some (.inl m_), none, none, none], [.inr (.inr (some (1, 0)))], sm_pI S0_ 3 dd_ 4 vx6_)) rfl ?_
  refine sm_T_gr rfl rfl ((hFx8_.2.1 1 0 1 rfl).trans hd_) ?_
  have hIx10_ : gi (sm_pI (sm_pI S0_ 3 dd_ 4 vx6_) 3 dd_ 5 0) := gi_pI hIx7_ (show 0 ≤ 0 ∧ 0 ≤ 63 from ⟨by omega, by omega⟩)
  have hFx11_ : ai_fr (sx_W vw_34) S0_ (sm_pI (sm_pI S0_ 3 dd_ 4 vx6_) 3 dd_ 5 0) := ai_fr_tr hFx8_ (ai_fr_pI rfl)
  have hDx12_ : idf dd_ S0_ (sm_pI (sm_pI S0_ 3 dd_ 4 vx6_) 3 dd_ 5 0) := idf_pI hDx9_ (Or.inr rfl)
  refine sm_T_go 3 (c1 := (23, [some (.inr (.inr (some (1, 0)))), some (.inl m_), none, none, none], [.inr (.inr (some (1, 0)))], sm_pI (sm_pI S0_ 3 dd_ 4 vx6_) 3 dd_ 5 0)) rfl ?_
  refine sm_T_gr rfl rfl ((hFx11_.2.1 1 0 1 rfl).trans hd_) ?_
  refine sm_T_go 2 (c1 := (30, [some (.inr (.inr (some (1, 0)))), some (.inl m_), none, none, none], [.inl 0, .inr (.inr (some (42, (0 + dd_))))], sm_pI (sm_pI S0_ 3 dd_ 4 vx6_) 3 dd_ 5 0)) rfl ?_
  refine sm_T_cal (d1 := 0) (Q1 := vq_2l 0 dd_ (sm_pI (sm_pI S0_ 3 dd_ 4 vx6_) 3 dd_ 5 0)) rfl rfl (by decide) (vc_2l 0 dd_ (sm_pI (sm_pI S0_ 3 dd_ 4 vx6_) 3 dd_ 5 0) hIx10_ (by decide)) (fun u_ Sx13_ px16_ => ?_)
  obtain ⟨rfl, hIx14_, hFx15_, px16_⟩ := px16_
  have hFx17_ : ai_fr (sx_W vw_34) S0_ Sx13_ := ai_fr_tr hFx11_ (fr_le hFx15_ rfl)
  obtain ⟨dx19_, px16_⟩ := px16_
  have hDx18_ : idf dd_ S0_ Sx13_ := idf_tr hDx12_ dx19_
  have e30_ := px16_
  have n30_ := hFx15_.1 3 dd_ 4 rfl
  simp only [rf_eq, rf_nk, ne_eq, Nat.reduceEqDiff, not_false_eq_true] at n30_
  have m30_ := hFx15_.1 3 dd_ 5 rfl
  simp only [rf_eq, rf_nk, ne_eq, Nat.reduceEqDiff, not_false_eq_true] at m30_
  refine sm_T_go 1 (c1 := (34, [some (.inr (.inr (some (1, 0)))), some (.inl m_), none, none, none], [.inr (.inr (some (1, 0)))], Sx13_)) rfl ?_
  refine sm_T_gr rfl rfl ((hFx17_.2.1 1 0 1 rfl).trans hd_) ?_
  refine sm_T_go 2 (c1 := (41, [some (.inr (.inr (some (1, 0)))), some (.inl m_), none, none, none], [.inl 0, .inr (.inr (some (43, (0 + dd_))))], Sx13_)) rfl ?_
  refine sm_T_cal (d1 := 0) (Q1 := vq_2h 0 dd_ Sx13_) rfl rfl (by decide) (vc_2h 0 dd_ Sx13_ hIx14_ (by decide)) (fun u_ Sx20_ px23_ => ?_)
  obtain ⟨rfl, hIx21_, hFx22_, px23_⟩ := px23_
  have hFx24_ : ai_fr (sx_W vw_34) S0_ Sx20_ := ai_fr_tr hFx17_ (fr_le hFx22_ rfl)
  obtain ⟨dx26_, px23_⟩ := px23_
  have hDx25_ : idf dd_ S0_ Sx20_ := idf_tr hDx18_ dx26_
  have e41_ := px23_
  have n41_ := hFx22_.1 3 dd_ 4 rfl
  have m41_ := hFx22_.1 3 dd_ 5 rfl
  refine sm_T_go 3 (c1 := (49, [some (.inr (.inr (some (1, 0)))), some (.inl m_), none, none, none], [.inl 0, .inr (.inr (some (29, 0)))], Sx20_)) rfl ?_
  refine sm_T_cal (d1 := 0) (Q1 := vq_2b 0 Sx20_) rfl rfl (by decide) (vc_2b 0 Sx20_ hIx21_ (by decide)) (fun u_ Sx27_ px30_ => ?_)
  obtain ⟨rfl, hIx28_, hFx29_, px30_⟩ := px30_
  have hFx31_ : ai_fr (sx_W vw_34) S0_ Sx27_ := ai_fr_tr hFx24_ (fr_le hFx29_ rfl)
  have hDx32_ : idf dd_ S0_ Sx27_ := idf_tr hDx25_ (idf_fr hFx29_ (by decide) (by decide))
  have e48_ := px30_
  have n49_ := hFx29_.1 3 dd_ 4 rfl
  have m49_ := hFx29_.1 3 dd_ 5 rfl
  have hIx33_ : gi (sm_pI Sx27_ 1 0 8 0) := gi_pI hIx28_ (show 0 ≤ 0 ∧ 0 ≤ 1 from ⟨by omega, by omega⟩)
  have hFx34_ : ai_fr (sx_W vw_34) S0_ (sm_pI Sx27_ 1 0 8 0) := ai_fr_tr hFx31_ (ai_fr_pI rfl)
  have hDx35_ : idf dd_ S0_ (sm_pI Sx27_ 1 0 8 0) := idf_pI hDx32_ (Or.inl (by decide))
  have hIx36_ : gi (sm_pI (sm_pI Sx27_ 1 0 8 0) 1 0 6 0) := gi_pI hIx33_ (show 0 ≤ 0 ∧ 0 ≤ 512 from ⟨by omega, by omega⟩)
  have hFx37_ : ai_fr (sx_W vw_34) S0_ (sm_pI (sm_pI Sx27_ 1 0 8 0) 1 0 6 0) := ai_fr_tr hFx34_ (ai_fr_pI rfl)
  have hDx38_ : idf dd_ S0_ (sm_pI (sm_pI Sx27_ 1 0 8 0) 1 0 6 0) := idf_pI hDx35_ (Or.inl (by decide))
  have hIx39_ : gi (sm_pI (sm_pI (sm_pI Sx27_ 1 0 8 0) 1 0 6 0) 1 0 9 0) := gi_pI hIx36_ (show 0 ≤ 0 ∧ 0 ≤ 6 from ⟨by omega, by omega⟩)
  have hFx40_ : ai_fr (sx_W vw_34) S0_ (sm_pI (sm_pI (sm_pI Sx27_ 1 0 8 0) 1 0 6 0) 1 0 9 0) := ai_fr_tr hFx37_ (ai_fr_pI rfl)
  have hDx41_ : idf dd_ S0_ (sm_pI (sm_pI (sm_pI Sx27_ 1 0 8 0) 1 0 6 0) 1 0 9 0) := idf_pI hDx38_ (Or.inl (by decide))
  have hIx42_ : gi (sm_pI (sm_pI (sm_pI (sm_pI Sx27_ 1 0 8 0) 1 0 6 0) 1 0 9 0) 1 0 3 1) := gi_pI hIx39_ (show 0 ≤ 1 ∧ 1 ≤ 201 from ⟨by omega, by omega⟩)
  have hFx43_ : ai_fr (sx_W vw_34) S0_ (sm_pI (sm_pI (sm_pI (sm_pI Sx27_ 1 0 8 0) 1 0 6 0) 1 0 9 0) 1 0 3 1) := ai_fr_tr hFx40_ (ai_fr_pI rfl)
  have hDx44_ : idf dd_ S0_ (sm_pI (sm_pI (sm_pI (sm_pI Sx27_ 1 0 8 0) 1 0 6 0) 1 0 9 0) 1 0 3 1) := idf_pI hDx41_ (Or.inl (by decide))
  refine sm_T_go 16 (c1 := (76, [some (.inr (.inr (some (1, 0)))), some (.inl m_), some (.inl 1), some (.inl 0), none], [], sm_pI (sm_pI (sm_pI (sm_pI Sx27_ 1 0 8 0) 1 0 6 0) 1 0 9 0) 1 0 3 1)) rfl ?_
  refine (vl_34 m_ tb_ tn_ A_ mm_ dd_ F_ I_ S0_ hd_ hFn_ hin0_ hm1_ her_ hA_ hsu_ _).1 1 0 (sm_pI (sm_pI (sm_pI (sm_pI Sx27_ 1 0 8 0) 1 0 6 0) 1 0 9 0) 1 0 3 1) hIx42_ hFx43_ ⟨?_, ?_, ?_, ?_, ?_, ?_, ?_, trivial⟩ (Nat.lt_succ_self _)
  · ((try simp only [rd_eq, rd_ne, rf_eq, rf_nk, rf_nt, rd_fa, rd_af, rd_fl, rd_al, rd_lf, rd_la, rd_leq, rd_lne, rd_fr, rd_ar, ne_eq, Nat.reduceEqDiff, not_false_eq_true]); omega)
  · refine ⟨[], ⟨?_, ?_, hFn_.2, ?_, by decide, fun k_ x_ y_ e_ => by simp at e_, fun i_ j_ p_ e_ => by simp at e_, ?_⟩, Or.inl ⟨by decide, rfl, ?_⟩⟩
    · exact (hFx43_.2.1 1 0 1 rfl).trans hd_
    · have q1_ := hFn_.1; have q2_ := hFx43_.1 3 dd_ 1 rfl; have q3_ := hFx43_.1 3 dd_ 2 rfl; omega
    · (try simp only [rd_eq, rd_ne, rf_eq, rf_nk, rf_nt, rd_fa, rd_af, rd_fl, rd_al, rd_lf, rd_la, rd_leq, rd_lne, rd_fr, rd_ar, ne_eq, Nat.reduceEqDiff, not_false_eq_true]); simp only [List.length_nil]; push_cast; omega
    · exact bkr_0 (fun j_ hj_ => by (try simp only [rd_eq, rd_ne, rf_eq, rf_nk, rf_nt, rd_fa, rd_af, rd_fl, rd_al, rd_lf, rd_la, rd_leq, rd_lne, rd_fr, rd_ar, ne_eq, Nat.reduceEqDiff, not_false_eq_true]); exact e48_ j_ hj_)
    · (try simp only [rd_eq, rd_ne, rf_eq, rf_nk, rf_nt, rd_fa, rd_af, rd_fl, rd_al, rd_lf, rd_la, rd_leq, rd_lne, rd_fr, rd_ar, ne_eq, Nat.reduceEqDiff, not_false_eq_true])
  · (refine ⟨?_, ?_, ?_⟩ <;> (try simp only [rd_eq, rd_ne, rf_eq, rf_nk, rf_nt, rd_fa, rd_af, rd_fl, rd_al, rd_lf, rd_la, rd_leq, rd_lne, rd_fr, rd_ar, ne_eq, Nat.reduceEqDiff, not_false_eq_true]))
  · exact ⟨by decide, by omega, rfl⟩
  · (intro s9_ hs9_; exact absurd hs9_ (Nat.not_lt_zero _))
  · exact (hFx43_.1 3 dd_ 1 rfl).trans hin0_.1
  · exact hDx44_
