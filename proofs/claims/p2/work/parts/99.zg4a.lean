/-! the class: outputs, depth; written by wip/p55/gen/vg -/

/-! the_ design's graph as_ it_ stands -/
def dgr (dd_ F_ : Nat) (S_ : sm_S) : Prop := ((F_ : Int) = 1 + S_.1 3 dd_ 1 + S_.1 3 dd_ 2 ∧ (1 ≤ F_ ∧ F_ ≤ 13) ∧ 0 ≤ S_.1 3 dd_ 1 ∧ 0 ≤ S_.1 3 dd_ 2) ∧ ((F_ : Int) ≤ S_.1 3 dd_ 4 ∧ S_.1 3 dd_ 4 ≤ F_ + 1000) ∧ ∀ n_ : Nat, F_ ≤ n_ → (n_ : Int) < S_.1 3 dd_ 4 → 2 ≤ S_.2.2.1 42 (0 + dd_) n_ ∧ S_.2.2.1 42 (0 + dd_) n_ < S_.2.2.1 43 (0 + dd_) n_ ∧ S_.2.2.1 43 (0 + dd_) n_ < 2 * (n_ : Int)
def drt (dd_ : Nat) (S_ : sm_S) : Prop := (1 ≤ S_.1 3 dd_ 3 ∧ S_.1 3 dd_ 3 ≤ 16 ∧ 0 ≤ S_.1 3 dd_ 2 ∧ S_.1 3 dd_ 2 ≤ 6) ∧ (∀ k_ : Nat, (k_ : Int) < S_.1 3 dd_ 3 → 0 ≤ S_.2.2.1 45 (0 + dd_) k_ ∧ S_.2.2.1 45 (0 + dd_) k_ < 2 * S_.1 3 dd_ 4) ∧ ∀ k_ : Nat, (k_ : Int) < S_.1 3 dd_ 2 → 0 ≤ S_.2.2.1 46 (0 + dd_) k_ ∧ S_.2.2.1 46 (0 + dd_) k_ < 2 * S_.1 3 dd_ 4
/-- the_ literal of_ a_ root, the_ node that a_ literal stands for_ -/
def rtv (dd_ : Nat) (S_ : sm_S) (i_ : Int) : Int := if i_ < S_.1 3 dd_ 3 then S_.2.2.1 45 (0 + dd_) i_.toNat else S_.2.2.1 46 (0 + dd_) (i_ - S_.1 3 dd_ 3).toNat
def srp (dd_ : Nat) (S_ : sm_S) (l_ : Int) : Nat := (S_.2.2.1 44 (0 + dd_) (l_ / 2).toNat / 2).toNat
theorem dgr_fr {w_ : sx_Wl} {dd_ F_ : Nat} {S_ S'_ : sm_S} (h_ : dgr dd_ F_ S_) (g_ : ai_fr (sx_W w_) S_ S'_) (h1_ : (sx_W w_).1 3 1 = false) (h2_ : (sx_W w_).1 3 2 = false) (h3_ : (sx_W w_).1 3 4 = false) (h4_ : (sx_W w_).2.1 42 = false) (h5_ : (sx_W w_).2.1 43 = false) : dgr dd_ F_ S'_ := by
  unfold dgr
  rw [g_.1 3 dd_ 1 h1_, g_.1 3 dd_ 2 h2_, g_.1 3 dd_ 4 h3_, fr_arr (t := 42) g_ h4_, fr_arr (t := 43) g_ h5_]
  exact h_
theorem drt_fr {w_ : sx_Wl} {dd_ : Nat} {S_ S'_ : sm_S} (h_ : drt dd_ S_) (g_ : ai_fr (sx_W w_) S_ S'_) (h1_ : (sx_W w_).1 3 3 = false) (h2_ : (sx_W w_).1 3 2 = false) (h3_ : (sx_W w_).1 3 4 = false) (h4_ : (sx_W w_).2.1 45 = false) (h5_ : (sx_W w_).2.1 46 = false) : drt dd_ S'_ := by
  unfold drt
  rw [g_.1 3 dd_ 3 h1_, g_.1 3 dd_ 2 h2_, g_.1 3 dd_ 4 h3_, fr_arr (t := 45) g_ h4_, fr_arr (t := 46) g_ h5_]
  exact h_
theorem cgx_dgr {dd_ F_ : Nat} {G_ : pGr} {S_ : sm_S} (h_ : cgx dd_ F_ G_ S_) (hw_ : gwf F_ G_) (h1_ : 0 ≤ S_.1 3 dd_ 1) (h2_ : 0 ≤ S_.1 3 dd_ 2) : dgr dd_ F_ S_ := by
  obtain ⟨-, x2_, x3_, x4_, x5_, x6_, -, -⟩ := h_
  refine ⟨⟨x2_, x3_, h1_, h2_⟩, by rw [x4_]; push_cast; omega, fun n_ hn_ hN_ => ?_⟩
  rw [x4_] at hN_
  have l_ : n_ - F_ < G_.length := by omega
  have e_ := List.getElem?_eq_getElem l_
  have q_ := x6_ (n_ - F_) G_[n_ - F_].1 G_[n_ - F_].2 e_
  have w_ := hw_.2 (n_ - F_) G_[n_ - F_].1 G_[n_ - F_].2 e_
  rw [show F_ + (n_ - F_) = n_ by omega] at q_ w_
  rw [q_.1, q_.2]
  exact w_
/-! Builder.takeOutputs -/
def vw_45 : sx_Wl := ([], [45], [])
def vq_45 (m_ : Int) (tb_ : Nat → Int) (tn_ : Nat) (A_ : pA) (mm_ : Nat) (dd_ : Nat) (e_ : gE) (N_ : Nat) (S0_ : sm_S) (u_ : Option sm_V) (S1_ : sm_S) : Prop := u_ = none ∧ gi S1_ ∧ ai_fr (sx_W vw_45) S0_ S1_ ∧ (idf dd_ S0_ S1_ ∧ (∀ k9_ : Nat, (k9_ : Int) < su (t_in A_ 1 mm_) (A_.1 mm_) → 0 ≤ S1_.2.2.1 45 (0 + dd_) k9_ ∧ S1_.2.2.1 45 (0 + dd_) k9_ < 2 * (N_ : Int)))
set_option maxHeartbeats 1000000 in
theorem vl_45 {sc_ : Nat × (Nat → Int)} (m_ : Int) (tb_ : Nat → Int) (tn_ : Nat) (A_ : pA) (mm_ : Nat) (dd_ : Nat) (e_ : gE) (N_ : Nat) (S0_ : sm_S) (hd_ : S0_.2.1 1 0 1 = some dd_) (hm1_ : m_ = (mm_ : Int) ∧ mm_ ≤ 15) (her_ : er1 tb_ tn_ A_ mm_ S0_) (hA_ : a_ok tb_ tn_ A_ mm_) (hsu_ : su (t_in A_ 1 mm_) (A_.1 mm_) ≤ 16) (hE_ : ∀ s9_, s9_ < 40 → rwv (S0_.2.2.1 26 0) (8 * s9_) (e_ s9_)) (hln_ : ∀ s9_, s9_ < A_.1 mm_ → A_.2.2.1 (40 * mm_ + s9_) ≠ 5 → ((e_ s9_).length : Int) = A_.2.2.2.1 (40 * mm_ + s9_)) (hlw_ : ∀ s9_, lwl N_ (e_ s9_)) : ∀ nn_ : Nat, (∀ (md_ : Int) (s_ : Int) (S_ : sm_S), gi S_ → ai_fr (sx_W vw_45) S0_ S_ → ((0 ≤ s_ ∧ s_ ≤ (A_.1 mm_ : Int) ∧ md_ = su (t_in A_ 1 mm_) s_.toNat) ∧ (∀ k9_ : Nat, (k9_ : Int) < md_ → 0 ≤ S_.2.2.1 45 (0 + dd_) k9_ ∧ S_.2.2.1 45 (0 + dd_) k9_ < 2 * (N_ : Int)) ∧ (idf dd_ S0_ S_) ∧ True) → (((A_.1 mm_ : Int) - s_).toNat) < nn_ → sm_T (mt_P sc_) 1 45 (4, [some (.inr (.inr (some (1, 0)))), some (.inl m_), some (.inl md_), some (.inl s_), none], [], S_) (fun ro9_ => ∃ u_ S1_, ro9_ = (.inl u_, S1_, 0) ∧ vq_45 m_ tb_ tn_ A_ mm_ dd_ e_ N_ S0_ u_ S1_)) := by
  intro nn_
  induction nn_ with
  | zero => exact fun _ _ _ _ _ _ h_ => absurd h_ (Nat.not_lt_zero _)
  | succ nn_ ih_ =>
    rintro md_ s_ S_ hI_ hF_ ⟨h0_, h1_, hD_, -⟩ hm_
    have A40_ := (hA_.2 mm_ (Nat.le_refl _)).1
    have cn_ : S_.2.2.1 77 0 m_.toNat = (A_.1 mm_ : Int) := by rw [fr_arr (t := 77) (i := 0) hF_ rfl, show m_.toNat = mm_ by omega]; exact her_.1
    have cb_ := su_el (f_ := t_in A_ 1 mm_) (k_ := A_.1 mm_) (fun j_ hj_ => by have z_ := ((hA_.2 mm_ (Nat.le_refl _)).2 j_ hj_).2.2.1; unfold t_in; split <;> omega)
    have sv_ : s_ < (A_.1 mm_ : Int) → S_.2.2.1 79 0 (40 * m_ + s_).toNat = A_.2.2.1 (40 * mm_ + s_.toNat) ∧ S_.2.2.1 80 0 (40 * m_ + s_).toNat = A_.2.2.2.1 (40 * mm_ + s_.toNat) := by intro z_; rw [fr_arr (t := 79) (i := 0) hF_ rfl, fr_arr (t := 80) (i := 0) hF_ rfl, show (40 * m_ + s_).toNat = 40 * mm_ + s_.toNat by omega]; exact ⟨(her_.2 s_.toNat (by omega)).2.1, (her_.2 s_.toNat (by omega)).2.2.1⟩
    have s1_ : s_ < (A_.1 mm_ : Int) → su (t_in A_ 1 mm_) (s_.toNat + 1) = su (t_in A_ 1 mm_) s_.toNat + t_in A_ 1 mm_ s_.toNat ∧ su (t_in A_ 1 mm_) (s_.toNat + 1) ≤ su (t_in A_ 1 mm_) (A_.1 mm_) ∧ 0 ≤ su (t_in A_ 1 mm_) s_.toNat := fun z_ => ⟨rfl, (cb_.2.2 (s_.toNat + 1) (by omega)).2, (cb_.2.2 s_.toNat (by omega)).1⟩
    refine sm_T_go 5 (c1 := (13, [some (.inr (.inr (some (1, 0)))), some (.inl m_), some (.inl md_), some (.inl s_), none], [.inl m_, .inr (.inr (some (77, 0))), .inl s_], S_)) rfl ?_
    refine sm_T_iald (n := 17) rfl rfl (by omega) (by omega) ?_
    have bx1_ : 0 ≤ S_.2.2.1 77 0 m_.toNat ∧ S_.2.2.1 77 0 m_.toNat ≤ 40 := hI_.2 77 0 _
    refine sm_T_br (a := 3) (z := 70) rfl (fun cx2_ => ?_) (fun cx2_ => ?_)
    · have cx2_ : (S_.2.2.1 77 0 m_.toNat) ≤ s_ := of_decide_eq_true cx2_
      refine sm_T_rv rfl ⟨_, _, rfl, rfl, hI_, hF_, ?_⟩
      refine ⟨hD_, ?_⟩
      intro k9_ hk9_
      exact h1_ k9_ (by rw [show (A_.1 mm_) = s_.toNat by omega] at hk9_; omega)
    · have cx2_ : ¬ ((S_.2.2.1 77 0 m_.toNat) ≤ s_) := of_decide_eq_false cx2_
      obtain ⟨sv1_, sv2_⟩ := sv_ (by omega)
      have s2_ := s1_ (by omega)
      have wb_ := ((hA_.2 mm_ (Nat.le_refl _)).2 s_.toNat (by omega)).2.2.1
      refine sm_T_go 5 (c1 := (27, [some (.inr (.inr (some (1, 0)))), some (.inl m_), some (.inl md_), some (.inl s_), none], [.inl 40, .inl m_, .inr (.inr (some (79, 0)))], S_)) rfl ?_
      refine sm_T_bin (w := 40 * m_) rfl (bi_mul (by omega) (by omega) (by omega)) ?_
      refine sm_T_go 1 (c1 := (29, [some (.inr (.inr (some (1, 0)))), some (.inl m_), some (.inl md_), some (.inl s_), none], [.inl s_, .inl (40 * m_), .inr (.inr (some (79, 0)))], S_)) rfl ?_
      refine sm_T_bin (w := 40 * m_ + s_) rfl (bi_add (by omega) (by omega) (by omega)) ?_
      refine sm_T_iald (n := 640) rfl rfl (by omega) (by omega) ?_
      have bx3_ : 0 ≤ S_.2.2.1 79 0 (40 * m_ + s_).toNat ∧ S_.2.2.1 79 0 (40 * m_ + s_).toNat ≤ 5 := hI_.2 79 0 _
      refine sm_T_go 1 (c1 := (32, [some (.inr (.inr (some (1, 0)))), some (.inl m_), some (.inl md_), some (.inl s_), none], [.inl 1, .inl (S_.2.2.1 79 0 (40 * m_ + s_).toNat)], S_)) rfl ?_
      refine sm_T_br (a := 1) (z := 46) rfl (fun cx4_ => ?_) (fun cx4_ => ?_)
      · have cx4_ : (S_.2.2.1 79 0 (40 * m_ + s_).toNat) ≠ 1 := of_decide_eq_true cx4_
        have t9_ : t_in A_ 1 mm_ s_.toNat = 0 := by unfold t_in; rw [if_neg (by omega)]
        refine sm_T_inc (a := 3) (z := 1) (v := s_) (w := s_ + 1) rfl rfl (by omega) (by omega) (by omega) ?_
        refine sm_T_go 1 (c1 := (4, [some (.inr (.inr (some (1, 0)))), some (.inl m_), some (.inl md_), some (.inl (s_ + 1)), none], [], S_)) rfl ?_
        refine ih_ md_ (s_ + 1) S_ hI_ hF_ ⟨?_, ?_, ?_, trivial⟩ ?_
        · (rw [show (s_ + 1).toNat = s_.toNat + 1 by omega]; omega)
        · exact fun k9_ hk9_ => h1_ k9_ (by omega)
        · exact hD_
        · omega
      · have cx4_ : ¬ ((S_.2.2.1 79 0 (40 * m_ + s_).toNat) ≠ 1) := of_decide_eq_false cx4_
        have t9_ : t_in A_ 1 mm_ s_.toNat = A_.2.2.2.1 (40 * mm_ + s_.toNat) := by unfold t_in; rw [if_pos (by omega)]
        refine sm_T_go 5 (c1 := (45, [some (.inr (.inr (some (1, 0)))), some (.inl m_), some (.inl md_), some (.inl s_), none], [.inl 40, .inl m_, .inr (.inr (some (80, 0)))], S_)) rfl ?_
        refine sm_T_bin (w := 40 * m_) rfl (bi_mul (by omega) (by omega) (by omega)) ?_
        refine sm_T_go 1 (c1 := (47, [some (.inr (.inr (some (1, 0)))), some (.inl m_), some (.inl md_), some (.inl s_), none], [.inl s_, .inl (40 * m_), .inr (.inr (some (80, 0)))], S_)) rfl ?_
        refine sm_T_bin (w := 40 * m_ + s_) rfl (bi_add (by omega) (by omega) (by omega)) ?_
        refine sm_T_iald (n := 640) rfl rfl (by omega) (by omega) ?_
        have bx5_ : 0 ≤ S_.2.2.1 80 0 (40 * m_ + s_).toNat ∧ S_.2.2.1 80 0 (40 * m_ + s_).toNat ≤ 8 := hI_.2 80 0 _
        refine sm_T_go 5 (c1 := (57, [some (.inr (.inr (some (1, 0)))), some (.inl m_), some (.inl md_), some (.inl s_), some (.inl (S_.2.2.1 80 0 (40 * m_ + s_).toNat))], [.inl s_, .inl 0, .inr (.inr (some (26, 0)))], S_)) rfl ?_
        refine sm_T_cal (d1 := 0) (Q1 := vq_35 0 s_ S_) rfl rfl (by decide) (vc_35 0 s_ S_ hI_ (by decide) (by omega)) (fun u_ Sx6_ px9_ => ?_)
        obtain ⟨rfl, vx11_, rfl, px9_⟩ := px9_
        have e57_ := px9_
        refine sm_T_go 1 (c1 := (61, [some (.inr (.inr (some (1, 0)))), some (.inl m_), some (.inl md_), some (.inl s_), some (.inl (S_.2.2.1 80 0 (40 * m_ + s_).toNat))], [.inr (.inr (some (1, 0))), .inl vx11_, .inr (.inr (some (26, 0)))], S_)) rfl ?_
        refine sm_T_gr rfl rfl ((hF_.2.1 1 0 1 rfl).trans hd_) ?_
        refine sm_T_go 3 (c1 := (70, [some (.inr (.inr (some (1, 0)))), some (.inl m_), some (.inl md_), some (.inl s_), some (.inl (S_.2.2.1 80 0 (40 * m_ + s_).toNat))], [.inl (S_.2.2.1 80 0 (40 * m_ + s_).toNat), .inl md_, .inr (.inr (some (45, (0 + dd_)))), .inl vx11_, .inr (.inr (some (26, 0)))], S_)) rfl ?_
        refine sm_T_nt (u := none) (S1 := sm_acI S_ 26 0 45 (0 + dd_) vx11_.toNat md_.toNat (S_.2.2.1 80 0 (40 * m_ + s_).toNat).toNat) rfl rfl (nt_acI (sc := sc_) (n := 64320) (n1 := 16) rfl rfl (by omega) (by omega) (by omega) (by omega) (by omega)) ?_
        have hIx12_ : gi (sm_acI S_ 26 0 45 (0 + dd_) vx11_.toNat md_.toNat (S_.2.2.1 80 0 (40 * m_ + s_).toNat).toNat) := gi_ac hI_ (by decide) (by decide)
        have hFx13_ : ai_fr (sx_W vw_45) S0_ (sm_acI S_ 26 0 45 (0 + dd_) vx11_.toNat md_.toNat (S_.2.2.1 80 0 (40 * m_ + s_).toNat).toNat) := ai_fr_tr hF_ (fr_ac rfl)
        have hDx14_ : idf dd_ S0_ (sm_acI S_ 26 0 45 (0 + dd_) vx11_.toNat md_.toNat (S_.2.2.1 80 0 (40 * m_ + s_).toNat).toNat) := idf_ac hD_ (Or.inr rfl)
        refine sm_T_go 2 (c1 := (76, [some (.inr (.inr (some (1, 0)))), some (.inl m_), some (.inl md_), some (.inl s_), some (.inl (S_.2.2.1 80 0 (40 * m_ + s_).toNat))], [.inl (S_.2.2.1 80 0 (40 * m_ + s_).toNat), .inl md_], sm_acI S_ 26 0 45 (0 + dd_) vx11_.toNat md_.toNat (S_.2.2.1 80 0 (40 * m_ + s_).toNat).toNat)) rfl ?_
        refine sm_T_bin (w := md_ + (S_.2.2.1 80 0 (40 * m_ + s_).toNat)) rfl (bi_add (by omega) (by omega) (by omega)) ?_
        refine sm_T_go 1 (c1 := (78, [some (.inr (.inr (some (1, 0)))), some (.inl m_), some (.inl (md_ + (S_.2.2.1 80 0 (40 * m_ + s_).toNat))), some (.inl s_), some (.inl (S_.2.2.1 80 0 (40 * m_ + s_).toNat))], [], sm_acI S_ 26 0 45 (0 + dd_) vx11_.toNat md_.toNat (S_.2.2.1 80 0 (40 * m_ + s_).toNat).toNat)) rfl ?_
        refine sm_T_inc (a := 3) (z := 1) (v := s_) (w := s_ + 1) rfl rfl (by omega) (by omega) (by omega) ?_
        refine sm_T_go 1 (c1 := (4, [some (.inr (.inr (some (1, 0)))), some (.inl m_), some (.inl (md_ + (S_.2.2.1 80 0 (40 * m_ + s_).toNat))), some (.inl (s_ + 1)), some (.inl (S_.2.2.1 80 0 (40 * m_ + s_).toNat))], [], sm_acI S_ 26 0 45 (0 + dd_) vx11_.toNat md_.toNat (S_.2.2.1 80 0 (40 * m_ + s_).toNat).toNat)) rfl ?_
        refine sm_T_wk [some (.inr (.inr (some (1, 0)))), some (.inl m_), some (.inl (md_ + (S_.2.2.1 80 0 (40 * m_ + s_).toNat))), some (.inl (s_ + 1)), none] (by exact ⟨rfl, rfl, rfl, rfl, trivial⟩) ?_
        refine ih_ (md_ + (S_.2.2.1 80 0 (40 * m_ + s_).toNat)) (s_ + 1) (sm_acI S_ 26 0 45 (0 + dd_) vx11_.toNat md_.toNat (S_.2.2.1 80 0 (40 * m_ + s_).toNat).toNat) hIx12_ hFx13_ ⟨?_, ?_, ?_, trivial⟩ ?_
        · (rw [show (s_ + 1).toNat = s_.toNat + 1 by omega]; omega)
        · intro k9_ hk9_
          rw [sm_acI_at]
          unfold sm_cp
          have hl9_ := hln_ s_.toNat (by omega) (by omega)
          split
          · rename_i w9_
            have e9_ := rwv_lz (hE_ s_.toNat (by omega)) (hlw_ s_.toNat) (k_ := k9_ - md_.toNat) (by omega)
            rw [fr_arr (t := 26) (i := 0) hF_ rfl, show (_ : Int).toNat + (k9_ - md_.toNat) = 8 * s_.toNat + (k9_ - md_.toNat) from by omega]
            exact e9_
          · exact h1_ k9_ (by omega)
        · exact hDx14_
        · omega
set_option maxHeartbeats 1000000 in
theorem vc_45 {sc_ : Nat × (Nat → Int)} (m_ : Int) (tb_ : Nat → Int) (tn_ : Nat) (A_ : pA) (mm_ : Nat) (dd_ : Nat) (e_ : gE) (N_ : Nat) (S0_ : sm_S) (hI_ : gi S0_) (hd_ : S0_.2.1 1 0 1 = some dd_) (hm1_ : m_ = (mm_ : Int) ∧ mm_ ≤ 15) (her_ : er1 tb_ tn_ A_ mm_ S0_) (hA_ : a_ok tb_ tn_ A_ mm_) (hsu_ : su (t_in A_ 1 mm_) (A_.1 mm_) ≤ 16) (hE_ : ∀ s9_, s9_ < 40 → rwv (S0_.2.2.1 26 0) (8 * s9_) (e_ s9_)) (hln_ : ∀ s9_, s9_ < A_.1 mm_ → A_.2.2.1 (40 * mm_ + s9_) ≠ 5 → ((e_ s9_).length : Int) = A_.2.2.2.1 (40 * mm_ + s9_)) (hlw_ : ∀ s9_, lwl N_ (e_ s9_)) : sm_T (mt_P sc_) 1 45 (0, [some (.inr (.inr (some (1, 0)))), some (.inl m_), none, none, none], [], S0_) (fun ro9_ => ∃ u_ S1_, ro9_ = (.inl u_, S1_, 0) ∧ vq_45 m_ tb_ tn_ A_ mm_ dd_ e_ N_ S0_ u_ S1_) := by
  have hF_ : ai_fr (sx_W vw_45) S0_ S0_ := ai_fr_rf
  have hD_ : idf dd_ S0_ S0_ := idf_rf
  refine sm_T_go 4 (c1 := (4, [some (.inr (.inr (some (1, 0)))), some (.inl m_), some (.inl 0), some (.inl 0), none], [], S0_)) rfl ?_
  refine (vl_45 m_ tb_ tn_ A_ mm_ dd_ e_ N_ S0_ hd_ hm1_ her_ hA_ hsu_ hE_ hln_ hlw_ _) 0 0 S0_ hI_ hF_ ⟨?_, ?_, ?_, trivial⟩ (Nat.lt_succ_self _)
  · exact ⟨by decide, by omega, rfl⟩
  · (intro k9_ hk9_; omega)
  · exact hD_
