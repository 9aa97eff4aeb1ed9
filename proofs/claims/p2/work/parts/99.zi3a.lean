/-! the reference: what is told of a design; written by wip/p55/gen/vg -/

/-! what is_ told of_ a_ design, in the_ reference -/
/-- roots and next values are_ literals of_ the_ graph -/
def rrt (o_ : Int) (S_ : sm_S) : Prop := (0 ≤ o_ ∧ o_ ≤ 16) ∧ (0 ≤ S_.1 13 0 53 ∧ S_.1 13 0 53 ≤ 6) ∧ (∀ k_ : Nat, (k_ : Int) < o_ → 0 ≤ S_.2.2.1 175 0 k_ ∧ S_.2.2.1 175 0 k_ < 2 * S_.1 13 0 37) ∧ ∀ k_ : Nat, (k_ : Int) < S_.1 13 0 53 → 0 ≤ S_.2.2.1 151 0 k_ ∧ S_.2.2.1 151 0 k_ < 2 * S_.1 13 0 37
theorem rrt_fr {w_ : sx_Wl} {o_ : Int} {S_ S'_ : sm_S} (h_ : rrt o_ S_) (g_ : ai_fr (sx_W w_) S_ S'_) (h1_ : (sx_W w_).1 13 53 = false) (h2_ : (sx_W w_).1 13 37 = false) (h4_ : (sx_W w_).2.1 175 = false) (h5_ : (sx_W w_).2.1 151 = false) : rrt o_ S'_ := by
  unfold rrt
  rw [g_.1 13 0 53 h1_, g_.1 13 0 37 h2_, fr_arr (t := 175) g_ h4_, fr_arr (t := 151) g_ h5_]
  exact h_
theorem rsw_fr {w_ : sx_Wl} {F_ : Nat} {S_ S'_ : sm_S} (h_ : rsw F_ S_) (g_ : ai_fr (sx_W w_) S_ S'_) (h1_ : (sx_W w_).1 13 37 = false) (h2_ : (sx_W w_).2.1 140 = false) (h3_ : (sx_W w_).2.1 141 = false) (h4_ : (sx_W w_).2.1 172 = false) : rsw F_ S'_ := by
  unfold rsw
  rw [g_.1 13 0 37 h1_, fr_arr (t := 140) g_ h2_, fr_arr (t := 141) g_ h3_, fr_arr (t := 172) g_ h4_]
  exact h_
theorem rsl_n {F_ : Nat} {S_ : sm_S} {l_ : Int} (h_ : rsw F_ S_) (h0_ : 0 ≤ l_) (h1_ : l_ < 2 * S_.1 13 0 37) (h2_ : S_.1 13 0 37 ≤ 1013) : 0 ≤ i_xor (S_.2.2.1 172 0 (l_ / 2).toNat) (l_ % 2) / 2 ∧ i_xor (S_.2.2.1 172 0 (l_ / 2).toNat) (l_ % 2) / 2 ≤ l_ / 2 ∧ 0 ≤ i_xor (S_.2.2.1 172 0 (l_ / 2).toNat) (l_ % 2) ∧ i_xor (S_.2.2.1 172 0 (l_ / 2).toNat) (l_ % 2) ≤ 2025 := by
  obtain ⟨q1_, q2_, -⟩ := h_.2 (l_ / 2).toNat (by omega)
  have x_ := i_xb (x_ := S_.2.2.1 172 0 (l_ / 2).toNat) (b_ := l_ % 2) (by omega) (by omega)
  omega
/-! M_.gatherOutputs -/
def vw_357 : sx_Wl := ([], [175], [])
def vq_357 (b_ : Nat → Int) (n_ : Nat) (T_ : Nat) (tp_ : Nat) (B_ : pA) (e_ : gE) (N_ : Nat) (S0_ : sm_S) (u_ : Option sm_V) (S1_ : sm_S) : Prop := ∃ v_ : Int, u_ = some (.inl v_) ∧ gi S1_ ∧ ai_fr (sx_W vw_357) S0_ S1_ ∧ (v_ = su (t_in B_ 1 tp_) (B_.1 tp_) ∧ (∀ k9_ : Nat, (k9_ : Int) < v_ → 0 ≤ S1_.2.2.1 175 0 k9_ ∧ S1_.2.2.1 175 0 k9_ < 2 * (N_ : Int)))
set_option maxHeartbeats 1500000 in
theorem vl_357 {sc_ : Nat × (Nat → Int)} (b_ : Nat → Int) (n_ : Nat) (T_ : Nat) (tp_ : Nat) (B_ : pA) (e_ : gE) (N_ : Nat) (S0_ : sm_S) (hmo_ : (S0_.1 13 0 12) = (tp_ : Int) + 1 ∧ tp_ ≤ 15) (hre_ : re1 b_ n_ T_ B_ tp_ S0_) (hB_ : a_ok b_ n_ B_ tp_) (hsu_ : su (t_in B_ 1 tp_) (B_.1 tp_) ≤ 16) (hE_ : ∀ s9_, s9_ < 40 → rwv (S0_.2.2.1 144 0) (8 * s9_) (e_ s9_)) (hln_ : ∀ s9_, s9_ < B_.1 tp_ → B_.2.2.1 (40 * tp_ + s9_) ≠ 5 → ((e_ s9_).length : Int) = B_.2.2.2.1 (40 * tp_ + s9_)) (hlw_ : ∀ s9_, lwl N_ (e_ s9_)) : ∀ nn_ : Nat, (∀ (top_ : Int) (o_ : Int) (s_ : Int) (S_ : sm_S), gi S_ → ai_fr (sx_W vw_357) S0_ S_ → ((top_ = (tp_ : Int) ∧ 0 ≤ s_ ∧ s_ ≤ (B_.1 tp_ : Int) ∧ o_ = su (t_in B_ 1 tp_) s_.toNat) ∧ (∀ k9_ : Nat, (k9_ : Int) < o_ → 0 ≤ S_.2.2.1 175 0 k9_ ∧ S_.2.2.1 175 0 k9_ < 2 * (N_ : Int)) ∧ True) → ((20 * (50 - s_) + 10).toNat) < nn_ → sm_T (mt_P sc_) 0 357 (11, [some (.inr (.inr (some (13, 0)))), some (.inl top_), some (.inl o_), some (.inl s_), none], [], S_) (fun ro9_ => ∃ u_ S1_, ro9_ = (.inl u_, S1_, 0) ∧ vq_357 b_ n_ T_ tp_ B_ e_ N_ S0_ u_ S1_)) ∧ (∀ (top_ : Int) (o_ : Int) (s_ : Int) (k_ : Int) (S_ : sm_S), gi S_ → ai_fr (sx_W vw_357) S0_ S_ → ((top_ = (tp_ : Int) ∧ 0 ≤ s_ ∧ s_ < (B_.1 tp_ : Int) ∧ 0 ≤ k_ ∧ k_ ≤ B_.2.2.2.1 (40 * tp_ + s_.toNat) ∧ o_ = su (t_in B_ 1 tp_) s_.toNat + k_ ∧ (0 < k_ → B_.2.2.1 (40 * tp_ + s_.toNat) = 1)) ∧ (∀ k9_ : Nat, (k9_ : Int) < o_ → 0 ≤ S_.2.2.1 175 0 k9_ ∧ S_.2.2.1 175 0 k9_ < 2 * (N_ : Int)) ∧ True) → ((20 * (50 - s_) + 9 - k_).toNat) < nn_ → sm_T (mt_P sc_) 0 357 (24, [some (.inr (.inr (some (13, 0)))), some (.inl top_), some (.inl o_), some (.inl s_), some (.inl k_)], [], S_) (fun ro9_ => ∃ u_ S1_, ro9_ = (.inl u_, S1_, 0) ∧ vq_357 b_ n_ T_ tp_ B_ e_ N_ S0_ u_ S1_)) := by
  intro nn_
  induction nn_ with
  | zero => exact ⟨fun _ _ _ _ _ _ _ h_ => absurd h_ (Nat.not_lt_zero _), fun _ _ _ _ _ _ _ _ h_ => absurd h_ (Nat.not_lt_zero _)⟩
  | succ nn_ ih_ =>
    refine ⟨?_, ?_⟩
    · rintro top_ o_ s_ S_ hI_ hF_ ⟨h0_, h1_, -⟩ hm_
      have mo1_ : S_.1 13 0 12 = (tp_ : Int) + 1 := (hF_.1 13 0 12 rfl).trans hmo_.1
      have tp15_ := hmo_.2
      have B40_ := (hB_.2 tp_ (Nat.le_refl _)).1
      have cn_ : S_.2.2.1 126 0 top_.toNat = (B_.1 tp_ : Int) := by rw [fr_arr (t := 126) (i := 0) hF_ rfl, show top_.toNat = tp_ by omega]; exact hre_.1
      have cb_ := su_el (f_ := t_in B_ 1 tp_) (k_ := B_.1 tp_) (fun j_ hj_ => by have z_ := ((hB_.2 tp_ (Nat.le_refl _)).2 j_ hj_).2.2.1; unfold t_in; split <;> omega)
      have sv_ : s_ < (B_.1 tp_ : Int) → S_.2.2.1 128 0 (40 * top_ + s_).toNat = r_s2 (B_.2.2.1 (40 * tp_ + s_.toNat)) ∧ S_.2.2.1 129 0 (40 * top_ + s_).toNat = B_.2.2.2.1 (40 * tp_ + s_.toNat) ∧ (r_s2 (B_.2.2.1 (40 * tp_ + s_.toNat)) = 2 ↔ B_.2.2.1 (40 * tp_ + s_.toNat) = 1) := by intro z_; rw [fr_arr (t := 128) (i := 0) hF_ rfl, fr_arr (t := 129) (i := 0) hF_ rfl, show (40 * top_ + s_).toNat = 40 * tp_ + s_.toNat by omega]; exact ⟨(hre_.2 s_.toNat (by omega)).2.1, (hre_.2 s_.toNat (by omega)).2.2.1, by unfold r_s2; split <;> (try split) <;> omega⟩
      have s1_ : s_ < (B_.1 tp_ : Int) → su (t_in B_ 1 tp_) (s_.toNat + 1) = su (t_in B_ 1 tp_) s_.toNat + t_in B_ 1 tp_ s_.toNat ∧ su (t_in B_ 1 tp_) (s_.toNat + 1) ≤ su (t_in B_ 1 tp_) (B_.1 tp_) ∧ 0 ≤ su (t_in B_ 1 tp_) s_.toNat := fun z_ => ⟨rfl, (cb_.2.2 (s_.toNat + 1) (by omega)).2, (cb_.2.2 s_.toNat (by omega)).1⟩
      have f44_ : S_.2.2.1 144 0 = S0_.2.2.1 144 0 := fr_arr hF_ rfl
      have a40_ : a_ok b_ n_ B_ tp_ := hB_
      refine sm_T_go 4 (c1 := (17, [some (.inr (.inr (some (13, 0)))), some (.inl top_), some (.inl o_), some (.inl s_), none], [.inl top_, .inr (.inr (some (126, 0))), .inl s_], S_)) rfl ?_
      refine sm_T_iald (n := 16) rfl rfl (by omega) (by omega) ?_
      have bx1_ : 0 ≤ S_.2.2.1 126 0 top_.toNat ∧ S_.2.2.1 126 0 top_.toNat ≤ 40 := hI_.2 126 0 _
      refine sm_T_br (a := 3) (z := 70) rfl (fun cx2_ => ?_) (fun cx2_ => ?_)
      · have cx2_ : (S_.2.2.1 126 0 top_.toNat) ≤ s_ := of_decide_eq_true cx2_
        refine sm_T_go 1 (c1 := (89, [some (.inr (.inr (some (13, 0)))), some (.inl top_), some (.inl o_), some (.inl s_), none], [.inl o_], S_)) rfl ?_
        refine sm_T_ri rfl ⟨_, _, rfl, _, rfl, hI_, hF_, ?_⟩
        have se_ : s_.toNat = B_.1 tp_ := by omega
        rw [se_] at h0_
        refine ⟨h0_.2.2.2, fun k9_ hk9_ => h1_ k9_ ?_⟩
        omega
      · have cx2_ : ¬ ((S_.2.2.1 126 0 top_.toNat) ≤ s_) := of_decide_eq_false cx2_
        obtain ⟨sv1_, sv2_, sv3_⟩ := sv_ (by omega)
        have s2_ := s1_ (by omega)
        have wb_ := ((hB_.2 tp_ (Nat.le_refl _)).2 s_.toNat (by omega)).2.2.1
        refine sm_T_go 2 (c1 := (24, [some (.inr (.inr (some (13, 0)))), some (.inl top_), some (.inl o_), some (.inl s_), some (.inl 0)], [], S_)) rfl ?_
        refine ih_.2 top_ o_ s_ 0 S_ hI_ hF_ ⟨?_, ?_, trivial⟩ ?_
        · omega
        · exact h1_
        · omega
    · rintro top_ o_ s_ k_ S_ hI_ hF_ ⟨h0_, h1_, -⟩ hm_
      have mo1_ : S_.1 13 0 12 = (tp_ : Int) + 1 := (hF_.1 13 0 12 rfl).trans hmo_.1
      have tp15_ := hmo_.2
      have B40_ := (hB_.2 tp_ (Nat.le_refl _)).1
      have cn_ : S_.2.2.1 126 0 top_.toNat = (B_.1 tp_ : Int) := by rw [fr_arr (t := 126) (i := 0) hF_ rfl, show top_.toNat = tp_ by omega]; exact hre_.1
      have cb_ := su_el (f_ := t_in B_ 1 tp_) (k_ := B_.1 tp_) (fun j_ hj_ => by have z_ := ((hB_.2 tp_ (Nat.le_refl _)).2 j_ hj_).2.2.1; unfold t_in; split <;> omega)
      have sv_ : s_ < (B_.1 tp_ : Int) → S_.2.2.1 128 0 (40 * top_ + s_).toNat = r_s2 (B_.2.2.1 (40 * tp_ + s_.toNat)) ∧ S_.2.2.1 129 0 (40 * top_ + s_).toNat = B_.2.2.2.1 (40 * tp_ + s_.toNat) ∧ (r_s2 (B_.2.2.1 (40 * tp_ + s_.toNat)) = 2 ↔ B_.2.2.1 (40 * tp_ + s_.toNat) = 1) := by intro z_; rw [fr_arr (t := 128) (i := 0) hF_ rfl, fr_arr (t := 129) (i := 0) hF_ rfl, show (40 * top_ + s_).toNat = 40 * tp_ + s_.toNat by omega]; exact ⟨(hre_.2 s_.toNat (by omega)).2.1, (hre_.2 s_.toNat (by omega)).2.2.1, by unfold r_s2; split <;> (try split) <;> omega⟩
      have s1_ : s_ < (B_.1 tp_ : Int) → su (t_in B_ 1 tp_) (s_.toNat + 1) = su (t_in B_ 1 tp_) s_.toNat + t_in B_ 1 tp_ s_.toNat ∧ su (t_in B_ 1 tp_) (s_.toNat + 1) ≤ su (t_in B_ 1 tp_) (B_.1 tp_) ∧ 0 ≤ su (t_in B_ 1 tp_) s_.toNat := fun z_ => ⟨rfl, (cb_.2.2 (s_.toNat + 1) (by omega)).2, (cb_.2.2 s_.toNat (by omega)).1⟩
      have f44_ : S_.2.2.1 144 0 = S0_.2.2.1 144 0 := fr_arr hF_ rfl
      have a40_ : a_ok b_ n_ B_ tp_ := hB_
      obtain ⟨sv1_, sv2_, sv3_⟩ := sv_ (by omega)
      have s2_ := s1_ (by omega)
      have wb_ := ((hB_.2 tp_ (Nat.le_refl _)).2 s_.toNat (by omega)).2.2.1
      refine sm_T_go 5 (c1 := (33, [some (.inr (.inr (some (13, 0)))), some (.inl top_), some (.inl o_), some (.inl s_), some (.inl k_)], [.inl top_, .inl 40, .inr (.inr (some (129, 0))), .inl k_], S_)) rfl ?_
      refine sm_T_bin (w := 40 * top_) rfl (bi_mul (by omega) (by omega) (by omega)) ?_
      refine sm_T_go 1 (c1 := (35, [some (.inr (.inr (some (13, 0)))), some (.inl top_), some (.inl o_), some (.inl s_), some (.inl k_)], [.inl s_, .inl (40 * top_), .inr (.inr (some (129, 0))), .inl k_], S_)) rfl ?_
      refine sm_T_bin (w := 40 * top_ + s_) rfl (bi_add (by omega) (by omega) (by omega)) ?_
      refine sm_T_iald (n := 640) rfl rfl (by omega) (by omega) ?_
      have bx1_ : 0 ≤ S_.2.2.1 129 0 (40 * top_ + s_).toNat ∧ S_.2.2.1 129 0 (40 * top_ + s_).toNat ≤ 8 := hI_.2 129 0 _
      refine sm_T_br (a := 3) (z := 45) rfl (fun cx2_ => ?_) (fun cx2_ => ?_)
      · have cx2_ : (S_.2.2.1 129 0 (40 * top_ + s_).toNat) ≤ k_ := of_decide_eq_true cx2_
        refine sm_T_inc (a := 3) (z := 1) (v := s_) (w := s_ + 1) rfl rfl (by omega) (by omega) (by omega) ?_
        refine sm_T_go 1 (c1 := (11, [some (.inr (.inr (some (13, 0)))), some (.inl top_), some (.inl o_), some (.inl (s_ + 1)), some (.inl k_)], [], S_)) rfl ?_
        refine sm_T_wk [some (.inr (.inr (some (13, 0)))), some (.inl top_), some (.inl o_), some (.inl (s_ + 1)), none] (by exact ⟨rfl, rfl, rfl, rfl, trivial⟩) ?_
        refine ih_.1 top_ o_ (s_ + 1) S_ hI_ hF_ ⟨?_, ?_, trivial⟩ ?_
        · have t9_ : t_in B_ 1 tp_ s_.toNat = k_ := by unfold t_in; split <;> omega
          rw [show (s_ + 1).toNat = s_.toNat + 1 by omega]
          omega
        · exact h1_
        · omega
      · have cx2_ : ¬ ((S_.2.2.1 129 0 (40 * top_ + s_).toNat) ≤ k_) := of_decide_eq_false cx2_
        refine sm_T_go 4 (c1 := (47, [some (.inr (.inr (some (13, 0)))), some (.inl top_), some (.inl o_), some (.inl s_), some (.inl k_)], [.inl top_, .inl 40, .inr (.inr (some (128, 0)))], S_)) rfl ?_
        refine sm_T_bin (w := 40 * top_) rfl (bi_mul (by omega) (by omega) (by omega)) ?_
        refine sm_T_go 1 (c1 := (49, [some (.inr (.inr (some (13, 0)))), some (.inl top_), some (.inl o_), some (.inl s_), some (.inl k_)], [.inl s_, .inl (40 * top_), .inr (.inr (some (128, 0)))], S_)) rfl ?_
        refine sm_T_bin (w := 40 * top_ + s_) rfl (bi_add (by omega) (by omega) (by omega)) ?_
        refine sm_T_iald (n := 640) rfl rfl (by omega) (by omega) ?_
        have bx3_ : 0 ≤ S_.2.2.1 128 0 (40 * top_ + s_).toNat ∧ S_.2.2.1 128 0 (40 * top_ + s_).toNat ≤ 5 := hI_.2 128 0 _
        refine sm_T_go 1 (c1 := (52, [some (.inr (.inr (some (13, 0)))), some (.inl top_), some (.inl o_), some (.inl s_), some (.inl k_)], [.inl 2, .inl (S_.2.2.1 128 0 (40 * top_ + s_).toNat)], S_)) rfl ?_
        refine sm_T_br (a := 1) (z := 30) rfl (fun cx4_ => ?_) (fun cx4_ => ?_)
        · have cx4_ : (S_.2.2.1 128 0 (40 * top_ + s_).toNat) ≠ 2 := of_decide_eq_true cx4_
          refine sm_T_inc (a := 3) (z := 1) (v := s_) (w := s_ + 1) rfl rfl (by omega) (by omega) (by omega) ?_
          refine sm_T_go 1 (c1 := (11, [some (.inr (.inr (some (13, 0)))), some (.inl top_), some (.inl o_), some (.inl (s_ + 1)), some (.inl k_)], [], S_)) rfl ?_
          refine sm_T_wk [some (.inr (.inr (some (13, 0)))), some (.inl top_), some (.inl o_), some (.inl (s_ + 1)), none] (by exact ⟨rfl, rfl, rfl, rfl, trivial⟩) ?_
          refine ih_.1 top_ o_ (s_ + 1) S_ hI_ hF_ ⟨?_, ?_, trivial⟩ ?_
          · have t9_ : t_in B_ 1 tp_ s_.toNat = k_ := by unfold t_in; split <;> omega
            rw [show (s_ + 1).toNat = s_.toNat + 1 by omega]
            omega
          · exact h1_
          · omega
        · have cx4_ : ¬ ((S_.2.2.1 128 0 (40 * top_ + s_).toNat) ≠ 2) := of_decide_eq_false cx4_
          have k1_ : B_.2.2.1 (40 * tp_ + s_.toNat) = 1 := sv3_.mp (by rw [← sv1_]; omega)
          have t9_ : t_in B_ 1 tp_ s_.toNat = B_.2.2.2.1 (40 * tp_ + s_.toNat) := by unfold t_in; rw [if_pos k1_]
          have ln9_ := hln_ s_.toNat (by omega) (by omega)
          have e9_ := rwv_lz (hE_ s_.toNat (by omega)) (hlw_ s_.toNat) (k_ := k_.toNat) (by omega)
          rw [← f44_, show 8 * s_.toNat + k_.toNat = (8 * s_ + k_).toNat by omega] at e9_
          have cp9_ : S_.2.2.1 144 0 (8 * s_ + k_).toNat ≤ 2047 := (hI_.2 144 0 _).2
          refine sm_T_go 7 (c1 := (67, [some (.inr (.inr (some (13, 0)))), some (.inl top_), some (.inl o_), some (.inl s_), some (.inl k_)], [.inl s_, .inl 8, .inr (.inr (some (144, 0))), .inl o_, .inr (.inr (some (175, 0)))], S_)) rfl ?_
          refine sm_T_bin (w := 8 * s_) rfl (bi_mul (by omega) (by omega) (by omega)) ?_
          refine sm_T_go 1 (c1 := (70, [some (.inr (.inr (some (13, 0)))), some (.inl top_), some (.inl o_), some (.inl s_), some (.inl k_)], [.inl k_, .inl (8 * s_), .inr (.inr (some (144, 0))), .inl o_, .inr (.inr (some (175, 0)))], S_)) rfl ?_
          refine sm_T_bin (w := 8 * s_ + k_) rfl (bi_add (by omega) (by omega) (by omega)) ?_
          refine sm_T_iald (n := 5120) rfl rfl (by omega) (by omega) ?_
          have bx5_ : 0 ≤ S_.2.2.1 144 0 (8 * s_ + k_).toNat ∧ S_.2.2.1 144 0 (8 * s_ + k_).toNat ≤ 2047 := hI_.2 144 0 _
          refine sm_T_iast (n := 16) rfl rfl (by omega) (by omega) ?_
          have hIx6_ : gi (sm_aI S_ 175 0 o_.toNat (S_.2.2.1 144 0 (8 * s_ + k_).toNat)) := gi_aI hI_ (show 0 ≤ (S_.2.2.1 144 0 (8 * s_ + k_).toNat) ∧ (S_.2.2.1 144 0 (8 * s_ + k_).toNat) ≤ 2047 from ⟨by omega, by omega⟩)
          have hFx7_ : ai_fr (sx_W vw_357) S0_ (sm_aI S_ 175 0 o_.toNat (S_.2.2.1 144 0 (8 * s_ + k_).toNat)) := ai_fr_tr hF_ (ai_fr_aI rfl)
          refine sm_T_inc (a := 2) (z := 1) (v := o_) (w := o_ + 1) rfl rfl (by omega) (by omega) (by omega) ?_
          refine sm_T_inc (a := 4) (z := 1) (v := k_) (w := k_ + 1) rfl rfl (by omega) (by omega) (by omega) ?_
          refine sm_T_go 1 (c1 := (24, [some (.inr (.inr (some (13, 0)))), some (.inl top_), some (.inl (o_ + 1)), some (.inl s_), some (.inl (k_ + 1))], [], sm_aI S_ 175 0 o_.toNat (S_.2.2.1 144 0 (8 * s_ + k_).toNat))) rfl ?_
          refine ih_.2 top_ (o_ + 1) s_ (k_ + 1) (sm_aI S_ 175 0 o_.toNat (S_.2.2.1 144 0 (8 * s_ + k_).toNat)) hIx6_ hFx7_ ⟨?_, ?_, trivial⟩ ?_
          · omega
          · intro k9_ hk9_
            rw [rd_eq]
            by_cases z9_ : (k9_ : Int) = o_
            · rw [if_pos (by omega)]; exact e9_
            · rw [if_neg (by omega)]; exact h1_ k9_ (by omega)
          · omega
set_option maxHeartbeats 1500000 in
theorem vc_357 {sc_ : Nat × (Nat → Int)} (b_ : Nat → Int) (n_ : Nat) (T_ : Nat) (tp_ : Nat) (B_ : pA) (e_ : gE) (N_ : Nat) (S0_ : sm_S) (hI_ : gi S0_) (hmo_ : (S0_.1 13 0 12) = (tp_ : Int) + 1 ∧ tp_ ≤ 15) (hre_ : re1 b_ n_ T_ B_ tp_ S0_) (hB_ : a_ok b_ n_ B_ tp_) (hsu_ : su (t_in B_ 1 tp_) (B_.1 tp_) ≤ 16) (hE_ : ∀ s9_, s9_ < 40 → rwv (S0_.2.2.1 144 0) (8 * s9_) (e_ s9_)) (hln_ : ∀ s9_, s9_ < B_.1 tp_ → B_.2.2.1 (40 * tp_ + s9_) ≠ 5 → ((e_ s9_).length : Int) = B_.2.2.2.1 (40 * tp_ + s9_)) (hlw_ : ∀ s9_, lwl N_ (e_ s9_)) : sm_T (mt_P sc_) 0 357 (0, [some (.inr (.inr (some (13, 0)))), none, none, none, none], [], S0_) (fun ro9_ => ∃ u_ S1_, ro9_ = (.inl u_, S1_, 0) ∧ vq_357 b_ n_ T_ tp_ B_ e_ N_ S0_ u_ S1_) := by
  have hF_ : ai_fr (sx_W vw_357) S0_ S0_ := ai_fr_rf
  have bx1_ : 0 ≤ S0_.1 13 0 12 ∧ S0_.1 13 0 12 ≤ 16 := hI_.1 13 0 12 rfl
  refine sm_T_go 3 (c1 := (5, [some (.inr (.inr (some (13, 0)))), none, none, none, none], [.inl 1, .inl (S0_.1 13 0 12)], S0_)) rfl ?_
  refine sm_T_bin (w := (S0_.1 13 0 12) - 1) rfl (bi_sub (by omega) (by omega) (by omega)) ?_
  refine sm_T_go 5 (c1 := (11, [some (.inr (.inr (some (13, 0)))), some (.inl ((S0_.1 13 0 12) - 1)), some (.inl 0), some (.inl 0), none], [], S0_)) rfl ?_
  refine (vl_357 b_ n_ T_ tp_ B_ e_ N_ S0_ hmo_ hre_ hB_ hsu_ hE_ hln_ hlw_ _).1 ((S0_.1 13 0 12) - 1) 0 0 S0_ hI_ hF_ ⟨?_, ?_, trivial⟩ (Nat.lt_succ_self _)
  · exact ⟨by omega, by decide, by omega, rfl⟩
  · (intro k9_ hk9_; omega)
