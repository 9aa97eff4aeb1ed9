/-! 99.zn1f -/
section
/-! Mapper.isBefore -/
def vw_104 : sx_Wl := ([], [], [])
def vq_104 (a1_ : Int) (a2_ : Int) (S0_ : sm_S) (u_ : Option sm_V) (S1_ : sm_S) : Prop := S0_ = S1_ ∧ ∃ v_ : Int, u_ = some (.inl v_) ∧ (0 ≤ v_ ∧ v_ ≤ 1)
set_option maxHeartbeats 400000 in
theorem vl_104 {sc_ : Nat × (Nat → Int)} (a1_ : Int) (a2_ : Int) (S0_ : sm_S) (h1_ : 0 ≤ a1_ ∧ a1_ ≤ 1023) (h2_ : 0 ≤ a2_ ∧ a2_ ≤ 1023) : ∀ nn_ : Nat, (∀ (k_ : Int) (S_ : sm_S), gi S_ → ai_fr (sx_W vw_104) S0_ S_ → ((0 ≤ k_ ∧ k_ ≤ 3) ∧ (S_ = S0_) ∧ True) → ((10 - k_).toNat) < nn_ → sm_T (mt_P sc_) 0 104 (2, [some (.inr (.inr (some (6, 0)))), some (.inl a1_), some (.inl a2_), some (.inl k_)], [], S_) (fun ro9_ => ∃ u_ S1_, ro9_ = (.inl u_, S1_, 0) ∧ vq_104 a1_ a2_ S0_ u_ S1_)) := by
  intro nn_
  induction nn_ with
  | zero => exact fun _ _ _ _ _ h_ => absurd h_ (Nat.not_lt_zero _)
  | succ nn_ ih_ =>
    rintro k_ S_ hI_ hF_ ⟨h0_, hS_, -⟩ hm_
    refine sm_T_go 2 (c1 := (4, [some (.inr (.inr (some (6, 0)))), some (.inl a1_), some (.inl a2_), some (.inl k_)], [.inl 3, .inl k_], S_)) rfl ?_
    refine sm_T_br (a := 3) (z := 61) rfl (fun cx1_ => ?_) (fun cx1_ => ?_)
    · have cx1_ : 3 ≤ k_ := of_decide_eq_true cx1_
      refine sm_T_go 1 (c1 := (66, [some (.inr (.inr (some (6, 0)))), some (.inl a1_), some (.inl a2_), some (.inl k_)], [.inl 0], S_)) rfl ?_
      refine sm_T_rz rfl (by omega) ⟨_, _, rfl, (by first | rfl | exact hS_.symm), _, rfl, ?_⟩
      omega
    · have cx1_ : ¬ (3 ≤ k_) := of_decide_eq_false cx1_
      refine sm_T_go 4 (c1 := (13, [some (.inr (.inr (some (6, 0)))), some (.inl a1_), some (.inl a2_), some (.inl k_)], [.inl a1_, .inl 3, .inr (.inr (some (65, 0)))], S_)) rfl ?_
      refine sm_T_bin (w := 3 * a1_) rfl (bi_mul (by omega) (by omega) (by omega)) ?_ -- pc_ 13
      refine sm_T_go 1 (c1 := (15, [some (.inr (.inr (some (6, 0)))), some (.inl a1_), some (.inl a2_), some (.inl k_)], [.inl k_, .inl (3 * a1_), .inr (.inr (some (65, 0)))], S_)) rfl ?_
      refine sm_T_bin (w := 3 * a1_ + k_) rfl (bi_add (by omega) (by omega) (by omega)) ?_ -- pc_ 15
      refine sm_T_iald (n := 3072) rfl rfl (by omega) (by omega) ?_
      have bx2_ : (-1) ≤ S_.2.2.1 65 0 (3 * a1_ + k_).toNat ∧ S_.2.2.1 65 0 (3 * a1_ + k_).toNat ≤ 1012 := hI_.2 65 0 _
      refine sm_T_go 4 (c1 := (23, [some (.inr (.inr (some (6, 0)))), some (.inl a1_), some (.inl a2_), some (.inl k_)], [.inl a2_, .inl 3, .inr (.inr (some (65, 0))), .inl (S_.2.2.1 65 0 (3 * a1_ + k_).toNat)], S_)) rfl ?_
      refine sm_T_bin (w := 3 * a2_) rfl (bi_mul (by omega) (by omega) (by omega)) ?_ -- pc_ 23
      refine sm_T_go 1 (c1 := (25, [some (.inr (.inr (some (6, 0)))), some (.inl a1_), some (.inl a2_), some (.inl k_)], [.inl k_, .inl (3 * a2_), .inr (.inr (some (65, 0))), .inl (S_.2.2.1 65 0 (3 * a1_ + k_).toNat)], S_)) rfl ?_
      refine sm_T_bin (w := 3 * a2_ + k_) rfl (bi_add (by omega) (by omega) (by omega)) ?_ -- pc_ 25
      refine sm_T_iald (n := 3072) rfl rfl (by omega) (by omega) ?_
      have bx3_ : (-1) ≤ S_.2.2.1 65 0 (3 * a2_ + k_).toNat ∧ S_.2.2.1 65 0 (3 * a2_ + k_).toNat ≤ 1012 := hI_.2 65 0 _
      refine sm_T_br (a := 0) (z := 32) rfl (fun cx4_ => ?_) (fun cx4_ => ?_)
      · have cx4_ : (S_.2.2.1 65 0 (3 * a1_ + k_).toNat) = (S_.2.2.1 65 0 (3 * a2_ + k_).toNat) := of_decide_eq_true cx4_
        refine sm_T_inc (a := 3) (z := 1) (v := k_) (w := k_ + 1) rfl rfl (by omega) (by omega) (by omega) ?_ -- pc_ 59
        refine sm_T_go 1 (c1 := (2, [some (.inr (.inr (some (6, 0)))), some (.inl a1_), some (.inl a2_), some (.inl (k_ + 1))], [], S_)) rfl ?_
        refine ih_ (k_ + 1) S_ hI_ hF_ ⟨?_, ?_, trivial⟩ ?_
        · omega
        · first | rfl | exact hS_
        · omega
      · have cx4_ : ¬ ((S_.2.2.1 65 0 (3 * a1_ + k_).toNat) = (S_.2.2.1 65 0 (3 * a2_ + k_).toNat)) := of_decide_eq_false cx4_
        refine sm_T_go 4 (c1 := (36, [some (.inr (.inr (some (6, 0)))), some (.inl a1_), some (.inl a2_), some (.inl k_)], [.inl a1_, .inl 3, .inr (.inr (some (65, 0)))], S_)) rfl ?_
        refine sm_T_bin (w := 3 * a1_) rfl (bi_mul (by omega) (by omega) (by omega)) ?_ -- pc_ 36
        refine sm_T_go 1 (c1 := (38, [some (.inr (.inr (some (6, 0)))), some (.inl a1_), some (.inl a2_), some (.inl k_)], [.inl k_, .inl (3 * a1_), .inr (.inr (some (65, 0)))], S_)) rfl ?_
        refine sm_T_bin (w := 3 * a1_ + k_) rfl (bi_add (by omega) (by omega) (by omega)) ?_ -- pc_ 38
        refine sm_T_iald (n := 3072) rfl rfl (by omega) (by omega) ?_
        refine sm_T_go 4 (c1 := (46, [some (.inr (.inr (some (6, 0)))), some (.inl a1_), some (.inl a2_), some (.inl k_)], [.inl a2_, .inl 3, .inr (.inr (some (65, 0))), .inl (S_.2.2.1 65 0 (3 * a1_ + k_).toNat)], S_)) rfl ?_
        refine sm_T_bin (w := 3 * a2_) rfl (bi_mul (by omega) (by omega) (by omega)) ?_ -- pc_ 46
        refine sm_T_go 1 (c1 := (48, [some (.inr (.inr (some (6, 0)))), some (.inl a1_), some (.inl a2_), some (.inl k_)], [.inl k_, .inl (3 * a2_), .inr (.inr (some (65, 0))), .inl (S_.2.2.1 65 0 (3 * a1_ + k_).toNat)], S_)) rfl ?_
        refine sm_T_bin (w := 3 * a2_ + k_) rfl (bi_add (by omega) (by omega) (by omega)) ?_ -- pc_ 48
        refine sm_T_iald (n := 3072) rfl rfl (by omega) (by omega) ?_
        refine sm_T_br (a := 3) (z := 7) rfl (fun cx5_ => ?_) (fun cx5_ => ?_)
        · have cx5_ : (S_.2.2.1 65 0 (3 * a2_ + k_).toNat) ≤ (S_.2.2.1 65 0 (3 * a1_ + k_).toNat) := of_decide_eq_true cx5_
          refine sm_T_go 1 (c1 := (58, [some (.inr (.inr (some (6, 0)))), some (.inl a1_), some (.inl a2_), some (.inl k_)], [.inl 0], S_)) rfl ?_
          refine sm_T_rz rfl (by omega) ⟨_, _, rfl, (by first | rfl | exact hS_.symm), _, rfl, ?_⟩
          omega
        · have cx5_ : ¬ ((S_.2.2.1 65 0 (3 * a2_ + k_).toNat) ≤ (S_.2.2.1 65 0 (3 * a1_ + k_).toNat)) := of_decide_eq_false cx5_
          refine sm_T_go 2 (c1 := (58, [some (.inr (.inr (some (6, 0)))), some (.inl a1_), some (.inl a2_), some (.inl k_)], [.inl 1], S_)) rfl ?_
          refine sm_T_rz rfl (by omega) ⟨_, _, rfl, (by first | rfl | exact hS_.symm), _, rfl, ?_⟩
          omega
set_option maxHeartbeats 400000 in
theorem vc_104 {sc_ : Nat × (Nat → Int)} (a1_ : Int) (a2_ : Int) (S0_ : sm_S) (hI_ : gi S0_) (h1_ : 0 ≤ a1_ ∧ a1_ ≤ 1023) (h2_ : 0 ≤ a2_ ∧ a2_ ≤ 1023) : sm_T (mt_P sc_) 0 104 (0, [some (.inr (.inr (some (6, 0)))), some (.inl a1_), some (.inl a2_), none], [], S0_) (fun ro9_ => ∃ u_ S1_, ro9_ = (.inl u_, S1_, 0) ∧ vq_104 a1_ a2_ S0_ u_ S1_) := by
  have hF_ : ai_fr (sx_W vw_104) S0_ S0_ := ai_fr_rf
  refine sm_T_go 2 (c1 := (2, [some (.inr (.inr (some (6, 0)))), some (.inl a1_), some (.inl a2_), some (.inl 0)], [], S0_)) rfl ?_
  refine (vl_104 a1_ a2_ S0_ h1_ h2_ _) 0 S0_ hI_ hF_ ⟨?_, ?_, trivial⟩ (Nat.lt_succ_self _)
  · omega
  · first | rfl | exact hS_

/-- members and cuts: nodes of_ a_ kind -/
def mms (P_ : Int → Prop) (S_ : sm_S) (k_ h_ : Int) : Prop := ∀ i_ : Nat, (i_ : Int) ≤ k_ → (i_ : Int) ≠ h_ → P_ (S_.2.2.1 68 0 i_)
def mcs (P_ : Int → Prop) (S_ : sm_S) : Prop := ∀ c_ : Nat, (c_ : Int) < S_.1 6 0 11 → P_ (S_.2.2.1 65 0 (3 * c_)) ∧ P_ (S_.2.2.1 65 0 (3 * c_ + 1)) ∧ (S_.2.2.1 65 0 (3 * c_ + 2) = -1 ∨ P_ (S_.2.2.1 65 0 (3 * c_ + 2)))
theorem mms_mv {P_ : Int → Prop} {S_ : sm_S} {k_ h_ : Int} (g_ : mms P_ S_ k_ h_) (h0_ : 1 ≤ h_ ∧ h_ ≤ k_) : mms P_ (sm_aI S_ 68 0 h_.toNat (S_.2.2.1 68 0 (h_ - 1).toNat)) k_ (h_ - 1) := by
  intro i_ hi_ hn_
  rw [rd_eq]
  by_cases y_ : i_ = h_.toNat
  · rw [if_pos y_]; exact g_ (h_ - 1).toNat (by omega) (by omega)
  · rw [if_neg y_]; exact g_ i_ hi_ (by omega)
end
/-! 99.zn1g -/
section
/-! Mapper.addMember -/
def vw_101 : sx_Wl := ([(6, 13)], [68], [])
def vq_101 (a1_ : Int) (P_ : Int → Prop) (S0_ : sm_S) (u_ : Option sm_V) (S1_ : sm_S) : Prop := u_ = none ∧ gi S1_ ∧ ai_fr (sx_W vw_101) S0_ S1_ ∧ (S0_.1 6 0 13 ≤ S1_.1 6 0 13 ∧ S1_.1 6 0 13 ≤ S0_.1 6 0 13 + 1 ∧ mms P_ S1_ (S1_.1 6 0 13) (S1_.1 6 0 13) ∧ imq (a1_ ≠ -1) (1 ≤ S1_.1 6 0 13) ∧ imq (a1_ ≠ -1 ∧ S0_.1 6 0 13 = 0) (S1_.2.2.1 68 0 0 = a1_) ∧ imq (a1_ ≠ -1 ∧ S0_.1 6 0 13 = 1 ∧ S0_.2.2.1 68 0 0 ≠ a1_) (S1_.1 6 0 13 = 2))
set_option maxHeartbeats 400000 in
theorem vl_101 {sc_ : Nat × (Nat → Int)} (a1_ : Int) (P_ : Int → Prop) (S0_ : sm_S) (h1_ : -1 ≤ a1_ ∧ a1_ ≤ 1012) (h3_ : S0_.1 6 0 13 ≤ 3) (hms_ : mms P_ S0_ (S0_.1 6 0 13) (S0_.1 6 0 13)) (hp_ : a1_ ≠ -1 → P_ a1_) : ∀ nn_ : Nat, (∀ (a9_ : Int) (k_ : Int) (S_ : sm_S), gi S_ → ai_fr (sx_W vw_101) S0_ S_ → ((0 ≤ k_ ∧ k_ ≤ S0_.1 6 0 13 ∧ a9_ = S0_.1 6 0 13 ∧ a1_ ≠ -1) ∧ (S_ = S0_) ∧ (∀ j_ : Nat, (j_ : Int) < k_ → S0_.2.2.1 68 0 j_ ≠ a1_) ∧ True) → ((100 - k_).toNat) < nn_ → sm_T (mt_P sc_) 0 101 (13, [some (.inr (.inr (some (6, 0)))), some (.inl a1_), some (.inl a9_), some (.inl k_)], [], S_) (fun ro9_ => ∃ u_ S1_, ro9_ = (.inl u_, S1_, 0) ∧ vq_101 a1_ P_ S0_ u_ S1_)) ∧ (∀ (a9_ : Int) (S_ : sm_S), gi S_ → ai_fr (sx_W vw_101) S0_ S_ → ((0 ≤ a9_ ∧ a9_ ≤ S0_.1 6 0 13 ∧ S_.1 6 0 13 = S0_.1 6 0 13 ∧ a1_ ≠ -1) ∧ (mms P_ S_ (S0_.1 6 0 13) a9_) ∧ True) → ((10 + a9_).toNat) < nn_ → sm_T (mt_P sc_) 0 101 (38, [some (.inr (.inr (some (6, 0)))), some (.inl a1_), some (.inl a9_), none], [], S_) (fun ro9_ => ∃ u_ S1_, ro9_ = (.inl u_, S1_, 0) ∧ vq_101 a1_ P_ S0_ u_ S1_)) := by
  intro nn_
  induction nn_ with
  | zero => exact ⟨fun _ _ _ _ _ _ h_ => absurd h_ (Nat.not_lt_zero _), fun _ _ _ _ _ h_ => absurd h_ (Nat.not_lt_zero _)⟩
  | succ nn_ ih_ =>
    refine ⟨?_, ?_⟩
    · rintro a9_ k_ S_ hI_ hF_ ⟨h0_, hS_, hj0_, -⟩ hm_
      have cm_ : 0 ≤ S_.1 6 0 13 ∧ S_.1 6 0 13 ≤ 4 := hI_.1 6 0 13 rfl
      have es_ : S_.1 6 0 13 = S0_.1 6 0 13 := by rw [hS_]
      have bx1_ : 0 ≤ S_.1 6 0 13 ∧ S_.1 6 0 13 ≤ 4 := hI_.1 6 0 13 rfl
      refine sm_T_go 3 (c1 := (18, [some (.inr (.inr (some (6, 0)))), some (.inl a1_), some (.inl a9_), some (.inl k_)], [.inl (S_.1 6 0 13), .inl k_], S_)) rfl ?_
      refine sm_T_br (a := 3) (z := 20) rfl (fun cx2_ => ?_) (fun cx2_ => ?_)
      · have cx2_ : (S_.1 6 0 13) ≤ k_ := of_decide_eq_true cx2_
        refine sm_T_go 0 (c1 := (38, [some (.inr (.inr (some (6, 0)))), some (.inl a1_), some (.inl a9_), some (.inl k_)], [], S_)) rfl ?_
        refine sm_T_wk [some (.inr (.inr (some (6, 0)))), some (.inl a1_), some (.inl a9_), none] (by exact ⟨rfl, rfl, rfl, trivial⟩) ?_
        refine ih_.2 a9_ S_ hI_ hF_ ⟨?_, ?_, trivial⟩ ?_
        · (rw [hS_]; omega)
        · (rw [hS_]; rw [show a9_ = S0_.1 6 0 13 by omega]; exact hms_)
        · omega
      · have cx2_ : ¬ ((S_.1 6 0 13) ≤ k_) := of_decide_eq_false cx2_
        refine sm_T_go 3 (c1 := (26, [some (.inr (.inr (some (6, 0)))), some (.inl a1_), some (.inl a9_), some (.inl k_)], [.inl k_, .inr (.inr (some (68, 0)))], S_)) rfl ?_
        refine sm_T_iald (n := 4) rfl rfl (by omega) (by omega) ?_
        have bx3_ : 0 ≤ S_.2.2.1 68 0 k_.toNat ∧ S_.2.2.1 68 0 k_.toNat ≤ 1012 := hI_.2 68 0 _
        refine sm_T_go 1 (c1 := (28, [some (.inr (.inr (some (6, 0)))), some (.inl a1_), some (.inl a9_), some (.inl k_)], [.inl a1_, .inl (S_.2.2.1 68 0 k_.toNat)], S_)) rfl ?_
        refine sm_T_br (a := 1) (z := 4) rfl (fun cx4_ => ?_) (fun cx4_ => ?_)
        · have cx4_ : (S_.2.2.1 68 0 k_.toNat) ≠ a1_ := of_decide_eq_true cx4_
          refine sm_T_inc (a := 3) (z := 1) (v := k_) (w := k_ + 1) rfl rfl (by omega) (by omega) (by omega) ?_ -- pc_ 32
          refine sm_T_go 1 (c1 := (13, [some (.inr (.inr (some (6, 0)))), some (.inl a1_), some (.inl a9_), some (.inl (k_ + 1))], [], S_)) rfl ?_
          refine ih_.1 a9_ (k_ + 1) S_ hI_ hF_ ⟨?_, ?_, ?_, trivial⟩ ?_
          · omega
          · exact hS_
          · intro j_ hj_
            by_cases y_ : (j_ : Int) = k_
            · rw [show j_ = k_.toNat by omega, ← hS_]; omega
            · exact hj0_ j_ (by omega)
          · omega
        · have cx4_ : ¬ ((S_.2.2.1 68 0 k_.toNat) ≠ a1_) := of_decide_eq_false cx4_
          refine sm_T_rv rfl ⟨_, _, rfl, rfl, hI_, hF_, ?_⟩
          rw [hS_] at *
          have q9_ : S0_.2.2.1 68 0 k_.toNat = a1_ := by omega
          exact ⟨by omega, by omega, hms_, fun _ => by omega, fun u_ => by (exfalso; omega), fun u_ => by (rw [show k_.toNat = 0 by omega] at q9_; exact absurd q9_ u_.2.2)⟩
    · rintro a9_ S_ hI_ hF_ ⟨h0_, hh_, -⟩ hm_
      have cm_ : 0 ≤ S_.1 6 0 13 ∧ S_.1 6 0 13 ≤ 4 := hI_.1 6 0 13 rfl
      refine sm_T_go 1 (c1 := (39, [some (.inr (.inr (some (6, 0)))), some (.inl a1_), some (.inl a9_), none], [.inl a9_], S_)) rfl ?_
      refine sm_T_b0 (a := 5) (z := 35) rfl (fun cx1_ => ?_) (fun cx1_ => ?_)
      · have cx1_ : a9_ ≤ 0 := of_decide_eq_true cx1_
        refine sm_T_go 4 (c1 := (80, [some (.inr (.inr (some (6, 0)))), some (.inl a1_), some (.inl a9_), none], [.inl a1_, .inl a9_, .inr (.inr (some (68, 0)))], S_)) rfl ?_
        refine sm_T_iast (n := 4) rfl rfl (by omega) (by omega) ?_
        have hIx2_ : gi (sm_aI S_ 68 0 a9_.toNat a1_) := gi_aI hI_ (show 0 ≤ a1_ ∧ a1_ ≤ 1012 from ⟨by omega, by omega⟩)
        have hFx3_ : ai_fr (sx_W vw_101) S0_ (sm_aI S_ 68 0 a9_.toNat a1_) := ai_fr_tr hF_ (ai_fr_aI rfl)
        have bx4_ : 0 ≤ S_.1 6 0 13 ∧ S_.1 6 0 13 ≤ 4 := hI_.1 6 0 13 rfl
        refine sm_T_go 4 (c1 := (87, [some (.inr (.inr (some (6, 0)))), some (.inl a1_), some (.inl a9_), none], [.inl 1, .inl (S_.1 6 0 13), .inr (.inr (some (6, 0)))], sm_aI S_ 68 0 a9_.toNat a1_)) rfl ?_
        refine sm_T_bin (w := (S_.1 6 0 13) + 1) rfl (bi_add (by omega) (by omega) (by omega)) ?_ -- pc_ 87
        have hIx5_ : gi (sm_pI (sm_aI S_ 68 0 a9_.toNat a1_) 6 0 13 ((S_.1 6 0 13) + 1)) := gi_pI hIx2_ (show 0 ≤ (S_.1 6 0 13) + 1 ∧ (S_.1 6 0 13) + 1 ≤ 4 from ⟨by omega, by omega⟩)
        have hFx6_ : ai_fr (sx_W vw_101) S0_ (sm_pI (sm_aI S_ 68 0 a9_.toNat a1_) 6 0 13 ((S_.1 6 0 13) + 1)) := ai_fr_tr hFx3_ (ai_fr_pI rfl)
        refine sm_T_go 1 (c1 := (91, [some (.inr (.inr (some (6, 0)))), some (.inl a1_), some (.inl a9_), none], [], sm_pI (sm_aI S_ 68 0 a9_.toNat a1_) 6 0 13 ((S_.1 6 0 13) + 1))) rfl ?_
        refine sm_T_rv rfl ⟨_, _, rfl, rfl, hIx5_, hFx6_, ?_⟩
        simp only [rf_eq]
        refine ⟨by omega, by omega, fun i_ hi_ hn_ => ?_, fun _ => by omega, fun u_ => ?_, fun u_ => by omega⟩
        · rw [rd_fa, rd_eq]; by_cases y_ : i_ = a9_.toNat; (rw [if_pos y_]; exact hp_ (by omega)); (rw [if_neg y_]; exact hh_ i_ (by omega) (by omega))
        · rw [rd_fa, rd_eq, if_pos (by omega)]
      · have cx1_ : ¬ (a9_ ≤ 0) := of_decide_eq_false cx1_
        refine sm_T_go 4 (c1 := (48, [some (.inr (.inr (some (6, 0)))), some (.inl a1_), some (.inl a9_), none], [.inl 1, .inl a9_, .inr (.inr (some (68, 0)))], S_)) rfl ?_
        refine sm_T_bin (w := a9_ - 1) rfl (bi_sub (by omega) (by omega) (by omega)) ?_ -- pc_ 48
        refine sm_T_iald (n := 4) rfl rfl (by omega) (by omega) ?_
        have bx7_ : 0 ≤ S_.2.2.1 68 0 (a9_ - 1).toNat ∧ S_.2.2.1 68 0 (a9_ - 1).toNat ≤ 1012 := hI_.2 68 0 _
        refine sm_T_go 1 (c1 := (51, [some (.inr (.inr (some (6, 0)))), some (.inl a1_), some (.inl a9_), none], [.inl a1_, .inl (S_.2.2.1 68 0 (a9_ - 1).toNat)], S_)) rfl ?_
        refine sm_T_br (a := 5) (z := 23) rfl (fun cx8_ => ?_) (fun cx8_ => ?_)
        · have cx8_ : (S_.2.2.1 68 0 (a9_ - 1).toNat) ≤ a1_ := of_decide_eq_true cx8_
          refine sm_T_go 4 (c1 := (80, [some (.inr (.inr (some (6, 0)))), some (.inl a1_), some (.inl a9_), none], [.inl a1_, .inl a9_, .inr (.inr (some (68, 0)))], S_)) rfl ?_
          refine sm_T_iast (n := 4) rfl rfl (by omega) (by omega) ?_
          have hIx9_ : gi (sm_aI S_ 68 0 a9_.toNat a1_) := gi_aI hI_ (show 0 ≤ a1_ ∧ a1_ ≤ 1012 from ⟨by omega, by omega⟩)
          have hFx10_ : ai_fr (sx_W vw_101) S0_ (sm_aI S_ 68 0 a9_.toNat a1_) := ai_fr_tr hF_ (ai_fr_aI rfl)
          have bx11_ : 0 ≤ S_.1 6 0 13 ∧ S_.1 6 0 13 ≤ 4 := hI_.1 6 0 13 rfl
          refine sm_T_go 4 (c1 := (87, [some (.inr (.inr (some (6, 0)))), some (.inl a1_), some (.inl a9_), none], [.inl 1, .inl (S_.1 6 0 13), .inr (.inr (some (6, 0)))], sm_aI S_ 68 0 a9_.toNat a1_)) rfl ?_
          refine sm_T_bin (w := (S_.1 6 0 13) + 1) rfl (bi_add (by omega) (by omega) (by omega)) ?_ -- pc_ 87
          have hIx12_ : gi (sm_pI (sm_aI S_ 68 0 a9_.toNat a1_) 6 0 13 ((S_.1 6 0 13) + 1)) := gi_pI hIx9_ (show 0 ≤ (S_.1 6 0 13) + 1 ∧ (S_.1 6 0 13) + 1 ≤ 4 from ⟨by omega, by omega⟩)
          have hFx13_ : ai_fr (sx_W vw_101) S0_ (sm_pI (sm_aI S_ 68 0 a9_.toNat a1_) 6 0 13 ((S_.1 6 0 13) + 1)) := ai_fr_tr hFx10_ (ai_fr_pI rfl)
          refine sm_T_go 1 (c1 := (91, [some (.inr (.inr (some (6, 0)))), some (.inl a1_), some (.inl a9_), none], [], sm_pI (sm_aI S_ 68 0 a9_.toNat a1_) 6 0 13 ((S_.1 6 0 13) + 1))) rfl ?_
          refine sm_T_rv rfl ⟨_, _, rfl, rfl, hIx12_, hFx13_, ?_⟩
          simp only [rf_eq]
          refine ⟨by omega, by omega, fun i_ hi_ hn_ => ?_, fun _ => by omega, fun u_ => ?_, fun u_ => by omega⟩
          · rw [rd_fa, rd_eq]; by_cases y_ : i_ = a9_.toNat; (rw [if_pos y_]; exact hp_ (by omega)); (rw [if_neg y_]; exact hh_ i_ (by omega) (by omega))
          · rw [rd_fa, rd_eq, if_pos (by omega)]
        · have cx8_ : ¬ ((S_.2.2.1 68 0 (a9_ - 1).toNat) ≤ a1_) := of_decide_eq_false cx8_
          refine sm_T_go 7 (c1 := (65, [some (.inr (.inr (some (6, 0)))), some (.inl a1_), some (.inl a9_), none], [.inl 1, .inl a9_, .inr (.inr (some (68, 0))), .inl a9_, .inr (.inr (some (68, 0)))], S_)) rfl ?_
          refine sm_T_bin (w := a9_ - 1) rfl (bi_sub (by omega) (by omega) (by omega)) ?_ -- pc_ 65
          refine sm_T_iald (n := 4) rfl rfl (by omega) (by omega) ?_
          refine sm_T_iast (n := 4) rfl rfl (by omega) (by omega) ?_
          have hIx14_ : gi (sm_aI S_ 68 0 a9_.toNat (S_.2.2.1 68 0 (a9_ - 1).toNat)) := gi_aI hI_ (show 0 ≤ (S_.2.2.1 68 0 (a9_ - 1).toNat) ∧ (S_.2.2.1 68 0 (a9_ - 1).toNat) ≤ 1012 from ⟨by omega, by omega⟩)
          have hFx15_ : ai_fr (sx_W vw_101) S0_ (sm_aI S_ 68 0 a9_.toNat (S_.2.2.1 68 0 (a9_ - 1).toNat)) := ai_fr_tr hF_ (ai_fr_aI rfl)
          refine sm_T_inc (a := 2) (z := (-1)) (v := a9_) (w := a9_ - 1) rfl rfl (by omega) (by omega) (by omega) ?_ -- pc_ 68
          refine sm_T_go 1 (c1 := (38, [some (.inr (.inr (some (6, 0)))), some (.inl a1_), some (.inl (a9_ - 1)), none], [], sm_aI S_ 68 0 a9_.toNat (S_.2.2.1 68 0 (a9_ - 1).toNat))) rfl ?_
          refine ih_.2 (a9_ - 1) (sm_aI S_ 68 0 a9_.toNat (S_.2.2.1 68 0 (a9_ - 1).toNat)) hIx14_ hFx15_ ⟨?_, ?_, trivial⟩ ?_
          · (simp only [rd_af]; omega)
          · exact mms_mv hh_ (by omega)
          · omega
set_option maxHeartbeats 400000 in
theorem vc_101 {sc_ : Nat × (Nat → Int)} (a1_ : Int) (P_ : Int → Prop) (S0_ : sm_S) (hI_ : gi S0_) (h1_ : -1 ≤ a1_ ∧ a1_ ≤ 1012) (h3_ : S0_.1 6 0 13 ≤ 3) (hms_ : mms P_ S0_ (S0_.1 6 0 13) (S0_.1 6 0 13)) (hp_ : a1_ ≠ -1 → P_ a1_) : sm_T (mt_P sc_) 0 101 (0, [some (.inr (.inr (some (6, 0)))), some (.inl a1_), none, none], [], S0_) (fun ro9_ => ∃ u_ S1_, ro9_ = (.inl u_, S1_, 0) ∧ vq_101 a1_ P_ S0_ u_ S1_) := by
  have hF_ : ai_fr (sx_W vw_101) S0_ S0_ := ai_fr_rf
  have cm0_ : 0 ≤ S0_.1 6 0 13 ∧ S0_.1 6 0 13 ≤ 4 := hI_.1 6 0 13 rfl
  refine sm_T_go 2 (c1 := (2, [some (.inr (.inr (some (6, 0)))), some (.inl a1_), none, none], [.inl (-1), .inl a1_], S0_)) rfl ?_
  refine sm_T_br (a := 1) (z := 4) rfl (fun cx1_ => ?_) (fun cx1_ => ?_)
  · have cx1_ : a1_ ≠ (-1) := of_decide_eq_true cx1_
    have bx2_ : 0 ≤ S0_.1 6 0 13 ∧ S0_.1 6 0 13 ≤ 4 := hI_.1 6 0 13 rfl
    refine sm_T_go 5 (c1 := (13, [some (.inr (.inr (some (6, 0)))), some (.inl a1_), some (.inl (S0_.1 6 0 13)), some (.inl 0)], [], S0_)) rfl ?_
    refine (vl_101 a1_ P_ S0_ h1_ h3_ hms_ hp_ _).1 (S0_.1 6 0 13) 0 S0_ hI_ hF_ ⟨?_, ?_, ?_, trivial⟩ (Nat.lt_succ_self _)
    · omega
    · rfl
    · (intro j_ hj_; exfalso; omega)
  · have cx1_ : ¬ (a1_ ≠ (-1)) := of_decide_eq_false cx1_
    refine sm_T_rv rfl ⟨_, _, rfl, rfl, hI_, hF_, ?_⟩
    exact ⟨by omega, by omega, hms_, fun u_ => absurd (by omega) u_, fun u_ => absurd (by omega) u_.1, fun u_ => absurd (by omega) u_.1⟩
end
/-! 99.zn1h -/
section
/-! Mapper.addCut -/
def vw_102 : sx_Wl := ([(6, 11)], [65], [])
def vq_102 (P_ : Int → Prop) (S0_ : sm_S) (u_ : Option sm_V) (S1_ : sm_S) : Prop := u_ = none ∧ gi S1_ ∧ ai_fr (sx_W vw_102) S0_ S1_ ∧ (mcs P_ S1_ ∧ S0_.1 6 0 11 ≤ S1_.1 6 0 11)
set_option maxHeartbeats 400000 in
set_option maxRecDepth 20000 in
theorem vl_102 {sc_ : Nat × (Nat → Int)} (P_ : Int → Prop) (S0_ : sm_S) (h3_ : 2 ≤ S0_.1 6 0 13) (hms_ : mms P_ S0_ (S0_.1 6 0 13) (S0_.1 6 0 13)) (hcs_ : mcs P_ S0_) : ∀ nn_ : Nat, (∀ (th9_ : Int) (k_ : Int) (S_ : sm_S), gi S_ → ai_fr (sx_W vw_102) S0_ S_ → ((0 ≤ k_ ∧ k_ ≤ 1024 ∧ S0_.1 6 0 11 ≤ 1023 ∧ -1 ≤ th9_ ∧ th9_ ≤ 1012 ∧ S0_.1 6 0 13 ≤ 3) ∧ (S_ = S0_) ∧ (th9_ = -1 ∨ P_ th9_) ∧ True) → ((3000 - k_).toNat) < nn_ → sm_T (mt_P sc_) 0 102 (40, [some (.inr (.inr (some (6, 0)))), some (.inl th9_), some (.inl k_)], [], S_) (fun ro9_ => ∃ u_ S1_, ro9_ = (.inl u_, S1_, 0) ∧ vq_102 P_ S0_ u_ S1_)) := by
  intro nn_
  induction nn_ with
  | zero => exact fun _ _ _ _ _ _ h_ => absurd h_ (Nat.not_lt_zero _)
  | succ nn_ ih_ =>
    rintro th9_ k_ S_ hI_ hF_ ⟨h0_, hS_, ht_, -⟩ hm_
    have ck_ : 0 ≤ S_.1 6 0 11 ∧ S_.1 6 0 11 ≤ 1024 := hI_.1 6 0 11 rfl
    have cm_ : 0 ≤ S_.1 6 0 13 ∧ S_.1 6 0 13 ≤ 4 := hI_.1 6 0 13 rfl
    have es_ : S_.1 6 0 11 = S0_.1 6 0 11 := by rw [hS_]
    have bx1_ : 0 ≤ S_.1 6 0 11 ∧ S_.1 6 0 11 ≤ 1024 := hI_.1 6 0 11 rfl
    refine sm_T_go 3 (c1 := (45, [some (.inr (.inr (some (6, 0)))), some (.inl th9_), some (.inl k_)], [.inl (S_.1 6 0 11), .inl k_], S_)) rfl ?_
    refine sm_T_br (a := 3) (z := 60) rfl (fun cx2_ => ?_) (fun cx2_ => ?_)
    · have cx2_ : (S_.1 6 0 11) ≤ k_ := of_decide_eq_true cx2_
      refine sm_T_go 5 (c1 := (114, [some (.inr (.inr (some (6, 0)))), some (.inl th9_), some (.inl k_)], [.inl (S_.1 6 0 11), .inl 3, .inr (.inr (some (65, 0)))], S_)) rfl ?_
      refine sm_T_bin (w := 3 * (S_.1 6 0 11)) rfl (bi_mul (by omega) (by omega) (by omega)) ?_ -- pc_ 114
      refine sm_T_go 3 (c1 := (120, [some (.inr (.inr (some (6, 0)))), some (.inl th9_), some (.inl k_)], [.inl 0, .inr (.inr (some (68, 0))), .inl (3 * (S_.1 6 0 11)), .inr (.inr (some (65, 0)))], S_)) rfl ?_
      refine sm_T_iald (n := 4) rfl rfl (by omega) (by omega) ?_
      have bx3_ : 0 ≤ S_.2.2.1 68 0 (0 : Int).toNat ∧ S_.2.2.1 68 0 (0 : Int).toNat ≤ 1012 := hI_.2 68 0 _
      refine sm_T_iast (n := 3072) rfl rfl (by omega) (by omega) ?_
      have hIx4_ : gi (sm_aI S_ 65 0 (3 * (S_.1 6 0 11)).toNat (S_.2.2.1 68 0 (0 : Int).toNat)) := gi_aI hI_ (show (-1) ≤ (S_.2.2.1 68 0 (0 : Int).toNat) ∧ (S_.2.2.1 68 0 (0 : Int).toNat) ≤ 1012 from ⟨by omega, by omega⟩)
      have hFx5_ : ai_fr (sx_W vw_102) S0_ (sm_aI S_ 65 0 (3 * (S_.1 6 0 11)).toNat (S_.2.2.1 68 0 (0 : Int).toNat)) := ai_fr_tr hF_ (ai_fr_aI rfl)
      refine sm_T_go 5 (c1 := (131, [some (.inr (.inr (some (6, 0)))), some (.inl th9_), some (.inl k_)], [.inl (S_.1 6 0 11), .inl 3, .inr (.inr (some (65, 0)))], sm_aI S_ 65 0 (3 * (S_.1 6 0 11)).toNat (S_.2.2.1 68 0 (0 : Int).toNat))) rfl ?_
      refine sm_T_bin (w := 3 * (S_.1 6 0 11)) rfl (bi_mul (by omega) (by omega) (by omega)) ?_ -- pc_ 131
      refine sm_T_go 1 (c1 := (133, [some (.inr (.inr (some (6, 0)))), some (.inl th9_), some (.inl k_)], [.inl 1, .inl (3 * (S_.1 6 0 11)), .inr (.inr (some (65, 0)))], sm_aI S_ 65 0 (3 * (S_.1 6 0 11)).toNat (S_.2.2.1 68 0 (0 : Int).toNat))) rfl ?_
      refine sm_T_bin (w := 3 * (S_.1 6 0 11) + 1) rfl (bi_add (by omega) (by omega) (by omega)) ?_ -- pc_ 133
      refine sm_T_go 3 (c1 := (139, [some (.inr (.inr (some (6, 0)))), some (.inl th9_), some (.inl k_)], [.inl 1, .inr (.inr (some (68, 0))), .inl (3 * (S_.1 6 0 11) + 1), .inr (.inr (some (65, 0)))], sm_aI S_ 65 0 (3 * (S_.1 6 0 11)).toNat (S_.2.2.1 68 0 (0 : Int).toNat))) rfl ?_
      refine sm_T_iald (n := 4) rfl rfl (by omega) (by omega) ?_
      have bx6_ : 0 ≤ S_.2.2.1 68 0 (1 : Int).toNat ∧ S_.2.2.1 68 0 (1 : Int).toNat ≤ 1012 := hI_.2 68 0 _
      refine sm_T_go 0 (c1 := (140, [some (.inr (.inr (some (6, 0)))), some (.inl th9_), some (.inl k_)], [.inl (S_.2.2.1 68 0 (1 : Int).toNat), .inl (3 * (S_.1 6 0 11) + 1), .inr (.inr (some (65, 0)))], sm_aI S_ 65 0 (3 * (S_.1 6 0 11)).toNat (S_.2.2.1 68 0 (0 : Int).toNat))) rfl ?_
      refine sm_T_iast (n := 3072) rfl rfl (by omega) (by omega) ?_
      have hIx7_ : gi (sm_aI (sm_aI S_ 65 0 (3 * (S_.1 6 0 11)).toNat (S_.2.2.1 68 0 (0 : Int).toNat)) 65 0 (3 * (S_.1 6 0 11) + 1).toNat (S_.2.2.1 68 0 (1 : Int).toNat)) := gi_aI hIx4_ (show (-1) ≤ (S_.2.2.1 68 0 (1 : Int).toNat) ∧ (S_.2.2.1 68 0 (1 : Int).toNat) ≤ 1012 from ⟨by omega, by omega⟩)
      have hFx8_ : ai_fr (sx_W vw_102) S0_ (sm_aI (sm_aI S_ 65 0 (3 * (S_.1 6 0 11)).toNat (S_.2.2.1 68 0 (0 : Int).toNat)) 65 0 (3 * (S_.1 6 0 11) + 1).toNat (S_.2.2.1 68 0 (1 : Int).toNat)) := ai_fr_tr hFx5_ (ai_fr_aI rfl)
      refine sm_T_go 5 (c1 := (150, [some (.inr (.inr (some (6, 0)))), some (.inl th9_), some (.inl k_)], [.inl (S_.1 6 0 11), .inl 3, .inr (.inr (some (65, 0)))], sm_aI (sm_aI S_ 65 0 (3 * (S_.1 6 0 11)).toNat (S_.2.2.1 68 0 (0 : Int).toNat)) 65 0 (3 * (S_.1 6 0 11) + 1).toNat (S_.2.2.1 68 0 (1 : Int).toNat))) rfl ?_
      refine sm_T_bin (w := 3 * (S_.1 6 0 11)) rfl (bi_mul (by omega) (by omega) (by omega)) ?_ -- pc_ 150
      refine sm_T_go 1 (c1 := (152, [some (.inr (.inr (some (6, 0)))), some (.inl th9_), some (.inl k_)], [.inl 2, .inl (3 * (S_.1 6 0 11)), .inr (.inr (some (65, 0)))], sm_aI (sm_aI S_ 65 0 (3 * (S_.1 6 0 11)).toNat (S_.2.2.1 68 0 (0 : Int).toNat)) 65 0 (3 * (S_.1 6 0 11) + 1).toNat (S_.2.2.1 68 0 (1 : Int).toNat))) rfl ?_
      refine sm_T_bin (w := 3 * (S_.1 6 0 11) + 2) rfl (bi_add (by omega) (by omega) (by omega)) ?_ -- pc_ 152
      refine sm_T_go 1 (c1 := (154, [some (.inr (.inr (some (6, 0)))), some (.inl th9_), some (.inl k_)], [.inl th9_, .inl (3 * (S_.1 6 0 11) + 2), .inr (.inr (some (65, 0)))], sm_aI (sm_aI S_ 65 0 (3 * (S_.1 6 0 11)).toNat (S_.2.2.1 68 0 (0 : Int).toNat)) 65 0 (3 * (S_.1 6 0 11) + 1).toNat (S_.2.2.1 68 0 (1 : Int).toNat))) rfl ?_
      refine sm_T_iast (n := 3072) rfl rfl (by omega) (by omega) ?_
      have hIx9_ : gi (sm_aI (sm_aI (sm_aI S_ 65 0 (3 * (S_.1 6 0 11)).toNat (S_.2.2.1 68 0 (0 : Int).toNat)) 65 0 (3 * (S_.1 6 0 11) + 1).toNat (S_.2.2.1 68 0 (1 : Int).toNat)) 65 0 (3 * (S_.1 6 0 11) + 2).toNat th9_) := gi_aI hIx7_ (show (-1) ≤ th9_ ∧ th9_ ≤ 1012 from ⟨by omega, by omega⟩)
      have hFx10_ : ai_fr (sx_W vw_102) S0_ (sm_aI (sm_aI (sm_aI S_ 65 0 (3 * (S_.1 6 0 11)).toNat (S_.2.2.1 68 0 (0 : Int).toNat)) 65 0 (3 * (S_.1 6 0 11) + 1).toNat (S_.2.2.1 68 0 (1 : Int).toNat)) 65 0 (3 * (S_.1 6 0 11) + 2).toNat th9_) := ai_fr_tr hFx8_ (ai_fr_aI rfl)
      refine sm_T_go 4 (c1 := (161, [some (.inr (.inr (some (6, 0)))), some (.inl th9_), some (.inl k_)], [.inl 1, .inl (S_.1 6 0 11), .inr (.inr (some (6, 0)))], sm_aI (sm_aI (sm_aI S_ 65 0 (3 * (S_.1 6 0 11)).toNat (S_.2.2.1 68 0 (0 : Int).toNat)) 65 0 (3 * (S_.1 6 0 11) + 1).toNat (S_.2.2.1 68 0 (1 : Int).toNat)) 65 0 (3 * (S_.1 6 0 11) + 2).toNat th9_)) rfl ?_
      refine sm_T_bin (w := (S_.1 6 0 11) + 1) rfl (bi_add (by omega) (by omega) (by omega)) ?_ -- pc_ 161
      have hIx11_ : gi (sm_pI (sm_aI (sm_aI (sm_aI S_ 65 0 (3 * (S_.1 6 0 11)).toNat (S_.2.2.1 68 0 (0 : Int).toNat)) 65 0 (3 * (S_.1 6 0 11) + 1).toNat (S_.2.2.1 68 0 (1 : Int).toNat)) 65 0 (3 * (S_.1 6 0 11) + 2).toNat th9_) 6 0 11 ((S_.1 6 0 11) + 1)) := gi_pI hIx9_ (show 0 ≤ (S_.1 6 0 11) + 1 ∧ (S_.1 6 0 11) + 1 ≤ 1024 from ⟨by omega, by omega⟩)
      have hFx12_ : ai_fr (sx_W vw_102) S0_ (sm_pI (sm_aI (sm_aI (sm_aI S_ 65 0 (3 * (S_.1 6 0 11)).toNat (S_.2.2.1 68 0 (0 : Int).toNat)) 65 0 (3 * (S_.1 6 0 11) + 1).toNat (S_.2.2.1 68 0 (1 : Int).toNat)) 65 0 (3 * (S_.1 6 0 11) + 2).toNat th9_) 6 0 11 ((S_.1 6 0 11) + 1)) := ai_fr_tr hFx10_ (ai_fr_pI rfl)
      refine sm_T_go 1 (c1 := (165, [some (.inr (.inr (some (6, 0)))), some (.inl th9_), some (.inl k_)], [], sm_pI (sm_aI (sm_aI (sm_aI S_ 65 0 (3 * (S_.1 6 0 11)).toNat (S_.2.2.1 68 0 (0 : Int).toNat)) 65 0 (3 * (S_.1 6 0 11) + 1).toNat (S_.2.2.1 68 0 (1 : Int).toNat)) 65 0 (3 * (S_.1 6 0 11) + 2).toNat th9_) 6 0 11 ((S_.1 6 0 11) + 1))) rfl ?_
      refine sm_T_rv rfl ⟨_, _, rfl, rfl, hIx11_, hFx12_, ?_⟩
      rw [hS_]
      have m0_ := hms_ 0 (by omega) (by omega)
      have m1_ := hms_ 1 (by omega) (by omega)
      have R_ : ∀ i_, (sm_pI (sm_aI (sm_aI (sm_aI S0_ 65 0 (3 * S0_.1 6 0 11).toNat (S0_.2.2.1 68 0 (0 : Int).toNat)) 65 0 (3 * S0_.1 6 0 11 + 1).toNat (S0_.2.2.1 68 0 (1 : Int).toNat)) 65 0 (3 * S0_.1 6 0 11 + 2).toNat th9_) 6 0 11 (S0_.1 6 0 11 + 1)).2.2.1 65 0 i_ = if i_ = (3 * S0_.1 6 0 11 + 2).toNat then th9_ else if i_ = (3 * S0_.1 6 0 11 + 1).toNat then S0_.2.2.1 68 0 1 else if i_ = (3 * S0_.1 6 0 11).toNat then S0_.2.2.1 68 0 0 else S0_.2.2.1 65 0 i_ := fun i_ => by rw [rd_fa, rd_eq, rd_eq, rd_eq]; rfl
      refine ⟨fun c_ hc_ => ?_, by rw [rf_eq]; omega⟩
      rw [rf_eq] at hc_
      rw [R_, R_, R_]
      by_cases y_ : (c_ : Int) = S0_.1 6 0 11
      · rw [if_neg (by omega), if_neg (by omega), if_pos (by omega), if_neg (by omega), if_pos (by omega), if_pos (by omega)]; exact ⟨m0_, m1_, ht_⟩
      · rw [if_neg (by omega), if_neg (by omega), if_neg (by omega), if_neg (by omega), if_neg (by omega), if_neg (by omega), if_neg (by omega), if_neg (by omega), if_neg (by omega)]; exact hcs_ c_ (by omega)
    · have cx2_ : ¬ ((S_.1 6 0 11) ≤ k_) := of_decide_eq_false cx2_
      refine sm_T_go 4 (c1 := (54, [some (.inr (.inr (some (6, 0)))), some (.inl th9_), some (.inl k_)], [.inl k_, .inl 3, .inr (.inr (some (65, 0)))], S_)) rfl ?_
      refine sm_T_bin (w := 3 * k_) rfl (bi_mul (by omega) (by omega) (by omega)) ?_ -- pc_ 54
      refine sm_T_iald (n := 3072) rfl rfl (by omega) (by omega) ?_
      have bx13_ : (-1) ≤ S_.2.2.1 65 0 (3 * k_).toNat ∧ S_.2.2.1 65 0 (3 * k_).toNat ≤ 1012 := hI_.2 65 0 _
      refine sm_T_go 3 (c1 := (61, [some (.inr (.inr (some (6, 0)))), some (.inl th9_), some (.inl k_)], [.inl 0, .inr (.inr (some (68, 0))), .inl (S_.2.2.1 65 0 (3 * k_).toNat)], S_)) rfl ?_
      refine sm_T_iald (n := 4) rfl rfl (by omega) (by omega) ?_
      have bx14_ : 0 ≤ S_.2.2.1 68 0 (0 : Int).toNat ∧ S_.2.2.1 68 0 (0 : Int).toNat ≤ 1012 := hI_.2 68 0 _
      refine sm_T_br (a := 1) (z := 37) rfl (fun cx15_ => ?_) (fun cx15_ => ?_)
      · have cx15_ : (S_.2.2.1 65 0 (3 * k_).toNat) ≠ (S_.2.2.1 68 0 (0 : Int).toNat) := of_decide_eq_true cx15_
        refine sm_T_inc (a := 2) (z := 1) (v := k_) (w := k_ + 1) rfl rfl (by omega) (by omega) (by omega) ?_ -- pc_ 99
        refine sm_T_go 1 (c1 := (40, [some (.inr (.inr (some (6, 0)))), some (.inl th9_), some (.inl (k_ + 1))], [], S_)) rfl ?_
        refine ih_ th9_ (k_ + 1) S_ hI_ hF_ ⟨?_, ?_, ?_, trivial⟩ ?_
        · omega
        · exact hS_
        · exact ht_
        · omega
      · have cx15_ : ¬ ((S_.2.2.1 65 0 (3 * k_).toNat) ≠ (S_.2.2.1 68 0 (0 : Int).toNat)) := of_decide_eq_false cx15_
        refine sm_T_go 4 (c1 := (71, [some (.inr (.inr (some (6, 0)))), some (.inl th9_), some (.inl k_)], [.inl k_, .inl 3, .inr (.inr (some (65, 0)))], S_)) rfl ?_
        refine sm_T_bin (w := 3 * k_) rfl (bi_mul (by omega) (by omega) (by omega)) ?_ -- pc_ 71
        refine sm_T_go 1 (c1 := (73, [some (.inr (.inr (some (6, 0)))), some (.inl th9_), some (.inl k_)], [.inl 1, .inl (3 * k_), .inr (.inr (some (65, 0)))], S_)) rfl ?_
        refine sm_T_bin (w := 3 * k_ + 1) rfl (bi_add (by omega) (by omega) (by omega)) ?_ -- pc_ 73
        refine sm_T_iald (n := 3072) rfl rfl (by omega) (by omega) ?_
        have bx16_ : (-1) ≤ S_.2.2.1 65 0 (3 * k_ + 1).toNat ∧ S_.2.2.1 65 0 (3 * k_ + 1).toNat ≤ 1012 := hI_.2 65 0 _
        refine sm_T_go 3 (c1 := (80, [some (.inr (.inr (some (6, 0)))), some (.inl th9_), some (.inl k_)], [.inl 1, .inr (.inr (some (68, 0))), .inl (S_.2.2.1 65 0 (3 * k_ + 1).toNat)], S_)) rfl ?_
        refine sm_T_iald (n := 4) rfl rfl (by omega) (by omega) ?_
        have bx17_ : 0 ≤ S_.2.2.1 68 0 (1 : Int).toNat ∧ S_.2.2.1 68 0 (1 : Int).toNat ≤ 1012 := hI_.2 68 0 _
        refine sm_T_br (a := 1) (z := 18) rfl (fun cx18_ => ?_) (fun cx18_ => ?_)
        · have cx18_ : (S_.2.2.1 65 0 (3 * k_ + 1).toNat) ≠ (S_.2.2.1 68 0 (1 : Int).toNat) := of_decide_eq_true cx18_
          refine sm_T_inc (a := 2) (z := 1) (v := k_) (w := k_ + 1) rfl rfl (by omega) (by omega) (by omega) ?_ -- pc_ 99
          refine sm_T_go 1 (c1 := (40, [some (.inr (.inr (some (6, 0)))), some (.inl th9_), some (.inl (k_ + 1))], [], S_)) rfl ?_
          refine ih_ th9_ (k_ + 1) S_ hI_ hF_ ⟨?_, ?_, ?_, trivial⟩ ?_
          · omega
          · exact hS_
          · exact ht_
          · omega
        · have cx18_ : ¬ ((S_.2.2.1 65 0 (3 * k_ + 1).toNat) ≠ (S_.2.2.1 68 0 (1 : Int).toNat)) := of_decide_eq_false cx18_
          refine sm_T_go 4 (c1 := (90, [some (.inr (.inr (some (6, 0)))), some (.inl th9_), some (.inl k_)], [.inl k_, .inl 3, .inr (.inr (some (65, 0)))], S_)) rfl ?_
          refine sm_T_bin (w := 3 * k_) rfl (bi_mul (by omega) (by omega) (by omega)) ?_ -- pc_ 90
          refine sm_T_go 1 (c1 := (92, [some (.inr (.inr (some (6, 0)))), some (.inl th9_), some (.inl k_)], [.inl 2, .inl (3 * k_), .inr (.inr (some (65, 0)))], S_)) rfl ?_
          refine sm_T_bin (w := 3 * k_ + 2) rfl (bi_add (by omega) (by omega) (by omega)) ?_ -- pc_ 92
          refine sm_T_iald (n := 3072) rfl rfl (by omega) (by omega) ?_
          have bx19_ : (-1) ≤ S_.2.2.1 65 0 (3 * k_ + 2).toNat ∧ S_.2.2.1 65 0 (3 * k_ + 2).toNat ≤ 1012 := hI_.2 65 0 _
          refine sm_T_go 1 (c1 := (95, [some (.inr (.inr (some (6, 0)))), some (.inl th9_), some (.inl k_)], [.inl th9_, .inl (S_.2.2.1 65 0 (3 * k_ + 2).toNat)], S_)) rfl ?_
          refine sm_T_br (a := 1) (z := 4) rfl (fun cx20_ => ?_) (fun cx20_ => ?_)
          · have cx20_ : (S_.2.2.1 65 0 (3 * k_ + 2).toNat) ≠ th9_ := of_decide_eq_true cx20_
            refine sm_T_inc (a := 2) (z := 1) (v := k_) (w := k_ + 1) rfl rfl (by omega) (by omega) (by omega) ?_ -- pc_ 99
            refine sm_T_go 1 (c1 := (40, [some (.inr (.inr (some (6, 0)))), some (.inl th9_), some (.inl (k_ + 1))], [], S_)) rfl ?_
            refine ih_ th9_ (k_ + 1) S_ hI_ hF_ ⟨?_, ?_, ?_, trivial⟩ ?_
            · omega
            · exact hS_
            · exact ht_
            · omega
          · have cx20_ : ¬ ((S_.2.2.1 65 0 (3 * k_ + 2).toNat) ≠ th9_) := of_decide_eq_false cx20_
            refine sm_T_rv rfl ⟨_, _, rfl, rfl, hI_, hF_, ?_⟩
            rw [hS_]
            exact ⟨hcs_, Int.le_refl _⟩
set_option maxHeartbeats 400000 in
set_option maxRecDepth 20000 in
theorem vc_102 {sc_ : Nat × (Nat → Int)} (P_ : Int → Prop) (S0_ : sm_S) (hI_ : gi S0_) (h3_ : 2 ≤ S0_.1 6 0 13) (hms_ : mms P_ S0_ (S0_.1 6 0 13) (S0_.1 6 0 13)) (hcs_ : mcs P_ S0_) : sm_T (mt_P sc_) 0 102 (0, [some (.inr (.inr (some (6, 0)))), none, none], [], S0_) (fun ro9_ => ∃ u_ S1_, ro9_ = (.inl u_, S1_, 0) ∧ vq_102 P_ S0_ u_ S1_) := by
  have hF_ : ai_fr (sx_W vw_102) S0_ S0_ := ai_fr_rf
  have ck0_ : 0 ≤ S0_.1 6 0 11 ∧ S0_.1 6 0 11 ≤ 1024 := hI_.1 6 0 11 rfl
  have cm0_ : 0 ≤ S0_.1 6 0 13 ∧ S0_.1 6 0 13 ≤ 4 := hI_.1 6 0 13 rfl
  have bx1_ : 0 ≤ S0_.1 6 0 13 ∧ S0_.1 6 0 13 ≤ 4 := hI_.1 6 0 13 rfl
  refine sm_T_go 3 (c1 := (5, [some (.inr (.inr (some (6, 0)))), none, none], [.inl 3, .inl (S0_.1 6 0 13)], S0_)) rfl ?_
  refine sm_T_br (a := 4) (z := 13) rfl (fun cx2_ => ?_) (fun cx2_ => ?_)
  · have cx2_ : 3 < (S0_.1 6 0 13) := of_decide_eq_true cx2_
    refine sm_T_rv rfl ⟨_, _, rfl, rfl, hI_, hF_, ?_⟩
    exact ⟨hcs_, Int.le_refl _⟩
  · have cx2_ : ¬ (3 < (S0_.1 6 0 13)) := of_decide_eq_false cx2_
    have bx3_ : 0 ≤ S0_.1 6 0 11 ∧ S0_.1 6 0 11 ≤ 1024 := hI_.1 6 0 11 rfl
    refine sm_T_go 3 (c1 := (15, [some (.inr (.inr (some (6, 0)))), none, none], [.inl 1024, .inl (S0_.1 6 0 11)], S0_)) rfl ?_
    refine sm_T_br (a := 1) (z := 4) rfl (fun cx4_ => ?_) (fun cx4_ => ?_)
    · have cx4_ : (S0_.1 6 0 11) ≠ 1024 := of_decide_eq_true cx4_
      refine sm_T_go 3 (c1 := (24, [some (.inr (.inr (some (6, 0)))), none, none], [.inl 3, .inl (S0_.1 6 0 13)], S0_)) rfl ?_
      refine sm_T_br (a := 1) (z := 12) rfl (fun cx5_ => ?_) (fun cx5_ => ?_)
      · have cx5_ : (S0_.1 6 0 13) ≠ 3 := of_decide_eq_true cx5_
        refine sm_T_go 4 (c1 := (40, [some (.inr (.inr (some (6, 0)))), some (.inl (-1)), some (.inl 0)], [], S0_)) rfl ?_
        refine (vl_102 P_ S0_ h3_ hms_ hcs_ _) (-1) 0 S0_ hI_ hF_ ⟨?_, ?_, ?_, trivial⟩ (Nat.lt_succ_self _)
        · omega
        · rfl
        · first | (left; rfl) | (right; exact hms_ 2 (by omega) (by omega))
      · have cx5_ : ¬ ((S0_.1 6 0 13) ≠ 3) := of_decide_eq_false cx5_
        refine sm_T_go 3 (c1 := (32, [some (.inr (.inr (some (6, 0)))), none, none], [.inl 2, .inr (.inr (some (68, 0)))], S0_)) rfl ?_
        refine sm_T_iald (n := 4) rfl rfl (by omega) (by omega) ?_
        have bx6_ : 0 ≤ S0_.2.2.1 68 0 (2 : Int).toNat ∧ S0_.2.2.1 68 0 (2 : Int).toNat ≤ 1012 := hI_.2 68 0 _
        refine sm_T_go 4 (c1 := (40, [some (.inr (.inr (some (6, 0)))), some (.inl (S0_.2.2.1 68 0 (2 : Int).toNat)), some (.inl 0)], [], S0_)) rfl ?_
        refine (vl_102 P_ S0_ h3_ hms_ hcs_ _) (S0_.2.2.1 68 0 (2 : Int).toNat) 0 S0_ hI_ hF_ ⟨?_, ?_, ?_, trivial⟩ (Nat.lt_succ_self _)
        · omega
        · rfl
        · first | (left; rfl) | (right; exact hms_ 2 (by omega) (by omega))
    · have cx4_ : ¬ ((S0_.1 6 0 11) ≠ 1024) := of_decide_eq_false cx4_
      refine sm_T_rv rfl ⟨_, _, rfl, rfl, hI_, hF_, ?_⟩
      exact ⟨hcs_, Int.le_refl _⟩
end
/-! 99.zn1i -/
section
/-! Mapper.sortCuts -/
def vw_103 : sx_Wl := ([], [66], [])
def vq_103  (S0_ : sm_S) (u_ : Option sm_V) (S1_ : sm_S) : Prop := u_ = none ∧ gi S1_ ∧ ai_fr (sx_W vw_103) S0_ S1_ ∧ (∀ i_ : Nat, (i_ : Int) < S0_.1 6 0 11 → S1_.2.2.1 66 0 i_ < S0_.1 6 0 11)
set_option maxHeartbeats 400000 in
theorem vl_103 {sc_ : Nat × (Nat → Int)}  (S0_ : sm_S)  : ∀ nn_ : Nat, (∀ (i9_ : Int) (S_ : sm_S), gi S_ → ai_fr (sx_W vw_103) S0_ S_ → ((0 ≤ i9_ ∧ i9_ ≤ 1024 ∧ i9_ ≤ S0_.1 6 0 11) ∧ (∀ i_ : Nat, (i_ : Int) < i9_ → S_.2.2.1 66 0 i_ < i9_) ∧ True) → ((10000 * (2000 - i9_) + 9000).toNat) < nn_ → sm_T (mt_P sc_) 1 103 (2, [some (.inr (.inr (some (6, 0)))), some (.inl i9_), none], [], S_) (fun ro9_ => ∃ u_ S1_, ro9_ = (.inl u_, S1_, 0) ∧ vq_103  S0_ u_ S1_)) ∧ (∀ (i9_ : Int) (a9_ : Int) (S_ : sm_S), gi S_ → ai_fr (sx_W vw_103) S0_ S_ → ((0 ≤ i9_ ∧ i9_ < 1024 ∧ 0 ≤ a9_ ∧ a9_ ≤ i9_ ∧ i9_ < S0_.1 6 0 11) ∧ (∀ i_ : Nat, (i_ : Int) ≤ i9_ → (i_ : Int) ≠ a9_ → S_.2.2.1 66 0 i_ < i9_) ∧ True) → ((10000 * (2000 - i9_) + a9_).toNat) < nn_ → sm_T (mt_P sc_) 1 103 (12, [some (.inr (.inr (some (6, 0)))), some (.inl i9_), some (.inl a9_)], [], S_) (fun ro9_ => ∃ u_ S1_, ro9_ = (.inl u_, S1_, 0) ∧ vq_103  S0_ u_ S1_)) := by
  intro nn_
  induction nn_ with
  | zero => exact ⟨fun _ _ _ _ _ h_ => absurd h_ (Nat.not_lt_zero _), fun _ _ _ _ _ _ h_ => absurd h_ (Nat.not_lt_zero _)⟩
  | succ nn_ ih_ =>
    refine ⟨?_, ?_⟩
    · rintro i9_ S_ hI_ hF_ ⟨h0_, ho_, -⟩ hm_
      have ck_ : 0 ≤ S_.1 6 0 11 ∧ S_.1 6 0 11 ≤ 1024 := hI_.1 6 0 11 rfl
      have cm_ : 0 ≤ S_.1 6 0 13 ∧ S_.1 6 0 13 ≤ 4 := hI_.1 6 0 13 rfl
      have es_ : S_.1 6 0 11 = S0_.1 6 0 11 := hF_.1 6 0 11 rfl
      have bx1_ : 0 ≤ S_.1 6 0 11 ∧ S_.1 6 0 11 ≤ 1024 := hI_.1 6 0 11 rfl
      refine sm_T_go 3 (c1 := (7, [some (.inr (.inr (some (6, 0)))), some (.inl i9_), none], [.inl (S_.1 6 0 11), .inl i9_], S_)) rfl ?_
      refine sm_T_br (a := 3) (z := 58) rfl (fun cx2_ => ?_) (fun cx2_ => ?_)
      · have cx2_ : (S_.1 6 0 11) ≤ i9_ := of_decide_eq_true cx2_
        refine sm_T_rv rfl ⟨_, _, rfl, rfl, hI_, hF_, ?_⟩
        intro i_ hi_
        have w_ := ho_ i_ (by omega)
        omega
      · have cx2_ : ¬ ((S_.1 6 0 11) ≤ i9_) := of_decide_eq_false cx2_
        refine sm_T_go 2 (c1 := (12, [some (.inr (.inr (some (6, 0)))), some (.inl i9_), some (.inl i9_)], [], S_)) rfl ?_
        refine ih_.2 i9_ i9_ S_ hI_ hF_ ⟨?_, ?_, trivial⟩ ?_
        · omega
        · (intro i_ hi_ hn_; exact ho_ i_ (by omega))
        · omega
    · rintro i9_ a9_ S_ hI_ hF_ ⟨h0_, ho_, -⟩ hm_
      have ck_ : 0 ≤ S_.1 6 0 11 ∧ S_.1 6 0 11 ≤ 1024 := hI_.1 6 0 11 rfl
      have cm_ : 0 ≤ S_.1 6 0 13 ∧ S_.1 6 0 13 ≤ 4 := hI_.1 6 0 13 rfl
      refine sm_T_go 1 (c1 := (13, [some (.inr (.inr (some (6, 0)))), some (.inl i9_), some (.inl a9_)], [.inl a9_], S_)) rfl ?_
      refine sm_T_b0 (a := 5) (z := 39) rfl (fun cx1_ => ?_) (fun cx1_ => ?_)
      · have cx1_ : a9_ ≤ 0 := of_decide_eq_true cx1_
        refine sm_T_go 4 (c1 := (58, [some (.inr (.inr (some (6, 0)))), some (.inl i9_), some (.inl a9_)], [.inl i9_, .inl a9_, .inr (.inr (some (66, 0)))], S_)) rfl ?_
        refine sm_T_iast (n := 1024) rfl rfl (by omega) (by omega) ?_
        have hIx2_ : gi (sm_aI S_ 66 0 a9_.toNat i9_) := gi_aI hI_ (show 0 ≤ i9_ ∧ i9_ ≤ 1023 from ⟨by omega, by omega⟩)
        have hFx3_ : ai_fr (sx_W vw_103) S0_ (sm_aI S_ 66 0 a9_.toNat i9_) := ai_fr_tr hF_ (ai_fr_aI rfl)
        refine sm_T_inc (a := 1) (z := 1) (v := i9_) (w := i9_ + 1) rfl rfl (by omega) (by omega) (by omega) ?_ -- pc_ 59
        refine sm_T_go 1 (c1 := (2, [some (.inr (.inr (some (6, 0)))), some (.inl (i9_ + 1)), some (.inl a9_)], [], sm_aI S_ 66 0 a9_.toNat i9_)) rfl ?_
        refine sm_T_wk [some (.inr (.inr (some (6, 0)))), some (.inl (i9_ + 1)), none] (by exact ⟨rfl, rfl, trivial⟩) ?_
        refine ih_.1 (i9_ + 1) (sm_aI S_ 66 0 a9_.toNat i9_) hIx2_ hFx3_ ⟨?_, ?_, trivial⟩ ?_
        · omega
        · intro i_ hi_
          rw [rd_eq]
          by_cases y_ : i_ = a9_.toNat
          · rw [if_pos y_]; omega
          · rw [if_neg y_]; have w_ := ho_ i_ (by omega) (by omega); omega
        · omega
      · have cx1_ : ¬ (a9_ ≤ 0) := of_decide_eq_false cx1_
        refine sm_T_go 6 (c1 := (24, [some (.inr (.inr (some (6, 0)))), some (.inl i9_), some (.inl a9_)], [.inl 1, .inl a9_, .inr (.inr (some (66, 0))), .inl i9_, .inr (.inr (some (6, 0)))], S_)) rfl ?_
        refine sm_T_bin (w := a9_ - 1) rfl (bi_sub (by omega) (by omega) (by omega)) ?_ -- pc_ 24
        refine sm_T_iald (n := 1024) rfl rfl (by omega) (by omega) ?_
        have bx4_ : 0 ≤ S_.2.2.1 66 0 (a9_ - 1).toNat ∧ S_.2.2.1 66 0 (a9_ - 1).toNat ≤ 1023 := hI_.2 66 0 _
        refine sm_T_cal (d1 := 0) (Q1 := vq_104 i9_ (S_.2.2.1 66 0 (a9_ - 1).toNat) S_) rfl rfl (by decide) (vc_104 i9_ (S_.2.2.1 66 0 (a9_ - 1).toNat) S_ hI_ (by omega) (by omega)) (fun u_ Sx5_ px8_ => ?_)
        obtain ⟨rfl, vx10_, rfl, px8_⟩ := px8_
        refine sm_T_b0 (a := 0) (z := 23) rfl (fun cx11_ => ?_) (fun cx11_ => ?_)
        · have cx11_ : vx10_ = 0 := of_decide_eq_true cx11_
          refine sm_T_go 4 (c1 := (58, [some (.inr (.inr (some (6, 0)))), some (.inl i9_), some (.inl a9_)], [.inl i9_, .inl a9_, .inr (.inr (some (66, 0)))], S_)) rfl ?_
          refine sm_T_iast (n := 1024) rfl rfl (by omega) (by omega) ?_
          have hIx12_ : gi (sm_aI S_ 66 0 a9_.toNat i9_) := gi_aI hI_ (show 0 ≤ i9_ ∧ i9_ ≤ 1023 from ⟨by omega, by omega⟩)
          have hFx13_ : ai_fr (sx_W vw_103) S0_ (sm_aI S_ 66 0 a9_.toNat i9_) := ai_fr_tr hF_ (ai_fr_aI rfl)
          refine sm_T_inc (a := 1) (z := 1) (v := i9_) (w := i9_ + 1) rfl rfl (by omega) (by omega) (by omega) ?_ -- pc_ 59
          refine sm_T_go 1 (c1 := (2, [some (.inr (.inr (some (6, 0)))), some (.inl (i9_ + 1)), some (.inl a9_)], [], sm_aI S_ 66 0 a9_.toNat i9_)) rfl ?_
          refine sm_T_wk [some (.inr (.inr (some (6, 0)))), some (.inl (i9_ + 1)), none] (by exact ⟨rfl, rfl, trivial⟩) ?_
          refine ih_.1 (i9_ + 1) (sm_aI S_ 66 0 a9_.toNat i9_) hIx12_ hFx13_ ⟨?_, ?_, trivial⟩ ?_
          · omega
          · intro i_ hi_
            rw [rd_eq]
            by_cases y_ : i_ = a9_.toNat
            · rw [if_pos y_]; omega
            · rw [if_neg y_]; have w_ := ho_ i_ (by omega) (by omega); omega
          · omega
        · have cx11_ : ¬ (vx10_ = 0) := of_decide_eq_false cx11_
          refine sm_T_go 7 (c1 := (43, [some (.inr (.inr (some (6, 0)))), some (.inl i9_), some (.inl a9_)], [.inl 1, .inl a9_, .inr (.inr (some (66, 0))), .inl a9_, .inr (.inr (some (66, 0)))], S_)) rfl ?_
          refine sm_T_bin (w := a9_ - 1) rfl (bi_sub (by omega) (by omega) (by omega)) ?_ -- pc_ 43
          refine sm_T_iald (n := 1024) rfl rfl (by omega) (by omega) ?_
          refine sm_T_iast (n := 1024) rfl rfl (by omega) (by omega) ?_
          have hIx14_ : gi (sm_aI S_ 66 0 a9_.toNat (S_.2.2.1 66 0 (a9_ - 1).toNat)) := gi_aI hI_ (show 0 ≤ (S_.2.2.1 66 0 (a9_ - 1).toNat) ∧ (S_.2.2.1 66 0 (a9_ - 1).toNat) ≤ 1023 from ⟨by omega, by omega⟩)
          have hFx15_ : ai_fr (sx_W vw_103) S0_ (sm_aI S_ 66 0 a9_.toNat (S_.2.2.1 66 0 (a9_ - 1).toNat)) := ai_fr_tr hF_ (ai_fr_aI rfl)
          refine sm_T_inc (a := 2) (z := (-1)) (v := a9_) (w := a9_ - 1) rfl rfl (by omega) (by omega) (by omega) ?_ -- pc_ 46
          refine sm_T_go 1 (c1 := (12, [some (.inr (.inr (some (6, 0)))), some (.inl i9_), some (.inl (a9_ - 1))], [], sm_aI S_ 66 0 a9_.toNat (S_.2.2.1 66 0 (a9_ - 1).toNat))) rfl ?_
          refine ih_.2 i9_ (a9_ - 1) (sm_aI S_ 66 0 a9_.toNat (S_.2.2.1 66 0 (a9_ - 1).toNat)) hIx14_ hFx15_ ⟨?_, ?_, trivial⟩ ?_
          · omega
          · intro i_ hi_ hn_
            rw [rd_eq]
            by_cases y_ : i_ = a9_.toNat
            · rw [if_pos y_]; exact ho_ (a9_ - 1).toNat (by omega) (by omega)
            · rw [if_neg y_]; exact ho_ i_ hi_ (by omega)
          · omega
set_option maxHeartbeats 400000 in
theorem vc_103 {sc_ : Nat × (Nat → Int)}  (S0_ : sm_S) (hI_ : gi S0_)  : sm_T (mt_P sc_) 1 103 (0, [some (.inr (.inr (some (6, 0)))), none, none], [], S0_) (fun ro9_ => ∃ u_ S1_, ro9_ = (.inl u_, S1_, 0) ∧ vq_103  S0_ u_ S1_) := by
  have hF_ : ai_fr (sx_W vw_103) S0_ S0_ := ai_fr_rf
  have ck0_ : 0 ≤ S0_.1 6 0 11 ∧ S0_.1 6 0 11 ≤ 1024 := hI_.1 6 0 11 rfl
  refine sm_T_go 2 (c1 := (2, [some (.inr (.inr (some (6, 0)))), some (.inl 0), none], [], S0_)) rfl ?_
  refine (vl_103 S0_ _).1 0 S0_ hI_ hF_ ⟨?_, ?_, trivial⟩ (Nat.lt_succ_self _)
  · omega
  · (intro i_ hi_; exfalso; omega)
end
/-! 99.zn2a -/
section
/-! what is needed; written by wip/p55/gen/vg -/

/-! what a_ needed node is_ made of_ -/
theorem nd_p {dd_ F_ : Nat} {S_ : sm_S} {u_ : Nat → Int} {x_ : Nat} (hg_ : dgr dd_ F_ S_) (hs_ : swp dd_ F_ S_) (hk_ : mkd dd_ F_ S_ u_) (n13_ : S_.1 3 dd_ 4 ≤ 1013) (h1_ : F_ ≤ x_) (h2_ : (x_ : Int) < S_.1 3 dd_ 4) (h3_ : u_ x_ = 1) :
    (1 ≤ srp dd_ S_ (S_.2.2.1 42 (0 + dd_) x_) ∧ srp dd_ S_ (S_.2.2.1 42 (0 + dd_) x_) < x_ ∧ u_ (srp dd_ S_ (S_.2.2.1 42 (0 + dd_) x_)) = 1) ∧ (1 ≤ srp dd_ S_ (S_.2.2.1 43 (0 + dd_) x_) ∧ srp dd_ S_ (S_.2.2.1 43 (0 + dd_) x_) < x_ ∧ u_ (srp dd_ S_ (S_.2.2.1 43 (0 + dd_) x_)) = 1) ∧ srp dd_ S_ (S_.2.2.1 42 (0 + dd_) x_) ≠ srp dd_ S_ (S_.2.2.1 43 (0 + dd_) x_) := by
  have g_ := hg_.2.2 x_ h1_ h2_
  have a_ := srp_b hs_ (l_ := S_.2.2.1 42 (0 + dd_) x_) (by omega) (by omega)
  have b_ := srp_b hs_ (l_ := S_.2.2.1 43 (0 + dd_) x_) (by omega) (by omega)
  have c_ := hk_.2.2 x_ h1_ h2_ h3_
  have d_ : S_.2.2.1 44 (0 + dd_) x_ = 2 * (x_ : Int) := by
    rcases hk_.1 x_ (by omega) with z_ | z_
    · rw [z_] at h3_; exact absurd h3_ (by decide)
    · exact z_.2.2
  have e_ := (hs_.2 x_ h2_).2.2 h1_ d_
  have e1_ : (srp dd_ S_ (S_.2.2.1 42 (0 + dd_) x_) : Int) = S_.2.2.1 44 (0 + dd_) (S_.2.2.1 42 (0 + dd_) x_ / 2).toNat / 2 := by unfold srp; omega
  have e2_ : (srp dd_ S_ (S_.2.2.1 43 (0 + dd_) x_) : Int) = S_.2.2.1 44 (0 + dd_) (S_.2.2.1 43 (0 + dd_) x_ / 2).toNat / 2 := by unfold srp; omega
  obtain ⟨m1_, m2_, m3⟩ := e_
  exact ⟨⟨by omega, by omega, c_.1⟩, ⟨by omega, by omega, c_.2⟩, by omega⟩
/-- nodes below n_ that are_ needed -/
def npd (n_ : Int) (u_ : Nat → Int) (x_ : Int) : Prop := 1 ≤ x_ ∧ x_ < n_ ∧ u_ x_.toNat = 1
theorem mcs_fr {w_ : sx_Wl} {P_ : Int → Prop} {S_ S'_ : sm_S} (g_ : mcs P_ S_) (f_ : ai_fr (sx_W w_) S_ S'_) (a_ : (sx_W w_).2.1 65 = false := by rfl) (b_ : (sx_W w_).1 6 11 = false := by rfl) : mcs P_ S'_ := fun c_ hc_ => by
  rw [f_.1 6 0 11 b_] at hc_
  rw [(f_.2.2 65 a_ 0 (3 * c_)).1, (f_.2.2 65 a_ 0 (3 * c_ + 1)).1, (f_.2.2 65 a_ 0 (3 * c_ + 2)).1]
  exact g_ c_ hc_
theorem mms_0 {P_ : Int → Prop} {S_ : sm_S} : mms P_ S_ 0 0 := fun i_ hi_ hn_ => by exfalso; omega
theorem mcs_a {P_ : Int → Prop} {S_ : sm_S} (g_ : mcs P_ S_) {i_ k_ : Int} (hi_ : 0 ≤ i_ ∧ i_ < S_.1 6 0 11) (hk_ : 0 ≤ k_ ∧ k_ ≤ 2) (hn_ : S_.2.2.1 65 0 (3 * i_ + k_).toNat ≠ -1) : P_ (S_.2.2.1 65 0 (3 * i_ + k_).toNat) := by
  have q_ := g_ i_.toNat (by omega)
  have c_ : k_ = 0 ∨ k_ = 1 ∨ k_ = 2 := by omega
  rcases c_ with c_ | c_ | c_
  · rw [show (3 * i_ + k_).toNat = 3 * i_.toNat by omega]; exact q_.1
  · rw [show (3 * i_ + k_).toNat = 3 * i_.toNat + 1 by omega]; exact q_.2.1
  · rw [show (3 * i_ + k_).toNat = 3 * i_.toNat + 2 by omega] at hn_ ⊢
    exact q_.2.2.resolve_left hn_
theorem vt3 {k_ : Int} (h_ : 0 ≤ k_ ∧ k_ ≤ 2) : 0 ≤ st_at 3 k_ ∧ st_at 3 k_ ≤ 255 := by
  have c_ : k_ = 0 ∨ k_ = 1 ∨ k_ = 2 := by omega
  rcases c_ with c_ | c_ | c_ <;> rw [c_] <;> decide
/-! java/util/Arrays.fill -/
def vw_2m9 : sx_Wl := ([], [59], [])
def vq_2m9 (v0_ : Int) (S0_ : sm_S) (u_ : Option sm_V) (S1_ : sm_S) : Prop := u_ = none ∧ gi S1_ ∧ ai_fr (sx_W vw_2m9) S0_ S1_ ∧ (∀ j_, j_ < 1013 → S1_.2.2.1 59 0 j_ = v0_)
set_option maxHeartbeats 400000 in
theorem vl_2m9 {sc_ : Nat × (Nat → Int)} (v0_ : Int) (S0_ : sm_S) (hv_ : 0 ≤ v0_ ∧ v0_ ≤ 1) : ∀ nn_ : Nat, (∀ (k_ : Int) (S_ : sm_S), gi S_ → ai_fr (sx_W vw_2m9) S0_ S_ → ((0 ≤ k_ ∧ k_ ≤ 1013) ∧ (∀ j_, j_ < k_.toNat → S_.2.2.1 59 0 j_ = v0_) ∧ True) → ((1013 - k_).toNat) < nn_ → sm_T (mt_P sc_) 0 2 (5, [some (.inr (.inr (some (59, 0)))), some (.inl v0_), some (.inl k_), some (.inl 1013)], [], S_) (fun ro9_ => ∃ u_ S1_, ro9_ = (.inl u_, S1_, 0) ∧ vq_2m9 v0_ S0_ u_ S1_)) := by
  intro nn_
  induction nn_ with
  | zero => exact fun _ _ _ _ _ h_ => absurd h_ (Nat.not_lt_zero _)
  | succ nn_ ih_ =>
    rintro k_ S_ hI_ hF_ ⟨h0_, h1_, -⟩ hm_
    refine sm_T_go 2 (c1 := (7, [some (.inr (.inr (some (59, 0)))), some (.inl v0_), some (.inl k_), some (.inl 1013)], [.inl 1013, .inl k_], S_)) rfl ?_
    refine sm_T_br (a := 3) (z := 13) rfl (fun cx1_ => ?_) (fun cx1_ => ?_)
    · have cx1_ : 1013 ≤ k_ := of_decide_eq_true cx1_
      refine sm_T_rv rfl ⟨_, _, rfl, rfl, hI_, hF_, ?_⟩
      exact fun j_ hj_ => h1_ j_ (by omega)
    · have cx1_ : ¬ (1013 ≤ k_) := of_decide_eq_false cx1_
      refine sm_T_go 3 (c1 := (13, [some (.inr (.inr (some (59, 0)))), some (.inl v0_), some (.inl k_), some (.inl 1013)], [.inl v0_, .inl k_, .inr (.inr (some (59, 0)))], S_)) rfl ?_
      refine sm_T_iast (n := 1013) rfl rfl (by omega) (by omega) ?_
      have hIx2_ : gi (sm_aI S_ 59 0 k_.toNat v0_) := gi_aI hI_ (show 0 ≤ v0_ ∧ v0_ ≤ 1 from ⟨by omega, by omega⟩)
      have hFx3_ : ai_fr (sx_W vw_2m9) S0_ (sm_aI S_ 59 0 k_.toNat v0_) := ai_fr_tr hF_ (ai_fr_aI rfl)
      refine sm_T_inc (a := 2) (z := 1) (v := k_) (w := k_ + 1) rfl rfl (by omega) (by omega) (by omega) ?_ -- pc_ 14
      refine sm_T_go 1 (c1 := (5, [some (.inr (.inr (some (59, 0)))), some (.inl v0_), some (.inl (k_ + 1)), some (.inl 1013)], [], sm_aI S_ 59 0 k_.toNat v0_)) rfl ?_
      refine ih_ (k_ + 1) (sm_aI S_ 59 0 k_.toNat v0_) hIx2_ hFx3_ ⟨?_, ?_, trivial⟩ ?_
      · omega
      · intro j_ hj_
        rw [rd_eq]
        by_cases z_ : j_ = k_.toNat
        · rw [if_pos z_]
        · rw [if_neg z_]; exact h1_ j_ (by omega)
      · omega
set_option maxHeartbeats 400000 in
theorem vc_2m9 {sc_ : Nat × (Nat → Int)} (v0_ : Int) (S0_ : sm_S) (hI_ : gi S0_) (hv_ : 0 ≤ v0_ ∧ v0_ ≤ 1) : sm_T (mt_P sc_) 0 2 (0, [some (.inr (.inr (some (59, 0)))), some (.inl v0_), none, none], [], S0_) (fun ro9_ => ∃ u_ S1_, ro9_ = (.inl u_, S1_, 0) ∧ vq_2m9 v0_ S0_ u_ S1_) := by
  have hF_ : ai_fr (sx_W vw_2m9) S0_ S0_ := ai_fr_rf
  refine sm_T_go 5 (c1 := (5, [some (.inr (.inr (some (59, 0)))), some (.inl v0_), some (.inl 0), some (.inl 1013)], [], S0_)) rfl ?_
  refine (vl_2m9 v0_ S0_ hv_ _) 0 S0_ hI_ hF_ ⟨?_, ?_, trivial⟩ (Nat.lt_succ_self _)
  · omega
  · (intro j_ hj_; exact absurd hj_ (Nat.not_lt_zero _))
end
/-! 99.zn2b -/
section
/-! Design.markNeeded -/
def vw_67m : sx_Wl := ([], [59], [])
def vq_67m (dd_ : Nat) (F_ : Nat) (S0_ : sm_S) (u_ : Option sm_V) (S1_ : sm_S) : Prop := ∃ v_ : Int, u_ = some (.inl v_) ∧ gi S1_ ∧ ai_fr (sx_W vw_67m) S0_ S1_ ∧ ((0 ≤ v_ ∧ v_ ≤ 1000) ∧ mkd dd_ F_ S1_ (S1_.2.2.1 59 0))
set_option maxHeartbeats 2000000 in
theorem vl_67m {sc_ : Nat × (Nat → Int)} (dd_ : Nat) (F_ : Nat) (S0_ : sm_S) (hg_ : dgr dd_ F_ S0_) (hr_ : drt dd_ S0_) (hs_ : swp dd_ F_ S0_) : ∀ nn_ : Nat, (∀ (k_ : Int) (S_ : sm_S), gi S_ → ai_fr (sx_W vw_67m) S0_ S_ → ((0 ≤ k_ ∧ k_ ≤ S0_.1 3 dd_ 3 + S0_.1 3 dd_ 2) ∧ (∀ j9_ : Nat, j9_ < 1013 → S_.2.2.1 59 0 j9_ = 0 ∨ (S_.2.2.1 59 0 j9_ = 1 ∧ (j9_ : Int) < S0_.1 3 dd_ 4 ∧ S0_.2.2.1 44 (0 + dd_) j9_ = 2 * (j9_ : Int))) ∧ (∀ i9_ : Int, 0 ≤ i9_ → i9_ < k_ → S_.2.2.1 59 0 (srp dd_ S0_ (rtv dd_ S0_ i9_)) = 1) ∧ True) → ((5000 + (100 - k_)).toNat) < nn_ → sm_T (mt_P sc_) 1 67 (7, [some (.inr (.inr (some (3, dd_)))), some (.inr (.inr (some (59, 0)))), some (.inl k_), none], [], S_) (fun ro9_ => ∃ u_ S1_, ro9_ = (.inl u_, S1_, 0) ∧ vq_67m dd_ F_ S0_ u_ S1_)) ∧ (∀ (c_ : Int) (n_ : Int) (S_ : sm_S), gi S_ → ai_fr (sx_W vw_67m) S0_ S_ → (((F_ : Int) - 1 ≤ n_ ∧ n_ < S0_.1 3 dd_ 4 ∧ 0 ≤ c_ ∧ c_ ≤ S0_.1 3 dd_ 4 - 1 - n_) ∧ (∀ j9_ : Nat, j9_ < 1013 → S_.2.2.1 59 0 j9_ = 0 ∨ (S_.2.2.1 59 0 j9_ = 1 ∧ (j9_ : Int) < S0_.1 3 dd_ 4 ∧ S0_.2.2.1 44 (0 + dd_) j9_ = 2 * (j9_ : Int))) ∧ (∀ i9_ : Int, 0 ≤ i9_ → i9_ < S0_.1 3 dd_ 3 + S0_.1 3 dd_ 2 → S_.2.2.1 59 0 (srp dd_ S0_ (rtv dd_ S0_ i9_)) = 1) ∧ (∀ j9_ : Nat, n_ < (j9_ : Int) → F_ ≤ j9_ → (j9_ : Int) < S0_.1 3 dd_ 4 → S_.2.2.1 59 0 j9_ = 1 → S_.2.2.1 59 0 (srp dd_ S0_ (S0_.2.2.1 42 (0 + dd_) j9_)) = 1 ∧ S_.2.2.1 59 0 (srp dd_ S0_ (S0_.2.2.1 43 (0 + dd_) j9_)) = 1) ∧ True) → ((n_ + 1).toNat) < nn_ → sm_T (mt_P sc_) 1 67 (44, [some (.inr (.inr (some (3, dd_)))), some (.inr (.inr (some (59, 0)))), some (.inl c_), some (.inl n_)], [], S_) (fun ro9_ => ∃ u_ S1_, ro9_ = (.inl u_, S1_, 0) ∧ vq_67m dd_ F_ S0_ u_ S1_)) := by
  intro nn_
  induction nn_ with
  | zero => exact ⟨fun _ _ _ _ _ h_ => absurd h_ (Nat.not_lt_zero _), fun _ _ _ _ _ _ h_ => absurd h_ (Nat.not_lt_zero _)⟩
  | succ nn_ ih_ =>
    refine ⟨?_, ?_⟩
    · rintro k_ S_ hI_ hF_ ⟨h0_, hz_, hq_, -⟩ hm_
      have g1_ := hg_.1
      have g2_ := hg_.2.1
      have r1_ := hr_.1
      have e2_ : S_.1 3 dd_ 2 = S0_.1 3 dd_ 2 := hF_.1 3 dd_ 2 rfl
      have e1_ : S_.1 3 dd_ 1 = S0_.1 3 dd_ 1 := hF_.1 3 dd_ 1 rfl
      have e3_ : S_.1 3 dd_ 3 = S0_.1 3 dd_ 3 := hF_.1 3 dd_ 3 rfl
      have e4_ : S_.1 3 dd_ 4 = S0_.1 3 dd_ 4 := hF_.1 3 dd_ 4 rfl
      have n13_ : S_.1 3 dd_ 4 ≤ 1013 := (hI_.1 3 dd_ 4 rfl).2
      have f44_ : S_.2.2.1 44 (0 + dd_) = S0_.2.2.1 44 (0 + dd_) := fr_arr hF_ rfl
      have f42_ : S_.2.2.1 42 (0 + dd_) = S0_.2.2.1 42 (0 + dd_) := fr_arr hF_ rfl
      have f43_ : S_.2.2.1 43 (0 + dd_) = S0_.2.2.1 43 (0 + dd_) := fr_arr hF_ rfl
      have f45_ : S_.2.2.1 45 (0 + dd_) = S0_.2.2.1 45 (0 + dd_) := fr_arr hF_ rfl
      have f46_ : S_.2.2.1 46 (0 + dd_) = S0_.2.2.1 46 (0 + dd_) := fr_arr hF_ rfl
      refine sm_T_go 2 (c1 := (9, [some (.inr (.inr (some (3, dd_)))), some (.inr (.inr (some (59, 0)))), some (.inl k_), none], [.inr (.inr (some (3, dd_))), .inl k_], S_)) rfl ?_
      refine sm_T_cal (d1 := 0) (Q1 := vq_66 dd_ S_) rfl rfl (by decide) (vc_66 dd_ S_ hI_ (by omega)) (fun u_ Sx1_ px4_ => ?_)
      obtain ⟨rfl, vx6_, rfl, px4_⟩ := px4_
      have e9_ := px4_
      refine sm_T_br (a := 3) (z := 23) rfl (fun cx7_ => ?_) (fun cx7_ => ?_)
      · have cx7_ : vx6_ ≤ k_ := of_decide_eq_true cx7_
        have bx8_ : 0 ≤ S_.1 3 dd_ 4 ∧ S_.1 3 dd_ 4 ≤ 1013 := hI_.1 3 dd_ 4 rfl
        refine sm_T_go 5 (c1 := (42, [some (.inr (.inr (some (3, dd_)))), some (.inr (.inr (some (59, 0)))), some (.inl 0), none], [.inl 1, .inl (S_.1 3 dd_ 4)], S_)) rfl ?_
        refine sm_T_bin (w := (S_.1 3 dd_ 4) - 1) rfl (bi_sub (by omega) (by omega) (by omega)) ?_ -- pc_ 42
        refine sm_T_go 1 (c1 := (44, [some (.inr (.inr (some (3, dd_)))), some (.inr (.inr (some (59, 0)))), some (.inl 0), some (.inl ((S_.1 3 dd_ 4) - 1))], [], S_)) rfl ?_
        refine ih_.2 0 ((S_.1 3 dd_ 4) - 1) S_ hI_ hF_ ⟨?_, ?_, ?_, ?_, trivial⟩ ?_
        · omega
        · exact hz_
        · (intro i9_ q8_ q9_; exact hq_ i9_ q8_ (by omega))
        · (intro j9_ q7_ q8_ q9_; omega)
        · omega
      · have cx7_ : ¬ (vx6_ ≤ k_) := of_decide_eq_false cx7_
        refine sm_T_go 4 (c1 := (19, [some (.inr (.inr (some (3, dd_)))), some (.inr (.inr (some (59, 0)))), some (.inl k_), none], [.inl k_, .inr (.inr (some (3, dd_))), .inr (.inr (some (3, dd_))), .inr (.inr (some (59, 0)))], S_)) rfl ?_
        refine sm_T_cal (d1 := 0) (Q1 := vq_65 k_ dd_ S_) rfl rfl (by decide) (vc_65 k_ dd_ S_ hI_ (by exact drt_fr hr_ hF_ rfl rfl rfl rfl rfl) (by omega)) (fun u_ Sx9_ px12_ => ?_)
        obtain ⟨rfl, vx14_, rfl, px12_⟩ := px12_
        have e19_ := px12_
        have v19_ : vx14_ = rtv dd_ S0_ k_ := by rw [e19_.1]; unfold rtv; rw [e3_, f45_, f46_]
        refine sm_T_cal (d1 := 0) (Q1 := vq_64 vx14_ dd_ S_) rfl rfl (by decide) (vc_64 vx14_ dd_ S_ hI_ (by omega)) (fun u_ Sx15_ px18_ => ?_)
        obtain ⟨rfl, vx20_, rfl, px18_⟩ := px18_
        have e22_ := px18_
        rw [f44_] at e22_
        have sw9_ := swl_n hs_ (l_ := rtv dd_ S0_ k_) (by omega) (by omega) (by omega)
        rw [v19_] at e22_
        rw [← e22_] at sw9_
        have sb9_ := srp_b hs_ (l_ := rtv dd_ S0_ k_) (by omega) (by omega)
        have tn9_ : (vx20_ / 2).toNat = srp dd_ S0_ (rtv dd_ S0_ k_) := by omega
        refine sm_T_go 1 (c1 := (26, [some (.inr (.inr (some (3, dd_)))), some (.inr (.inr (some (59, 0)))), some (.inl k_), none], [.inl 1, .inl vx20_, .inr (.inr (some (59, 0)))], S_)) rfl ?_
        refine sm_T_bin (w := (vx20_ / 2)) rfl (bi_shr (k := 1) (by decide) (by omega) (by omega)) ?_ -- pc_ 26
        refine sm_T_go 1 (c1 := (28, [some (.inr (.inr (some (3, dd_)))), some (.inr (.inr (some (59, 0)))), some (.inl k_), none], [.inl 1, .inl (vx20_ / 2), .inr (.inr (some (59, 0)))], S_)) rfl ?_
        refine sm_T_iast (n := 1013) rfl rfl (by omega) (by omega) ?_
        have hIx21_ : gi (sm_aI S_ 59 0 (vx20_ / 2).toNat 1) := gi_aI hI_ (show 0 ≤ 1 ∧ 1 ≤ 1 from ⟨by omega, by omega⟩)
        have hFx22_ : ai_fr (sx_W vw_67m) S0_ (sm_aI S_ 59 0 (vx20_ / 2).toNat 1) := ai_fr_tr hF_ (ai_fr_aI rfl)
        refine sm_T_inc (a := 2) (z := 1) (v := k_) (w := k_ + 1) rfl rfl (by omega) (by omega) (by omega) ?_ -- pc_ 29
        refine sm_T_go 1 (c1 := (7, [some (.inr (.inr (some (3, dd_)))), some (.inr (.inr (some (59, 0)))), some (.inl (k_ + 1)), none], [], sm_aI S_ 59 0 (vx20_ / 2).toNat 1)) rfl ?_
        refine ih_.1 (k_ + 1) (sm_aI S_ 59 0 (vx20_ / 2).toNat 1) hIx21_ hFx22_ ⟨?_, ?_, ?_, trivial⟩ ?_
        · omega
        · intro j9_ hj9_
          rw [rd_eq]
          by_cases z9_ : j9_ = srp dd_ S0_ (rtv dd_ S0_ k_)
          · rw [if_pos (by omega)]; right; rw [z9_]; exact ⟨rfl, by omega, sb9_.2.1⟩
          · rw [if_neg (by omega)]; exact hz_ j9_ hj9_
        · intro i9_ q8_ q9_
          rw [rd_eq]
          by_cases z9_ : srp dd_ S0_ (rtv dd_ S0_ i9_) = srp dd_ S0_ (rtv dd_ S0_ k_)
          · rw [if_pos (by omega)]
          · rw [if_neg (by omega)]; exact hq_ i9_ q8_ (by by_cases y9_ : i9_ = k_; (exact absurd (by rw [y9_]) z9_); omega)
        · omega
    · rintro c_ n_ S_ hI_ hF_ ⟨h0_, hz_, hq_, hc_, -⟩ hm_
      have g1_ := hg_.1
      have g2_ := hg_.2.1
      have r1_ := hr_.1
      have e2_ : S_.1 3 dd_ 2 = S0_.1 3 dd_ 2 := hF_.1 3 dd_ 2 rfl
      have e1_ : S_.1 3 dd_ 1 = S0_.1 3 dd_ 1 := hF_.1 3 dd_ 1 rfl
      have e3_ : S_.1 3 dd_ 3 = S0_.1 3 dd_ 3 := hF_.1 3 dd_ 3 rfl
      have e4_ : S_.1 3 dd_ 4 = S0_.1 3 dd_ 4 := hF_.1 3 dd_ 4 rfl
      have n13_ : S_.1 3 dd_ 4 ≤ 1013 := (hI_.1 3 dd_ 4 rfl).2
      have f44_ : S_.2.2.1 44 (0 + dd_) = S0_.2.2.1 44 (0 + dd_) := fr_arr hF_ rfl
      have f42_ : S_.2.2.1 42 (0 + dd_) = S0_.2.2.1 42 (0 + dd_) := fr_arr hF_ rfl
      have f43_ : S_.2.2.1 43 (0 + dd_) = S0_.2.2.1 43 (0 + dd_) := fr_arr hF_ rfl
      have f45_ : S_.2.2.1 45 (0 + dd_) = S0_.2.2.1 45 (0 + dd_) := fr_arr hF_ rfl
      have f46_ : S_.2.2.1 46 (0 + dd_) = S0_.2.2.1 46 (0 + dd_) := fr_arr hF_ rfl
      refine sm_T_go 2 (c1 := (46, [some (.inr (.inr (some (3, dd_)))), some (.inr (.inr (some (59, 0)))), some (.inl c_), some (.inl n_)], [.inr (.inr (some (3, dd_))), .inl n_], S_)) rfl ?_
      refine sm_T_cal (d1 := 0) (Q1 := vq_63 dd_ S_) rfl rfl (by decide) (vc_63 dd_ S_ hI_ (by omega)) (fun u_ Sx1_ px4_ => ?_)
      obtain ⟨rfl, vx6_, rfl, px4_⟩ := px4_
      have e46_ := px4_
      refine sm_T_br (a := 2) (z := 48) rfl (fun cx7_ => ?_) (fun cx7_ => ?_)
      · have cx7_ : n_ < vx6_ := of_decide_eq_true cx7_
        refine sm_T_go 1 (c1 := (98, [some (.inr (.inr (some (3, dd_)))), some (.inr (.inr (some (59, 0)))), some (.inl c_), some (.inl n_)], [.inl c_], S_)) rfl ?_
        refine sm_T_ri rfl ⟨_, _, rfl, _, rfl, hI_, hF_, ?_⟩
        refine ⟨by omega, fun j9_ hj9_ => ?_, fun i9_ q8_ q9_ => ?_, fun j9_ q7_ q8_ q9_ => ?_⟩
        · have q9_ := hz_ j9_ hj9_; rw [e4_, f44_]; exact q9_
        · have q7_ := hq_ i9_ q8_ (by omega); unfold srp rtv; rw [e3_, f44_, f45_, f46_]; exact q7_
        · have q6_ := hc_ j9_ (by omega) q7_ (by omega) q9_; unfold srp; rw [f42_, f43_, f44_]; exact q6_
      · have cx7_ : ¬ (n_ < vx6_) := of_decide_eq_false cx7_
        have gn_ := hg_.2.2 n_.toNat (by omega) (by omega)
        rw [← f42_, ← f43_] at gn_
        refine sm_T_go 2 (c1 := (54, [some (.inr (.inr (some (3, dd_)))), some (.inr (.inr (some (59, 0)))), some (.inl c_), some (.inl n_)], [.inl n_, .inr (.inr (some (59, 0)))], S_)) rfl ?_
        refine sm_T_iald (n := 1013) rfl rfl (by omega) (by omega) ?_
        have bx8_ : 0 ≤ S_.2.2.1 59 0 n_.toNat ∧ S_.2.2.1 59 0 n_.toNat ≤ 1 := hI_.2 59 0 _
        refine sm_T_b0 (a := 0) (z := 36) rfl (fun cx9_ => ?_) (fun cx9_ => ?_)
        · have cx9_ : (S_.2.2.1 59 0 n_.toNat) = 0 := of_decide_eq_true cx9_
          refine sm_T_inc (a := 3) (z := (-1)) (v := n_) (w := n_ - 1) rfl rfl (by omega) (by omega) (by omega) ?_ -- pc_ 91
          refine sm_T_go 1 (c1 := (44, [some (.inr (.inr (some (3, dd_)))), some (.inr (.inr (some (59, 0)))), some (.inl c_), some (.inl (n_ - 1))], [], S_)) rfl ?_
          refine ih_.2 c_ (n_ - 1) S_ hI_ hF_ ⟨?_, ?_, ?_, ?_, trivial⟩ ?_
          · omega
          · exact hz_
          · exact hq_
          · intro j9_ q6_ q7_ q8_ q9_
            by_cases z9_ : (j9_ : Int) = n_
            · exfalso; rw [show j9_ = n_.toNat by omega] at q9_; omega
            · exact hc_ j9_ (by omega) q7_ q8_ q9_
          · omega
        · have cx9_ : ¬ ((S_.2.2.1 59 0 n_.toNat) = 0) := of_decide_eq_false cx9_
          refine sm_T_inc (a := 2) (z := 1) (v := c_) (w := c_ + 1) rfl rfl (by omega) (by omega) (by omega) ?_ -- pc_ 58
          refine sm_T_go 5 (c1 := (68, [some (.inr (.inr (some (3, dd_)))), some (.inr (.inr (some (59, 0)))), some (.inl (c_ + 1)), some (.inl n_)], [.inl n_, .inr (.inr (some (42, (0 + dd_)))), .inr (.inr (some (3, dd_))), .inr (.inr (some (59, 0)))], S_)) rfl ?_
          refine sm_T_iald (n := 1013) rfl rfl (by omega) (by omega) ?_
          have bx10_ : 0 ≤ S_.2.2.1 42 (0 + dd_) n_.toNat ∧ S_.2.2.1 42 (0 + dd_) n_.toNat ≤ 2025 := hI_.2 42 (0 + dd_) _
          refine sm_T_cal (d1 := 0) (Q1 := vq_64 (S_.2.2.1 42 (0 + dd_) n_.toNat) dd_ S_) rfl rfl (by decide) (vc_64 (S_.2.2.1 42 (0 + dd_) n_.toNat) dd_ S_ hI_ (by omega)) (fun u_ Sx11_ px14_ => ?_)
          obtain ⟨rfl, vx16_, rfl, px14_⟩ := px14_
          have e69_ := px14_
          rw [f44_, f42_] at e69_
          rw [f42_, f43_] at gn_
          have sw9_ := swl_n hs_ (l_ := S0_.2.2.1 42 (0 + dd_) n_.toNat) (by omega) (by omega) (by omega)
          rw [← e69_] at sw9_
          have sb9_ := srp_b hs_ (l_ := S0_.2.2.1 42 (0 + dd_) n_.toNat) (by omega) (by omega)
          have tl9_ : (vx16_ / 2).toNat = srp dd_ S0_ (S0_.2.2.1 42 (0 + dd_) n_.toNat) := by omega
          refine sm_T_go 1 (c1 := (73, [some (.inr (.inr (some (3, dd_)))), some (.inr (.inr (some (59, 0)))), some (.inl (c_ + 1)), some (.inl n_)], [.inl 1, .inl vx16_, .inr (.inr (some (59, 0)))], S_)) rfl ?_
          refine sm_T_bin (w := (vx16_ / 2)) rfl (bi_shr (k := 1) (by decide) (by omega) (by omega)) ?_ -- pc_ 73
          refine sm_T_go 1 (c1 := (75, [some (.inr (.inr (some (3, dd_)))), some (.inr (.inr (some (59, 0)))), some (.inl (c_ + 1)), some (.inl n_)], [.inl 1, .inl (vx16_ / 2), .inr (.inr (some (59, 0)))], S_)) rfl ?_
          refine sm_T_iast (n := 1013) rfl rfl (by omega) (by omega) ?_
          have hIx17_ : gi (sm_aI S_ 59 0 (vx16_ / 2).toNat 1) := gi_aI hI_ (show 0 ≤ 1 ∧ 1 ≤ 1 from ⟨by omega, by omega⟩)
          have hFx18_ : ai_fr (sx_W vw_67m) S0_ (sm_aI S_ 59 0 (vx16_ / 2).toNat 1) := ai_fr_tr hF_ (ai_fr_aI rfl)
          refine sm_T_go 5 (c1 := (83, [some (.inr (.inr (some (3, dd_)))), some (.inr (.inr (some (59, 0)))), some (.inl (c_ + 1)), some (.inl n_)], [.inl n_, .inr (.inr (some (43, (0 + dd_)))), .inr (.inr (some (3, dd_))), .inr (.inr (some (59, 0)))], sm_aI S_ 59 0 (vx16_ / 2).toNat 1)) rfl ?_
          refine sm_T_iald (n := 1013) rfl rfl (by omega) (by omega) ?_
          have bx19_ : 0 ≤ S_.2.2.1 43 (0 + dd_) n_.toNat ∧ S_.2.2.1 43 (0 + dd_) n_.toNat ≤ 2025 := hI_.2 43 (0 + dd_) _
          refine sm_T_go 0 (c1 := (84, [some (.inr (.inr (some (3, dd_)))), some (.inr (.inr (some (59, 0)))), some (.inl (c_ + 1)), some (.inl n_)], [.inl (S_.2.2.1 43 (0 + dd_) n_.toNat), .inr (.inr (some (3, dd_))), .inr (.inr (some (59, 0)))], sm_aI S_ 59 0 (vx16_ / 2).toNat 1)) rfl ?_
          refine sm_T_cal (d1 := 0) (Q1 := vq_64 (S_.2.2.1 43 (0 + dd_) n_.toNat) dd_ (sm_aI S_ 59 0 (vx16_ / 2).toNat 1)) rfl rfl (by decide) (vc_64 (S_.2.2.1 43 (0 + dd_) n_.toNat) dd_ (sm_aI S_ 59 0 (vx16_ / 2).toNat 1) hIx17_ (by (rw [f43_]; omega))) (fun u_ Sx20_ px23_ => ?_)
          obtain ⟨rfl, vx25_, rfl, px23_⟩ := px23_
          have e84_ := px23_
          simp only [rd_ne, ne_eq, Nat.reduceEqDiff, not_false_eq_true] at e84_
          rw [f44_, f43_] at e84_
          have sw8_ := swl_n hs_ (l_ := S0_.2.2.1 43 (0 + dd_) n_.toNat) (by omega) (by omega) (by omega)
          rw [← e84_] at sw8_
          have sb8_ := srp_b hs_ (l_ := S0_.2.2.1 43 (0 + dd_) n_.toNat) (by omega) (by omega)
          have th9_ : (vx25_ / 2).toNat = srp dd_ S0_ (S0_.2.2.1 43 (0 + dd_) n_.toNat) := by omega
          refine sm_T_go 1 (c1 := (88, [some (.inr (.inr (some (3, dd_)))), some (.inr (.inr (some (59, 0)))), some (.inl (c_ + 1)), some (.inl n_)], [.inl 1, .inl vx25_, .inr (.inr (some (59, 0)))], sm_aI S_ 59 0 (vx16_ / 2).toNat 1)) rfl ?_
          refine sm_T_bin (w := (vx25_ / 2)) rfl (bi_shr (k := 1) (by decide) (by omega) (by omega)) ?_ -- pc_ 88
          refine sm_T_go 1 (c1 := (90, [some (.inr (.inr (some (3, dd_)))), some (.inr (.inr (some (59, 0)))), some (.inl (c_ + 1)), some (.inl n_)], [.inl 1, .inl (vx25_ / 2), .inr (.inr (some (59, 0)))], sm_aI S_ 59 0 (vx16_ / 2).toNat 1)) rfl ?_
          refine sm_T_iast (n := 1013) rfl rfl (by omega) (by omega) ?_
          have hIx26_ : gi (sm_aI (sm_aI S_ 59 0 (vx16_ / 2).toNat 1) 59 0 (vx25_ / 2).toNat 1) := gi_aI hIx17_ (show 0 ≤ 1 ∧ 1 ≤ 1 from ⟨by omega, by omega⟩)
          have hFx27_ : ai_fr (sx_W vw_67m) S0_ (sm_aI (sm_aI S_ 59 0 (vx16_ / 2).toNat 1) 59 0 (vx25_ / 2).toNat 1) := ai_fr_tr hFx18_ (ai_fr_aI rfl)
          refine sm_T_inc (a := 3) (z := (-1)) (v := n_) (w := n_ - 1) rfl rfl (by omega) (by omega) (by omega) ?_ -- pc_ 91
          refine sm_T_go 1 (c1 := (44, [some (.inr (.inr (some (3, dd_)))), some (.inr (.inr (some (59, 0)))), some (.inl (c_ + 1)), some (.inl (n_ - 1))], [], sm_aI (sm_aI S_ 59 0 (vx16_ / 2).toNat 1) 59 0 (vx25_ / 2).toNat 1)) rfl ?_
          refine ih_.2 (c_ + 1) (n_ - 1) (sm_aI (sm_aI S_ 59 0 (vx16_ / 2).toNat 1) 59 0 (vx25_ / 2).toNat 1) hIx26_ hFx27_ ⟨?_, ?_, ?_, ?_, trivial⟩ ?_
          · omega
          · intro j9_ hj9_
            rw [rd_eq]
            by_cases z9_ : j9_ = srp dd_ S0_ (S0_.2.2.1 43 (0 + dd_) n_.toNat)
            · rw [if_pos (by omega)]; right; rw [z9_]; exact ⟨rfl, by omega, sb8_.2.1⟩
            · rw [if_neg (by omega), rd_eq]
              by_cases y9_ : j9_ = srp dd_ S0_ (S0_.2.2.1 42 (0 + dd_) n_.toNat)
              · rw [if_pos (by omega)]; right; rw [y9_]; exact ⟨rfl, by omega, sb9_.2.1⟩
              · rw [if_neg (by omega)]; exact hz_ j9_ hj9_
          · intro i9_ q8_ q9_
            rw [rd_eq]
            split
            · rfl
            · rw [rd_eq]; split; rfl; exact hq_ i9_ q8_ q9_
          · have mono : ∀ j8_ : Nat, S_.2.2.1 59 0 j8_ = 1 → ((sm_aI (sm_aI S_ 59 0 (vx16_ / 2).toNat 1) 59 0 (vx25_ / 2).toNat 1)).2.2.1 59 0 j8_ = 1 := fun j8_ w8_ => by rw [rd_eq]; split; rfl; (rw [rd_eq]; split; rfl; exact w8_)
            intro j9_ q6_ q7_ q8_ q9_
            by_cases z9_ : (j9_ : Int) = n_
            · rw [show j9_ = n_.toNat by omega]
              refine ⟨?_, ?_⟩
              · rw [rd_eq]; split; rfl; (rw [rd_eq, if_pos (by omega)])
              · rw [rd_eq, if_pos (by omega)]
            · have lt9_ := hg_.2.2 j9_ q7_ q8_
              have q5_ : S_.2.2.1 59 0 j9_ = 1 := by rw [rd_eq, if_neg (by omega), rd_eq, if_neg (by omega)] at q9_; exact q9_
              have w9_ := hc_ j9_ (by omega) q7_ q8_ q5_
              exact ⟨mono _ w9_.1, mono _ w9_.2⟩
          · omega
set_option maxHeartbeats 2000000 in
theorem vc_67m {sc_ : Nat × (Nat → Int)} (dd_ : Nat) (F_ : Nat) (S0_ : sm_S) (hI_ : gi S0_) (hg_ : dgr dd_ F_ S0_) (hr_ : drt dd_ S0_) (hs_ : swp dd_ F_ S0_) : sm_T (mt_P sc_) 1 67 (0, [some (.inr (.inr (some (3, dd_)))), some (.inr (.inr (some (59, 0)))), none, none], [], S0_) (fun ro9_ => ∃ u_ S1_, ro9_ = (.inl u_, S1_, 0) ∧ vq_67m dd_ F_ S0_ u_ S1_) := by
  have hF_ : ai_fr (sx_W vw_67m) S0_ S0_ := ai_fr_rf
  refine sm_T_go 2 (c1 := (2, [some (.inr (.inr (some (3, dd_)))), some (.inr (.inr (some (59, 0)))), none, none], [.inl 0, .inr (.inr (some (59, 0)))], S0_)) rfl ?_
  refine sm_T_cal (d1 := 0) (Q1 := vq_2m9 0 S0_) rfl rfl (by decide) (vc_2m9 0 S0_ hI_ (by decide)) (fun u_ Sx1_ px4_ => ?_)
  obtain ⟨rfl, hIx2_, hFx3_, px4_⟩ := px4_
  have hFx5_ : ai_fr (sx_W vw_67m) S0_ Sx1_ := ai_fr_tr hF_ (fr_le hFx3_ rfl)
  have e0_ := px4_
  refine sm_T_go 2 (c1 := (7, [some (.inr (.inr (some (3, dd_)))), some (.inr (.inr (some (59, 0)))), some (.inl 0), none], [], Sx1_)) rfl ?_
  refine (vl_67m dd_ F_ S0_ hg_ hr_ hs_ _).1 0 Sx1_ hIx2_ hFx5_ ⟨?_, ?_, ?_, trivial⟩ (Nat.lt_succ_self _)
  · (have r1_ := hr_.1; omega)
  · (intro j9_ hj9_; left; exact e0_ j9_ hj9_)
  · (intro i9_ q8_ q9_; omega)
end
/-! 99.zn3a -/
section
/-! cuts; written by wip/p55/gen/vg -/
/-! Mapper.collectCuts -/
def vw_100 : sx_Wl := ([(6, 11), (6, 13)], [65, 68], [])
def vq_100 (a1_ : Int) (dd_ : Nat) (F_ : Nat) (S0_ : sm_S) (u_ : Option sm_V) (S1_ : sm_S) : Prop := u_ = none ∧ gi S1_ ∧ ai_fr (sx_W vw_100) S0_ S1_ ∧ (mcs (npd a1_ (S0_.2.2.1 59 0)) S1_)
set_option maxHeartbeats 3000000 in
theorem vl_100 {sc_ : Nat × (Nat → Int)} (a1_ : Int) (dd_ : Nat) (F_ : Nat) (S0_ : sm_S) (hd_ : S0_.2.1 6 0 0 = some dd_) (hg_ : dgr dd_ F_ S0_) (hs_ : swp dd_ F_ S0_) (hk_ : mkd dd_ F_ S0_ (S0_.2.2.1 59 0)) (h1_ : (F_ : Int) ≤ a1_ ∧ a1_ < S0_.1 3 dd_ 4) (hn_ : S0_.2.2.1 59 0 a1_.toNat = 1) : ∀ nn_ : Nat, (∀ (i9_ : Int) (S_ : sm_S), gi S_ → ai_fr (sx_W vw_100) S0_ S_ → ((0 ≤ i9_ ∧ i9_ ≤ 1024) ∧ (mcs (npd a1_ (S0_.2.2.1 59 0)) S_) ∧ True) → ((10 * (2000 - i9_) + 9).toNat) < nn_ → sm_T (mt_P sc_) 2 100 (34, [some (.inr (.inr (some (6, 0)))), some (.inl a1_), some (.inl i9_), none, none], [], S_) (fun ro9_ => ∃ u_ S1_, ro9_ = (.inl u_, S1_, 0) ∧ vq_100 a1_ dd_ F_ S0_ u_ S1_)) ∧ (∀ (i9_ : Int) (k_ : Int) (S_ : sm_S), gi S_ → ai_fr (sx_W vw_100) S0_ S_ → ((0 ≤ i9_ ∧ i9_ < 1024 ∧ 0 ≤ k_ ∧ k_ ≤ 3 ∧ i9_ < S_.1 6 0 11) ∧ (mcs (npd a1_ (S0_.2.2.1 59 0)) S_) ∧ True) → ((10 * (2000 - i9_) + 8 - k_).toNat) < nn_ → sm_T (mt_P sc_) 2 100 (51, [some (.inr (.inr (some (6, 0)))), some (.inl a1_), some (.inl i9_), some (.inl k_), none], [], S_) (fun ro9_ => ∃ u_ S1_, ro9_ = (.inl u_, S1_, 0) ∧ vq_100 a1_ dd_ F_ S0_ u_ S1_)) := by
  intro nn_
  induction nn_ with
  | zero => exact ⟨fun _ _ _ _ _ h_ => absurd h_ (Nat.not_lt_zero _), fun _ _ _ _ _ _ h_ => absurd h_ (Nat.not_lt_zero _)⟩
  | succ nn_ ih_ =>
    refine ⟨?_, ?_⟩
    · rintro i9_ S_ hI_ hF_ ⟨h0_, hcs_, -⟩ hm_
      have f59_ : S_.2.2.1 59 0 = S0_.2.2.1 59 0 := fr_arr hF_ rfl
      have f42_ : S_.2.2.1 42 (0 + dd_) = S0_.2.2.1 42 (0 + dd_) := fr_arr hF_ rfl
      have f43_ : S_.2.2.1 43 (0 + dd_) = S0_.2.2.1 43 (0 + dd_) := fr_arr hF_ rfl
      have f44_ : S_.2.2.1 44 (0 + dd_) = S0_.2.2.1 44 (0 + dd_) := fr_arr hF_ rfl
      have f4_ : S_.1 3 dd_ 4 = S0_.1 3 dd_ 4 := hF_.1 3 dd_ 4 rfl
      have f1_ : S_.1 3 dd_ 1 = S0_.1 3 dd_ 1 := hF_.1 3 dd_ 1 rfl
      have f2_ : S_.1 3 dd_ 2 = S0_.1 3 dd_ 2 := hF_.1 3 dd_ 2 rfl
      have ck_ : 0 ≤ S_.1 6 0 11 ∧ S_.1 6 0 11 ≤ 1024 := hI_.1 6 0 11 rfl
      have g1_ := hg_.1
      have g2_ := hg_.2.1
      have n13_ : 0 ≤ S_.1 3 dd_ 4 ∧ S_.1 3 dd_ 4 ≤ 1013 := hI_.1 3 dd_ 4 rfl
      have bx1_ : 0 ≤ S_.1 6 0 11 ∧ S_.1 6 0 11 ≤ 1024 := hI_.1 6 0 11 rfl
      refine sm_T_go 3 (c1 := (39, [some (.inr (.inr (some (6, 0)))), some (.inl a1_), some (.inl i9_), none, none], [.inl (S_.1 6 0 11), .inl i9_], S_)) rfl ?_
      refine sm_T_br (a := 3) (z := 121) rfl (fun cx2_ => ?_) (fun cx2_ => ?_)
      · have cx2_ : (S_.1 6 0 11) ≤ i9_ := of_decide_eq_true cx2_
        refine sm_T_rv rfl ⟨_, _, rfl, rfl, hI_, hF_, ?_⟩
        exact hcs_
      · have cx2_ : ¬ ((S_.1 6 0 11) ≤ i9_) := of_decide_eq_false cx2_
        refine sm_T_go 2 (c1 := (46, [some (.inr (.inr (some (6, 0)))), some (.inl a1_), some (.inl i9_), none, none], [.inl 1024, .inl i9_], S_)) rfl ?_
        refine sm_T_br (a := 3) (z := 114) rfl (fun cx3_ => ?_) (fun cx3_ => ?_)
        · have cx3_ : 1024 ≤ i9_ := of_decide_eq_true cx3_
          refine sm_T_rv rfl ⟨_, _, rfl, rfl, hI_, hF_, ?_⟩
          exact hcs_
        · have cx3_ : ¬ (1024 ≤ i9_) := of_decide_eq_false cx3_
          refine sm_T_go 2 (c1 := (51, [some (.inr (.inr (some (6, 0)))), some (.inl a1_), some (.inl i9_), some (.inl 0), none], [], S_)) rfl ?_
          refine ih_.2 i9_ 0 S_ hI_ hF_ ⟨?_, ?_, trivial⟩ ?_
          · omega
          · exact hcs_
          · omega
    · rintro i9_ k_ S_ hI_ hF_ ⟨h0_, hcs_, -⟩ hm_
      have f59_ : S_.2.2.1 59 0 = S0_.2.2.1 59 0 := fr_arr hF_ rfl
      have f42_ : S_.2.2.1 42 (0 + dd_) = S0_.2.2.1 42 (0 + dd_) := fr_arr hF_ rfl
      have f43_ : S_.2.2.1 43 (0 + dd_) = S0_.2.2.1 43 (0 + dd_) := fr_arr hF_ rfl
      have f44_ : S_.2.2.1 44 (0 + dd_) = S0_.2.2.1 44 (0 + dd_) := fr_arr hF_ rfl
      have f4_ : S_.1 3 dd_ 4 = S0_.1 3 dd_ 4 := hF_.1 3 dd_ 4 rfl
      have f1_ : S_.1 3 dd_ 1 = S0_.1 3 dd_ 1 := hF_.1 3 dd_ 1 rfl
      have f2_ : S_.1 3 dd_ 2 = S0_.1 3 dd_ 2 := hF_.1 3 dd_ 2 rfl
      have ck_ : 0 ≤ S_.1 6 0 11 ∧ S_.1 6 0 11 ≤ 1024 := hI_.1 6 0 11 rfl
      have g1_ := hg_.1
      have g2_ := hg_.2.1
      have n13_ : 0 ≤ S_.1 3 dd_ 4 ∧ S_.1 3 dd_ 4 ≤ 1013 := hI_.1 3 dd_ 4 rfl
      refine sm_T_go 2 (c1 := (53, [some (.inr (.inr (some (6, 0)))), some (.inl a1_), some (.inl i9_), some (.inl k_), none], [.inl 3, .inl k_], S_)) rfl ?_
      refine sm_T_br (a := 3) (z := 101) rfl (fun cx1_ => ?_) (fun cx1_ => ?_)
      · have cx1_ : 3 ≤ k_ := of_decide_eq_true cx1_
        refine sm_T_inc (a := 2) (z := 1) (v := i9_) (w := i9_ + 1) rfl rfl (by omega) (by omega) (by omega) ?_ -- pc_ 154
        refine sm_T_go 1 (c1 := (34, [some (.inr (.inr (some (6, 0)))), some (.inl a1_), some (.inl (i9_ + 1)), some (.inl k_), none], [], S_)) rfl ?_
        refine sm_T_wk [some (.inr (.inr (some (6, 0)))), some (.inl a1_), some (.inl (i9_ + 1)), none, none] (by exact ⟨rfl, rfl, rfl, trivial⟩) ?_
        refine ih_.1 (i9_ + 1) S_ hI_ hF_ ⟨?_, ?_, trivial⟩ ?_
        · omega
        · exact hcs_
        · omega
      · have cx1_ : ¬ (3 ≤ k_) := of_decide_eq_false cx1_
        refine sm_T_go 4 (c1 := (62, [some (.inr (.inr (some (6, 0)))), some (.inl a1_), some (.inl i9_), some (.inl k_), none], [.inl i9_, .inl 3, .inr (.inr (some (65, 0)))], S_)) rfl ?_
        refine sm_T_bin (w := 3 * i9_) rfl (bi_mul (by omega) (by omega) (by omega)) ?_ -- pc_ 62
        refine sm_T_go 1 (c1 := (64, [some (.inr (.inr (some (6, 0)))), some (.inl a1_), some (.inl i9_), some (.inl k_), none], [.inl k_, .inl (3 * i9_), .inr (.inr (some (65, 0)))], S_)) rfl ?_
        refine sm_T_bin (w := 3 * i9_ + k_) rfl (bi_add (by omega) (by omega) (by omega)) ?_ -- pc_ 64
        refine sm_T_iald (n := 3072) rfl rfl (by omega) (by omega) ?_
        have bx2_ : (-1) ≤ S_.2.2.1 65 0 (3 * i9_ + k_).toNat ∧ S_.2.2.1 65 0 (3 * i9_ + k_).toNat ≤ 1012 := hI_.2 65 0 _
        refine sm_T_go 3 (c1 := (71, [some (.inr (.inr (some (6, 0)))), some (.inl a1_), some (.inl i9_), some (.inl k_), some (.inl (S_.2.2.1 65 0 (3 * i9_ + k_).toNat))], [.inl (-1), .inl (S_.2.2.1 65 0 (3 * i9_ + k_).toNat)], S_)) rfl ?_
        refine sm_T_br (a := 0) (z := 77) rfl (fun cx3_ => ?_) (fun cx3_ => ?_)
        · have cx3_ : (S_.2.2.1 65 0 (3 * i9_ + k_).toNat) = (-1) := of_decide_eq_true cx3_
          refine sm_T_inc (a := 3) (z := 1) (v := k_) (w := k_ + 1) rfl rfl (by omega) (by omega) (by omega) ?_ -- pc_ 148
          refine sm_T_go 1 (c1 := (51, [some (.inr (.inr (some (6, 0)))), some (.inl a1_), some (.inl i9_), some (.inl (k_ + 1)), some (.inl (S_.2.2.1 65 0 (3 * i9_ + k_).toNat))], [], S_)) rfl ?_
          refine sm_T_wk [some (.inr (.inr (some (6, 0)))), some (.inl a1_), some (.inl i9_), some (.inl (k_ + 1)), none] (by exact ⟨rfl, rfl, rfl, rfl, trivial⟩) ?_
          refine ih_.2 i9_ (k_ + 1) S_ hI_ hF_ ⟨?_, ?_, trivial⟩ ?_
          · first | omega | (have q9_ := a145_.2; omega)
          · first | exact hcs_ | exact a145_.1
          · omega
        · have cx3_ : ¬ ((S_.2.2.1 65 0 (3 * i9_ + k_).toNat) = (-1)) := of_decide_eq_false cx3_
          have pn9_ := mcs_a hcs_ (i_ := i9_) (k_ := k_) (by omega) (by omega) (by omega)
          have pn8_ := pn9_.1
          have pn7_ := pn9_.2.1
          have pn6_ := pn9_.2.2
          refine sm_T_go 2 (c1 := (77, [some (.inr (.inr (some (6, 0)))), some (.inl a1_), some (.inl i9_), some (.inl k_), some (.inl (S_.2.2.1 65 0 (3 * i9_ + k_).toNat))], [.inl (S_.2.2.1 65 0 (3 * i9_ + k_).toNat), .inr (.inr (some (6, 0)))], S_)) rfl ?_
          refine sm_T_cal (d1 := 1) (Q1 := vq_94 (S_.2.2.1 65 0 (3 * i9_ + k_).toNat) dd_ S_) rfl rfl (by decide) (vc_94 (S_.2.2.1 65 0 (3 * i9_ + k_).toNat) dd_ S_ hI_ (by exact (hF_.2.1 6 0 0 rfl).trans hd_) (by omega)) (fun u_ Sx4_ px7_ => ?_)
          obtain ⟨rfl, vx9_, rfl, px7_⟩ := px7_
          have lf9_ := px7_
          rw [f1_, f2_] at lf9_
          refine sm_T_b0 (a := 1) (z := 68) rfl (fun cx10_ => ?_) (fun cx10_ => ?_)
          · have cx10_ : vx9_ ≠ 0 := of_decide_eq_true cx10_
            refine sm_T_inc (a := 3) (z := 1) (v := k_) (w := k_ + 1) rfl rfl (by omega) (by omega) (by omega) ?_ -- pc_ 148
            refine sm_T_go 1 (c1 := (51, [some (.inr (.inr (some (6, 0)))), some (.inl a1_), some (.inl i9_), some (.inl (k_ + 1)), some (.inl (S_.2.2.1 65 0 (3 * i9_ + k_).toNat))], [], S_)) rfl ?_
            refine sm_T_wk [some (.inr (.inr (some (6, 0)))), some (.inl a1_), some (.inl i9_), some (.inl (k_ + 1)), none] (by exact ⟨rfl, rfl, rfl, rfl, trivial⟩) ?_
            refine ih_.2 i9_ (k_ + 1) S_ hI_ hF_ ⟨?_, ?_, trivial⟩ ?_
            · first | omega | (have q9_ := a145_.2; omega)
            · first | exact hcs_ | exact a145_.1
            · omega
          · have cx10_ : ¬ (vx9_ ≠ 0) := of_decide_eq_false cx10_
            have nd9_ := nd_p hg_ hs_ hk_ (by omega) (x_ := (S_.2.2.1 65 0 (3 * i9_ + k_).toNat).toNat) (by omega) (by omega) pn6_
            have hIx11_ : gi (sm_pI S_ 6 0 13 0) := gi_pI hI_ (show 0 ≤ 0 ∧ 0 ≤ 4 from ⟨by omega, by omega⟩)
            have hFx12_ : ai_fr (sx_W vw_100) S0_ (sm_pI S_ 6 0 13 0) := ai_fr_tr hF_ (ai_fr_pI rfl)
            refine sm_T_go 6 (c1 := (92, [some (.inr (.inr (some (6, 0)))), some (.inl a1_), some (.inl i9_), some (.inl k_), some (.inl (S_.2.2.1 65 0 (3 * i9_ + k_).toNat))], [.inl (S_.2.2.1 65 0 (3 * i9_ + k_).toNat), .inr (.inr (some (6, 0))), .inr (.inr (some (6, 0)))], sm_pI S_ 6 0 13 0)) rfl ?_
            refine sm_T_cal (d1 := 1) (Q1 := vq_92 (S_.2.2.1 65 0 (3 * i9_ + k_).toNat) dd_ (sm_pI S_ 6 0 13 0)) rfl rfl (by decide) (vc_92 (S_.2.2.1 65 0 (3 * i9_ + k_).toNat) dd_ (sm_pI S_ 6 0 13 0) hIx11_ (by exact (hFx12_.2.1 6 0 0 rfl).trans hd_) (by omega)) (fun u_ Sx13_ px16_ => ?_)
            obtain ⟨rfl, vx18_, rfl, px16_⟩ := px16_
            have l92_ := px16_.1
            have v92_ : vx18_ = (srp dd_ S0_ (S0_.2.2.1 42 (0 + dd_) (S_.2.2.1 65 0 (3 * i9_ + k_).toNat).toNat) : Int) := by (have q9_ := px16_.2 F_ (dgr_fr hg_ hFx12_ rfl rfl rfl rfl rfl) (swp_fr hs_ hFx12_ rfl rfl rfl rfl) (by omega) (by rw [hFx12_.1 3 dd_ 4 rfl]; omega); unfold srp at q9_ ⊢; rw [fr_arr (t := 44) (i := 0 + dd_) hFx12_ rfl, fr_arr (t := 42) (i := 0 + dd_) hFx12_ rfl] at q9_; exact q9_)
            have w92_ : (npd a1_ (S0_.2.2.1 59 0)) vx18_ := ⟨by omega, by omega, by (rw [show (vx18_).toNat = srp dd_ S0_ (S0_.2.2.1 42 (0 + dd_) (S_.2.2.1 65 0 (3 * i9_ + k_).toNat).toNat) by omega]; exact nd9_.1.2.2)⟩
            refine sm_T_cal (d1 := 0) (Q1 := vq_101 vx18_ (npd a1_ (S0_.2.2.1 59 0)) (sm_pI S_ 6 0 13 0)) rfl rfl (by decide) (vc_101 vx18_ (npd a1_ (S0_.2.2.1 59 0)) (sm_pI S_ 6 0 13 0) hIx11_ (by omega) (by (rw [rf_eq]; decide)) (by (rw [rf_eq]; exact mms_0)) (by (intro _; exact w92_))) (fun u_ Sx19_ px22_ => ?_)
            obtain ⟨rfl, hIx20_, hFx21_, px22_⟩ := px22_
            have hFx23_ : ai_fr (sx_W vw_100) S0_ Sx19_ := ai_fr_tr hFx12_ (fr_le hFx21_ rfl)
            have a95_ := px22_
            have s95_ : Sx19_.1 6 0 13 = 1 := by (have q9_ := a95_.1; have q8_ := a95_.2.1; have q7_ := a95_.2.2.2.1 (by omega); rw [rf_eq] at q9_ q8_; omega)
            have z95_ := a95_.2.2.2.2.1 ⟨by omega, by rw [rf_eq]⟩
            have k95_ : Sx19_.1 6 0 11 = S_.1 6 0 11 := hFx21_.1 6 0 11 rfl
            have j95_ : Sx19_.2.2.1 65 0 = S_.2.2.1 65 0 := funext fun q9_ => (hFx21_.2.2 65 rfl 0 q9_).1
            refine sm_T_go 3 (c1 := (102, [some (.inr (.inr (some (6, 0)))), some (.inl a1_), some (.inl i9_), some (.inl k_), some (.inl (S_.2.2.1 65 0 (3 * i9_ + k_).toNat))], [.inl (S_.2.2.1 65 0 (3 * i9_ + k_).toNat), .inr (.inr (some (6, 0))), .inr (.inr (some (6, 0)))], Sx19_)) rfl ?_
            refine sm_T_cal (d1 := 1) (Q1 := vq_93 (S_.2.2.1 65 0 (3 * i9_ + k_).toNat) dd_ Sx19_) rfl rfl (by decide) (vc_93 (S_.2.2.1 65 0 (3 * i9_ + k_).toNat) dd_ Sx19_ hIx20_ (by exact (hFx23_.2.1 6 0 0 rfl).trans hd_) (by omega)) (fun u_ Sx24_ px27_ => ?_)
            obtain ⟨rfl, vx29_, rfl, px27_⟩ := px27_
            have l102_ := px27_.1
            have v102_ : vx29_ = (srp dd_ S0_ (S0_.2.2.1 43 (0 + dd_) (S_.2.2.1 65 0 (3 * i9_ + k_).toNat).toNat) : Int) := by (have q9_ := px27_.2 F_ (dgr_fr hg_ hFx23_ rfl rfl rfl rfl rfl) (swp_fr hs_ hFx23_ rfl rfl rfl rfl) (by omega) (by rw [hFx23_.1 3 dd_ 4 rfl]; omega); unfold srp at q9_ ⊢; rw [fr_arr (t := 44) (i := 0 + dd_) hFx23_ rfl, fr_arr (t := 43) (i := 0 + dd_) hFx23_ rfl] at q9_; exact q9_)
            have w102_ : (npd a1_ (S0_.2.2.1 59 0)) vx29_ := ⟨by omega, by omega, by (rw [show (vx29_).toNat = srp dd_ S0_ (S0_.2.2.1 43 (0 + dd_) (S_.2.2.1 65 0 (3 * i9_ + k_).toNat).toNat) by omega]; exact nd9_.2.1.2.2)⟩
            refine sm_T_cal (d1 := 0) (Q1 := vq_101 vx29_ (npd a1_ (S0_.2.2.1 59 0)) Sx19_) rfl rfl (by decide) (vc_101 vx29_ (npd a1_ (S0_.2.2.1 59 0)) Sx19_ hIx20_ (by omega) (by omega) (by exact a95_.2.2.1) (by (intro _; exact w102_))) (fun u_ Sx30_ px33_ => ?_)
            obtain ⟨rfl, hIx31_, hFx32_, px33_⟩ := px33_
            have hFx34_ : ai_fr (sx_W vw_100) S0_ Sx30_ := ai_fr_tr hFx23_ (fr_le hFx32_ rfl)
            have a105_ := px33_
            have s105_ : Sx30_.1 6 0 13 = 2 := a105_.2.2.2.2.2 ⟨by omega, s95_, by rw [z95_]; omega⟩
            have k105_ : Sx30_.1 6 0 11 = S_.1 6 0 11 := (hFx32_.1 6 0 11 rfl).trans k95_
            have j105_ : Sx30_.2.2.1 65 0 = S_.2.2.1 65 0 := (fr_arr hFx32_ rfl).trans j95_
            refine sm_T_go 5 (c1 := (115, [some (.inr (.inr (some (6, 0)))), some (.inl a1_), some (.inl i9_), some (.inl k_), some (.inl (S_.2.2.1 65 0 (3 * i9_ + k_).toNat))], [.inl i9_, .inl 3, .inr (.inr (some (65, 0))), .inr (.inr (some (6, 0)))], Sx30_)) rfl ?_
            refine sm_T_bin (w := 3 * i9_) rfl (bi_mul (by omega) (by omega) (by omega)) ?_ -- pc_ 115
            refine sm_T_go 2 (c1 := (118, [some (.inr (.inr (some (6, 0)))), some (.inl a1_), some (.inl i9_), some (.inl k_), some (.inl (S_.2.2.1 65 0 (3 * i9_ + k_).toNat))], [.inl 1, .inl k_, .inl (3 * i9_), .inr (.inr (some (65, 0))), .inr (.inr (some (6, 0)))], Sx30_)) rfl ?_
            refine sm_T_bin (w := k_ + 1) rfl (bi_add (by omega) (by omega) (by omega)) ?_ -- pc_ 118
            refine sm_T_go 1 (c1 := (120, [some (.inr (.inr (some (6, 0)))), some (.inl a1_), some (.inl i9_), some (.inl k_), some (.inl (S_.2.2.1 65 0 (3 * i9_ + k_).toNat))], [.inl 3, .inl (k_ + 1), .inl (3 * i9_), .inr (.inr (some (65, 0))), .inr (.inr (some (6, 0)))], Sx30_)) rfl ?_
            refine sm_T_bin (w := ((k_ + 1) % 3)) rfl (bi_rem (by omega) (by omega) (by omega) (by omega)) ?_ -- pc_ 120
            refine sm_T_bin (w := 3 * i9_ + ((k_ + 1) % 3)) rfl (bi_add (by omega) (by omega) (by omega)) ?_ -- pc_ 121
            refine sm_T_iald (n := 3072) rfl rfl (by omega) (by omega) ?_
            have bx35_ : (-1) ≤ Sx30_.2.2.1 65 0 (3 * i9_ + ((k_ + 1) % 3)).toNat ∧ Sx30_.2.2.1 65 0 (3 * i9_ + ((k_ + 1) % 3)).toNat ≤ 1012 := hIx31_.2 65 0 _
            refine sm_T_cal (d1 := 0) (Q1 := vq_101 (Sx30_.2.2.1 65 0 (3 * i9_ + ((k_ + 1) % 3)).toNat) (npd a1_ (S0_.2.2.1 59 0)) Sx30_) rfl rfl (by decide) (vc_101 (Sx30_.2.2.1 65 0 (3 * i9_ + ((k_ + 1) % 3)).toNat) (npd a1_ (S0_.2.2.1 59 0)) Sx30_ hIx31_ (by omega) (by omega) (by exact a105_.2.2.1) (by (rw [j105_]; intro u9_; exact mcs_a hcs_ (i_ := i9_) (k_ := (k_ + 1) % 3) (by omega) (by omega) u9_))) (fun u_ Sx36_ px39_ => ?_)
            obtain ⟨rfl, hIx37_, hFx38_, px39_⟩ := px39_
            have hFx40_ : ai_fr (sx_W vw_100) S0_ Sx36_ := ai_fr_tr hFx34_ (fr_le hFx38_ rfl)
            have a123_ := px39_
            have k123_ : Sx36_.1 6 0 11 = S_.1 6 0 11 := (hFx38_.1 6 0 11 rfl).trans k105_
            have j123_ : Sx36_.2.2.1 65 0 = S_.2.2.1 65 0 := (fr_arr hFx38_ rfl).trans j105_
            refine sm_T_go 5 (c1 := (133, [some (.inr (.inr (some (6, 0)))), some (.inl a1_), some (.inl i9_), some (.inl k_), some (.inl (S_.2.2.1 65 0 (3 * i9_ + k_).toNat))], [.inl i9_, .inl 3, .inr (.inr (some (65, 0))), .inr (.inr (some (6, 0)))], Sx36_)) rfl ?_
            refine sm_T_bin (w := 3 * i9_) rfl (bi_mul (by omega) (by omega) (by omega)) ?_ -- pc_ 133
            refine sm_T_go 2 (c1 := (136, [some (.inr (.inr (some (6, 0)))), some (.inl a1_), some (.inl i9_), some (.inl k_), some (.inl (S_.2.2.1 65 0 (3 * i9_ + k_).toNat))], [.inl 2, .inl k_, .inl (3 * i9_), .inr (.inr (some (65, 0))), .inr (.inr (some (6, 0)))], Sx36_)) rfl ?_
            refine sm_T_bin (w := k_ + 2) rfl (bi_add (by omega) (by omega) (by omega)) ?_ -- pc_ 136
            refine sm_T_go 1 (c1 := (138, [some (.inr (.inr (some (6, 0)))), some (.inl a1_), some (.inl i9_), some (.inl k_), some (.inl (S_.2.2.1 65 0 (3 * i9_ + k_).toNat))], [.inl 3, .inl (k_ + 2), .inl (3 * i9_), .inr (.inr (some (65, 0))), .inr (.inr (some (6, 0)))], Sx36_)) rfl ?_
            refine sm_T_bin (w := ((k_ + 2) % 3)) rfl (bi_rem (by omega) (by omega) (by omega) (by omega)) ?_ -- pc_ 138
            refine sm_T_bin (w := 3 * i9_ + ((k_ + 2) % 3)) rfl (bi_add (by omega) (by omega) (by omega)) ?_ -- pc_ 139
            refine sm_T_iald (n := 3072) rfl rfl (by omega) (by omega) ?_
            have bx41_ : (-1) ≤ Sx36_.2.2.1 65 0 (3 * i9_ + ((k_ + 2) % 3)).toNat ∧ Sx36_.2.2.1 65 0 (3 * i9_ + ((k_ + 2) % 3)).toNat ≤ 1012 := hIx37_.2 65 0 _
            refine sm_T_cal (d1 := 0) (Q1 := vq_101 (Sx36_.2.2.1 65 0 (3 * i9_ + ((k_ + 2) % 3)).toNat) (npd a1_ (S0_.2.2.1 59 0)) Sx36_) rfl rfl (by decide) (vc_101 (Sx36_.2.2.1 65 0 (3 * i9_ + ((k_ + 2) % 3)).toNat) (npd a1_ (S0_.2.2.1 59 0)) Sx36_ hIx37_ (by omega) (by omega) (by exact a123_.2.2.1) (by (rw [j123_]; intro u9_; exact mcs_a hcs_ (i_ := i9_) (k_ := (k_ + 2) % 3) (by omega) (by omega) u9_))) (fun u_ Sx42_ px45_ => ?_)
            obtain ⟨rfl, hIx43_, hFx44_, px45_⟩ := px45_
            have hFx46_ : ai_fr (sx_W vw_100) S0_ Sx42_ := ai_fr_tr hFx40_ (fr_le hFx44_ rfl)
            have a141_ := px45_
            have k141_ : Sx42_.1 6 0 11 = S_.1 6 0 11 := (hFx44_.1 6 0 11 rfl).trans k123_
            have j141_ : Sx42_.2.2.1 65 0 = S_.2.2.1 65 0 := (fr_arr hFx44_ rfl).trans j123_
            have m141_ : mcs (npd a1_ (S0_.2.2.1 59 0)) Sx42_ := by (intro c_ hc_; rw [k141_] at hc_; rw [j141_]; exact hcs_ c_ hc_)
            refine sm_T_go 1 (c1 := (145, [some (.inr (.inr (some (6, 0)))), some (.inl a1_), some (.inl i9_), some (.inl k_), some (.inl (S_.2.2.1 65 0 (3 * i9_ + k_).toNat))], [.inr (.inr (some (6, 0)))], Sx42_)) rfl ?_
            refine sm_T_cal (d1 := 0) (Q1 := vq_102 (npd a1_ (S0_.2.2.1 59 0)) Sx42_) rfl rfl (by decide) (vc_102 (npd a1_ (S0_.2.2.1 59 0)) Sx42_ hIx43_ (by omega) (by exact a141_.2.2.1) (by exact m141_)) (fun u_ Sx47_ px50_ => ?_)
            obtain ⟨rfl, hIx48_, hFx49_, px50_⟩ := px50_
            have hFx51_ : ai_fr (sx_W vw_100) S0_ Sx47_ := ai_fr_tr hFx46_ (fr_le hFx49_ rfl)
            have a145_ := px50_
            refine sm_T_inc (a := 3) (z := 1) (v := k_) (w := k_ + 1) rfl rfl (by omega) (by omega) (by omega) ?_ -- pc_ 148
            refine sm_T_go 1 (c1 := (51, [some (.inr (.inr (some (6, 0)))), some (.inl a1_), some (.inl i9_), some (.inl (k_ + 1)), some (.inl (S_.2.2.1 65 0 (3 * i9_ + k_).toNat))], [], Sx47_)) rfl ?_
            refine sm_T_wk [some (.inr (.inr (some (6, 0)))), some (.inl a1_), some (.inl i9_), some (.inl (k_ + 1)), none] (by exact ⟨rfl, rfl, rfl, rfl, trivial⟩) ?_
            refine ih_.2 i9_ (k_ + 1) Sx47_ hIx48_ hFx51_ ⟨?_, ?_, trivial⟩ ?_
            · first | omega | (have q9_ := a145_.2; omega)
            · first | exact hcs_ | exact a145_.1
            · omega
set_option maxHeartbeats 3000000 in
theorem vc_100 {sc_ : Nat × (Nat → Int)} (a1_ : Int) (dd_ : Nat) (F_ : Nat) (S0_ : sm_S) (hI_ : gi S0_) (hd_ : S0_.2.1 6 0 0 = some dd_) (hg_ : dgr dd_ F_ S0_) (hs_ : swp dd_ F_ S0_) (hk_ : mkd dd_ F_ S0_ (S0_.2.2.1 59 0)) (h1_ : (F_ : Int) ≤ a1_ ∧ a1_ < S0_.1 3 dd_ 4) (hn_ : S0_.2.2.1 59 0 a1_.toNat = 1) : sm_T (mt_P sc_) 2 100 (0, [some (.inr (.inr (some (6, 0)))), some (.inl a1_), none, none, none], [], S0_) (fun ro9_ => ∃ u_ S1_, ro9_ = (.inl u_, S1_, 0) ∧ vq_100 a1_ dd_ F_ S0_ u_ S1_) := by
  have hF_ : ai_fr (sx_W vw_100) S0_ S0_ := ai_fr_rf
  have g1_ := hg_.1
  have g2_ := hg_.2.1
  have n13_ : 0 ≤ S0_.1 3 dd_ 4 ∧ S0_.1 3 dd_ 4 ≤ 1013 := hI_.1 3 dd_ 4 rfl
  have nd0_ := nd_p hg_ hs_ hk_ n13_.2 (x_ := a1_.toNat) (by omega) (by omega) hn_
  have hIx1_ : gi (sm_pI S0_ 6 0 11 0) := gi_pI hI_ (show 0 ≤ 0 ∧ 0 ≤ 1024 from ⟨by omega, by omega⟩)
  have hFx2_ : ai_fr (sx_W vw_100) S0_ (sm_pI S0_ 6 0 11 0) := ai_fr_tr hF_ (ai_fr_pI rfl)
  have hIx3_ : gi (sm_pI (sm_pI S0_ 6 0 11 0) 6 0 13 0) := gi_pI hIx1_ (show 0 ≤ 0 ∧ 0 ≤ 4 from ⟨by omega, by omega⟩)
  have hFx4_ : ai_fr (sx_W vw_100) S0_ (sm_pI (sm_pI S0_ 6 0 11 0) 6 0 13 0) := ai_fr_tr hFx2_ (ai_fr_pI rfl)
  refine sm_T_go 9 (c1 := (13, [some (.inr (.inr (some (6, 0)))), some (.inl a1_), none, none, none], [.inl a1_, .inr (.inr (some (6, 0))), .inr (.inr (some (6, 0)))], sm_pI (sm_pI S0_ 6 0 11 0) 6 0 13 0)) rfl ?_
  refine sm_T_cal (d1 := 1) (Q1 := vq_92 a1_ dd_ (sm_pI (sm_pI S0_ 6 0 11 0) 6 0 13 0)) rfl rfl (by decide) (vc_92 a1_ dd_ (sm_pI (sm_pI S0_ 6 0 11 0) 6 0 13 0) hIx3_ (by exact (hFx4_.2.1 6 0 0 rfl).trans hd_) (by omega)) (fun u_ Sx5_ px8_ => ?_)
  obtain ⟨rfl, vx10_, rfl, px8_⟩ := px8_
  have l13_ := px8_.1
  have v13_ : vx10_ = (srp dd_ S0_ (S0_.2.2.1 42 (0 + dd_) a1_.toNat) : Int) := by (have q9_ := px8_.2 F_ (dgr_fr hg_ hFx4_ rfl rfl rfl rfl rfl) (swp_fr hs_ hFx4_ rfl rfl rfl rfl) (by omega) (by rw [hFx4_.1 3 dd_ 4 rfl]; omega); unfold srp at q9_ ⊢; rw [fr_arr (t := 44) (i := 0 + dd_) hFx4_ rfl, fr_arr (t := 42) (i := 0 + dd_) hFx4_ rfl] at q9_; exact q9_)
  have w13_ : (npd a1_ (S0_.2.2.1 59 0)) vx10_ := ⟨by omega, by omega, by (rw [show (vx10_).toNat = srp dd_ S0_ (S0_.2.2.1 42 (0 + dd_) a1_.toNat) by omega]; exact nd0_.1.2.2)⟩
  refine sm_T_cal (d1 := 0) (Q1 := vq_101 vx10_ (npd a1_ (S0_.2.2.1 59 0)) (sm_pI (sm_pI S0_ 6 0 11 0) 6 0 13 0)) rfl rfl (by decide) (vc_101 vx10_ (npd a1_ (S0_.2.2.1 59 0)) (sm_pI (sm_pI S0_ 6 0 11 0) 6 0 13 0) hIx3_ (by omega) (by (rw [rf_eq]; decide)) (by (rw [rf_eq]; exact mms_0)) (by (intro _; exact w13_))) (fun u_ Sx11_ px14_ => ?_)
  obtain ⟨rfl, hIx12_, hFx13_, px14_⟩ := px14_
  have hFx15_ : ai_fr (sx_W vw_100) S0_ Sx11_ := ai_fr_tr hFx4_ (fr_le hFx13_ rfl)
  have a16_ := px14_
  have s16_ : Sx11_.1 6 0 13 = 1 := by (have q9_ := a16_.1; have q8_ := a16_.2.1; have q7_ := a16_.2.2.2.1 (by omega); rw [rf_eq] at q9_ q8_; omega)
  have z16_ := a16_.2.2.2.2.1 ⟨by omega, by rw [rf_eq]⟩
  have k16_ : Sx11_.1 6 0 11 = 0 := hFx13_.1 6 0 11 rfl
  refine sm_T_go 3 (c1 := (22, [some (.inr (.inr (some (6, 0)))), some (.inl a1_), none, none, none], [.inl a1_, .inr (.inr (some (6, 0))), .inr (.inr (some (6, 0)))], Sx11_)) rfl ?_
  refine sm_T_cal (d1 := 1) (Q1 := vq_93 a1_ dd_ Sx11_) rfl rfl (by decide) (vc_93 a1_ dd_ Sx11_ hIx12_ (by exact (hFx15_.2.1 6 0 0 rfl).trans hd_) (by omega)) (fun u_ Sx16_ px19_ => ?_)
  obtain ⟨rfl, vx21_, rfl, px19_⟩ := px19_
  have l22_ := px19_.1
  have v22_ : vx21_ = (srp dd_ S0_ (S0_.2.2.1 43 (0 + dd_) a1_.toNat) : Int) := by (have q9_ := px19_.2 F_ (dgr_fr hg_ hFx15_ rfl rfl rfl rfl rfl) (swp_fr hs_ hFx15_ rfl rfl rfl rfl) (by omega) (by rw [hFx15_.1 3 dd_ 4 rfl]; omega); unfold srp at q9_ ⊢; rw [fr_arr (t := 44) (i := 0 + dd_) hFx15_ rfl, fr_arr (t := 43) (i := 0 + dd_) hFx15_ rfl] at q9_; exact q9_)
  have w22_ : (npd a1_ (S0_.2.2.1 59 0)) vx21_ := ⟨by omega, by omega, by (rw [show (vx21_).toNat = srp dd_ S0_ (S0_.2.2.1 43 (0 + dd_) a1_.toNat) by omega]; exact nd0_.2.1.2.2)⟩
  refine sm_T_cal (d1 := 0) (Q1 := vq_101 vx21_ (npd a1_ (S0_.2.2.1 59 0)) Sx11_) rfl rfl (by decide) (vc_101 vx21_ (npd a1_ (S0_.2.2.1 59 0)) Sx11_ hIx12_ (by omega) (by omega) (by exact a16_.2.2.1) (by (intro _; exact w22_))) (fun u_ Sx22_ px25_ => ?_)
  obtain ⟨rfl, hIx23_, hFx24_, px25_⟩ := px25_
  have hFx26_ : ai_fr (sx_W vw_100) S0_ Sx22_ := ai_fr_tr hFx15_ (fr_le hFx24_ rfl)
  have a25_ := px25_
  have s25_ : Sx22_.1 6 0 13 = 2 := a25_.2.2.2.2.2 ⟨by omega, s16_, by rw [z16_]; omega⟩
  have k25_ : Sx22_.1 6 0 11 = 0 := (hFx24_.1 6 0 11 rfl).trans k16_
  refine sm_T_go 1 (c1 := (29, [some (.inr (.inr (some (6, 0)))), some (.inl a1_), none, none, none], [.inr (.inr (some (6, 0)))], Sx22_)) rfl ?_
  refine sm_T_cal (d1 := 0) (Q1 := vq_102 (npd a1_ (S0_.2.2.1 59 0)) Sx22_) rfl rfl (by decide) (vc_102 (npd a1_ (S0_.2.2.1 59 0)) Sx22_ hIx23_ (by omega) (by exact a25_.2.2.1) (by (intro c_ hc_; exfalso; omega))) (fun u_ Sx27_ px30_ => ?_)
  obtain ⟨rfl, hIx28_, hFx29_, px30_⟩ := px30_
  have hFx31_ : ai_fr (sx_W vw_100) S0_ Sx27_ := ai_fr_tr hFx26_ (fr_le hFx29_ rfl)
  have a29_ := px30_.1
  refine sm_T_go 2 (c1 := (34, [some (.inr (.inr (some (6, 0)))), some (.inl a1_), some (.inl 0), none, none], [], Sx27_)) rfl ?_
  refine (vl_100 a1_ dd_ F_ S0_ hd_ hg_ hs_ hk_ h1_ hn_ _).1 0 Sx27_ hIx28_ hFx31_ ⟨?_, ?_, trivial⟩ (Nat.lt_succ_self _)
  · omega
  · exact a29_
end
/-! 99.zn4a -/
section
/-! roots, tables over cuts; written by wip/p55/gen/vg -/
/-! java/util/Arrays.fill -/
def vw_2r0 : sx_Wl := ([], [60], [])
def vq_2r0 (v0_ : Int) (S0_ : sm_S) (u_ : Option sm_V) (S1_ : sm_S) : Prop := u_ = none ∧ gi S1_ ∧ ai_fr (sx_W vw_2r0) S0_ S1_ ∧ (∀ j_, j_ < 1013 → S1_.2.2.1 60 0 j_ = v0_)
set_option maxHeartbeats 400000 in
theorem vl_2r0 {sc_ : Nat × (Nat → Int)} (v0_ : Int) (S0_ : sm_S) (hv_ : (-2147483648) ≤ v0_ ∧ v0_ ≤ 2147483647) : ∀ nn_ : Nat, (∀ (k_ : Int) (S_ : sm_S), gi S_ → ai_fr (sx_W vw_2r0) S0_ S_ → ((0 ≤ k_ ∧ k_ ≤ 1013) ∧ (∀ j_, j_ < k_.toNat → S_.2.2.1 60 0 j_ = v0_) ∧ True) → ((1013 - k_).toNat) < nn_ → sm_T (mt_P sc_) 0 2 (5, [some (.inr (.inr (some (60, 0)))), some (.inl v0_), some (.inl k_), some (.inl 1013)], [], S_) (fun ro9_ => ∃ u_ S1_, ro9_ = (.inl u_, S1_, 0) ∧ vq_2r0 v0_ S0_ u_ S1_)) := by
  intro nn_
  induction nn_ with
  | zero => exact fun _ _ _ _ _ h_ => absurd h_ (Nat.not_lt_zero _)
  | succ nn_ ih_ =>
    rintro k_ S_ hI_ hF_ ⟨h0_, h1_, -⟩ hm_
    refine sm_T_go 2 (c1 := (7, [some (.inr (.inr (some (60, 0)))), some (.inl v0_), some (.inl k_), some (.inl 1013)], [.inl 1013, .inl k_], S_)) rfl ?_
    refine sm_T_br (a := 3) (z := 13) rfl (fun cx1_ => ?_) (fun cx1_ => ?_)
    · have cx1_ : 1013 ≤ k_ := of_decide_eq_true cx1_
      refine sm_T_rv rfl ⟨_, _, rfl, rfl, hI_, hF_, ?_⟩
      exact fun j_ hj_ => h1_ j_ (by omega)
    · have cx1_ : ¬ (1013 ≤ k_) := of_decide_eq_false cx1_
      refine sm_T_go 3 (c1 := (13, [some (.inr (.inr (some (60, 0)))), some (.inl v0_), some (.inl k_), some (.inl 1013)], [.inl v0_, .inl k_, .inr (.inr (some (60, 0)))], S_)) rfl ?_
      refine sm_T_iast (n := 1013) rfl rfl (by omega) (by omega) ?_
      have hIx2_ : gi (sm_aI S_ 60 0 k_.toNat v0_) := gi_aI hI_ (show (-2147483648) ≤ v0_ ∧ v0_ ≤ 2147483647 from ⟨by omega, by omega⟩)
      have hFx3_ : ai_fr (sx_W vw_2r0) S0_ (sm_aI S_ 60 0 k_.toNat v0_) := ai_fr_tr hF_ (ai_fr_aI rfl)
      refine sm_T_inc (a := 2) (z := 1) (v := k_) (w := k_ + 1) rfl rfl (by omega) (by omega) (by omega) ?_ -- pc_ 14
      refine sm_T_go 1 (c1 := (5, [some (.inr (.inr (some (60, 0)))), some (.inl v0_), some (.inl (k_ + 1)), some (.inl 1013)], [], sm_aI S_ 60 0 k_.toNat v0_)) rfl ?_
      refine ih_ (k_ + 1) (sm_aI S_ 60 0 k_.toNat v0_) hIx2_ hFx3_ ⟨?_, ?_, trivial⟩ ?_
      · omega
      · intro j_ hj_
        rw [rd_eq]
        by_cases z_ : j_ = k_.toNat
        · rw [if_pos z_]
        · rw [if_neg z_]; exact h1_ j_ (by omega)
      · omega
set_option maxHeartbeats 400000 in
theorem vc_2r0 {sc_ : Nat × (Nat → Int)} (v0_ : Int) (S0_ : sm_S) (hI_ : gi S0_) (hv_ : (-2147483648) ≤ v0_ ∧ v0_ ≤ 2147483647) : sm_T (mt_P sc_) 0 2 (0, [some (.inr (.inr (some (60, 0)))), some (.inl v0_), none, none], [], S0_) (fun ro9_ => ∃ u_ S1_, ro9_ = (.inl u_, S1_, 0) ∧ vq_2r0 v0_ S0_ u_ S1_) := by
  have hF_ : ai_fr (sx_W vw_2r0) S0_ S0_ := ai_fr_rf
  refine sm_T_go 5 (c1 := (5, [some (.inr (.inr (some (60, 0)))), some (.inl v0_), some (.inl 0), some (.inl 1013)], [], S0_)) rfl ?_
  refine (vl_2r0 v0_ S0_ hv_ _) 0 S0_ hI_ hF_ ⟨?_, ?_, trivial⟩ (Nat.lt_succ_self _)
  · omega
  · (intro j_ hj_; exact absurd hj_ (Nat.not_lt_zero _))

theorem rtv_b {dd_ F_ : Nat} {S_ : sm_S} {i_ : Int} (hr_ : drt dd_ S_) (hs_ : swp dd_ F_ S_) (h0_ : 0 ≤ i_) (h1_ : i_ < S_.1 3 dd_ 3 + S_.1 3 dd_ 2) : (0 ≤ rtv dd_ S_ i_ ∧ rtv dd_ S_ i_ < 2 * S_.1 3 dd_ 4) ∧ (srp dd_ S_ (rtv dd_ S_ i_) : Int) < S_.1 3 dd_ 4 := by
  have a_ : 0 ≤ rtv dd_ S_ i_ ∧ rtv dd_ S_ i_ < 2 * S_.1 3 dd_ 4 := by
    unfold rtv
    split
    · exact hr_.2.1 i_.toNat (by omega)
    · exact hr_.2.2 (i_ - S_.1 3 dd_ 3).toNat (by omega)
  have b_ := srp_b hs_ a_.1 a_.2
  exact ⟨a_, by omega⟩
end
/-! 99.zn4b -/
section
/-! Mapper.findRoots -/
def vw_95 : sx_Wl := ([], [60], [])
def vq_95 (dd_ : Nat) (F_ : Nat) (S0_ : sm_S) (u_ : Option sm_V) (S1_ : sm_S) : Prop := u_ = none ∧ gi S1_ ∧ ai_fr (sx_W vw_95) S0_ S1_ ∧ (∀ i_ : Int, 0 ≤ i_ → i_ < S0_.1 3 dd_ 3 + S0_.1 3 dd_ 2 → S1_.2.2.1 60 0 (srp dd_ S0_ (rtv dd_ S0_ i_)) ≠ 0)
set_option maxHeartbeats 3000000 in
theorem vl_95 {sc_ : Nat × (Nat → Int)} (dd_ : Nat) (F_ : Nat) (S0_ : sm_S) (hd_ : S0_.2.1 6 0 0 = some dd_) (hr_ : drt dd_ S0_) (hg_ : dgr dd_ F_ S0_) (hs_ : swp dd_ F_ S0_) : ∀ nn_ : Nat, (∀ (k_ : Int) (S_ : sm_S), gi S_ → ai_fr (sx_W vw_95) S0_ S_ → ((0 ≤ k_ ∧ k_ ≤ S0_.1 3 dd_ 3 + S0_.1 3 dd_ 2) ∧ (∀ j_ : Nat, j_ < 1013 → 0 ≤ S_.2.2.1 60 0 j_ ∧ S_.2.2.1 60 0 j_ ≤ 2 * k_) ∧ (∀ i_ : Int, 0 ≤ i_ → i_ < k_ → 2 ≤ S_.2.2.1 60 0 (srp dd_ S0_ (rtv dd_ S0_ i_))) ∧ True) → ((9000 - k_).toNat) < nn_ → sm_T (mt_P sc_) 2 95 (10, [some (.inr (.inr (some (6, 0)))), some (.inl k_)], [], S_) (fun ro9_ => ∃ u_ S1_, ro9_ = (.inl u_, S1_, 0) ∧ vq_95 dd_ F_ S0_ u_ S1_)) ∧ (∀ (n_ : Int) (S_ : sm_S), gi S_ → ai_fr (sx_W vw_95) S0_ S_ → ((0 ≤ n_ ∧ n_ ≤ 1013) ∧ (∀ j_ : Nat, j_ < 1013 → 0 ≤ S_.2.2.1 60 0 j_ ∧ S_.2.2.1 60 0 j_ ≤ 100 + 2 * n_) ∧ (∀ i_ : Int, 0 ≤ i_ → i_ < S0_.1 3 dd_ 3 + S0_.1 3 dd_ 2 → 2 ≤ S_.2.2.1 60 0 (srp dd_ S0_ (rtv dd_ S0_ i_))) ∧ True) → ((5000 - n_).toNat) < nn_ → sm_T (mt_P sc_) 2 95 (61, [some (.inr (.inr (some (6, 0)))), some (.inl n_)], [], S_) (fun ro9_ => ∃ u_ S1_, ro9_ = (.inl u_, S1_, 0) ∧ vq_95 dd_ F_ S0_ u_ S1_)) ∧ (∀ (n_ : Int) (S_ : sm_S), gi S_ → ai_fr (sx_W vw_95) S0_ S_ → ((0 ≤ n_ ∧ n_ ≤ 1013) ∧ (∀ i_ : Int, 0 ≤ i_ → i_ < S0_.1 3 dd_ 3 + S0_.1 3 dd_ 2 → imq ((srp dd_ S0_ (rtv dd_ S0_ i_) : Int) < n_) (S_.2.2.1 60 0 (srp dd_ S0_ (rtv dd_ S0_ i_)) = 1) ∧ imq (n_ ≤ (srp dd_ S0_ (rtv dd_ S0_ i_) : Int)) (2 ≤ S_.2.2.1 60 0 (srp dd_ S0_ (rtv dd_ S0_ i_)))) ∧ True) → ((2000 - n_).toNat) < nn_ → sm_T (mt_P sc_) 2 95 (117, [some (.inr (.inr (some (6, 0)))), some (.inl n_)], [], S_) (fun ro9_ => ∃ u_ S1_, ro9_ = (.inl u_, S1_, 0) ∧ vq_95 dd_ F_ S0_ u_ S1_)) := by
  intro nn_
  induction nn_ with
  | zero => exact ⟨fun _ _ _ _ _ h_ => absurd h_ (Nat.not_lt_zero _), fun _ _ _ _ _ h_ => absurd h_ (Nat.not_lt_zero _), fun _ _ _ _ _ h_ => absurd h_ (Nat.not_lt_zero _)⟩
  | succ nn_ ih_ =>
    refine ⟨?_, ?_, ?_⟩
    · rintro k_ S_ hI_ hF_ ⟨h0_, hb_, hq_, -⟩ hm_
      have r1_ := hr_.1
      have c1_ : 0 ≤ S_.1 3 dd_ 1 ∧ S_.1 3 dd_ 1 ≤ 320 := hI_.1 3 dd_ 1 rfl
      have n13_ : 0 ≤ S_.1 3 dd_ 4 ∧ S_.1 3 dd_ 4 ≤ 1013 := hI_.1 3 dd_ 4 rfl
      have f1_ : S_.1 3 dd_ 1 = S0_.1 3 dd_ 1 := hF_.1 3 dd_ 1 rfl
      have f2_ : S_.1 3 dd_ 2 = S0_.1 3 dd_ 2 := hF_.1 3 dd_ 2 rfl
      have f3_ : S_.1 3 dd_ 3 = S0_.1 3 dd_ 3 := hF_.1 3 dd_ 3 rfl
      have f4_ : S_.1 3 dd_ 4 = S0_.1 3 dd_ 4 := hF_.1 3 dd_ 4 rfl
      have g1_ := hg_.1
      have f44_ : S_.2.2.1 44 (0 + dd_) = S0_.2.2.1 44 (0 + dd_) := fr_arr hF_ rfl
      have f45_ : S_.2.2.1 45 (0 + dd_) = S0_.2.2.1 45 (0 + dd_) := fr_arr hF_ rfl
      have f46_ : S_.2.2.1 46 (0 + dd_) = S0_.2.2.1 46 (0 + dd_) := fr_arr hF_ rfl
      refine sm_T_go 2 (c1 := (12, [some (.inr (.inr (some (6, 0)))), some (.inl k_)], [.inr (.inr (some (6, 0))), .inl k_], S_)) rfl ?_
      refine sm_T_gr rfl rfl ((hF_.2.1 6 0 0 rfl).trans hd_) ?_
      refine sm_T_cal (d1 := 0) (Q1 := vq_66 dd_ S_) rfl rfl (by decide) (vc_66 dd_ S_ hI_ (by omega)) (fun u_ Sx1_ px4_ => ?_)
      obtain ⟨rfl, vx6_, rfl, px4_⟩ := px4_
      have r15_ := px4_
      refine sm_T_br (a := 3) (z := 35) rfl (fun cx7_ => ?_) (fun cx7_ => ?_)
      · have cx7_ : vx6_ ≤ k_ := of_decide_eq_true cx7_
        refine sm_T_go 1 (c1 := (54, [some (.inr (.inr (some (6, 0)))), some (.inl k_)], [.inr (.inr (some (6, 0)))], S_)) rfl ?_
        refine sm_T_gr rfl rfl ((hF_.2.1 6 0 0 rfl).trans hd_) ?_
        refine sm_T_cal (d1 := 0) (Q1 := vq_63 dd_ S_) rfl rfl (by decide) (vc_63 dd_ S_ hI_ (by omega)) (fun u_ Sx8_ px11_ => ?_)
        obtain ⟨rfl, vx13_, rfl, px11_⟩ := px11_
        have a57_ := px11_
        refine sm_T_go 1 (c1 := (61, [some (.inr (.inr (some (6, 0)))), some (.inl vx13_)], [], S_)) rfl ?_
        refine ih_.2.1 vx13_ S_ hI_ hF_ ⟨?_, ?_, ?_, trivial⟩ ?_
        · omega
        · (intro j_ hj_; have w9_ := hb_ j_ hj_; omega)
        · (intro i_ u_ w_; exact hq_ i_ u_ (by omega))
        · omega
      · have cx7_ : ¬ (vx6_ ≤ k_) := of_decide_eq_false cx7_
        refine sm_T_go 3 (c1 := (26, [some (.inr (.inr (some (6, 0)))), some (.inl k_)], [.inr (.inr (some (6, 0))), .inr (.inr (some (60, 0)))], S_)) rfl ?_
        refine sm_T_gr rfl rfl ((hF_.2.1 6 0 0 rfl).trans hd_) ?_
        refine sm_T_go 1 (c1 := (30, [some (.inr (.inr (some (6, 0)))), some (.inl k_)], [.inr (.inr (some (6, 0))), .inr (.inr (some (3, dd_))), .inr (.inr (some (60, 0)))], S_)) rfl ?_
        refine sm_T_gr rfl rfl ((hF_.2.1 6 0 0 rfl).trans hd_) ?_
        refine sm_T_go 1 (c1 := (34, [some (.inr (.inr (some (6, 0)))), some (.inl k_)], [.inl k_, .inr (.inr (some (3, dd_))), .inr (.inr (some (3, dd_))), .inr (.inr (some (60, 0)))], S_)) rfl ?_
        refine sm_T_cal (d1 := 0) (Q1 := vq_65 k_ dd_ S_) rfl rfl (by decide) (vc_65 k_ dd_ S_ hI_ (by exact drt_fr hr_ hF_ rfl rfl rfl rfl rfl) (by omega)) (fun u_ Sx14_ px17_ => ?_)
        obtain ⟨rfl, vx19_, rfl, px17_⟩ := px17_
        have t34_ := px17_
        have v34_ : vx19_ = rtv dd_ S0_ k_ := by (rw [t34_.1]; unfold rtv; rw [f3_, f45_, f46_])
        refine sm_T_cal (d1 := 0) (Q1 := vq_64 vx19_ dd_ S_) rfl rfl (by decide) (vc_64 vx19_ dd_ S_ hI_ (by omega)) (fun u_ Sx20_ px23_ => ?_)
        obtain ⟨rfl, vx25_, rfl, px23_⟩ := px23_
        have e37_ := px23_
        have x37_ : 0 ≤ vx25_ ∧ vx25_ ≤ 2025 := by (rw [e37_]; exact swx (hI_.2 44 (0 + dd_) _) (by omega))
        rw [f44_, v34_] at e37_
        have rb9_ := (rtv_b hr_ hs_ h0_.1 (show k_ < S0_.1 3 dd_ 3 + S0_.1 3 dd_ 2 by omega)).1
        have sw9_ := swl_n hs_ (l_ := rtv dd_ S0_ k_) rb9_.1 rb9_.2 (by omega)
        rw [← e37_] at sw9_
        have tn9_ : (vx25_ / 2).toNat = srp dd_ S0_ (rtv dd_ S0_ k_) := by omega
        have hb9_ := hb_ (vx25_ / 2).toNat (by omega)
        refine sm_T_go 1 (c1 := (41, [some (.inr (.inr (some (6, 0)))), some (.inl k_)], [.inl 1, .inl vx25_, .inr (.inr (some (60, 0)))], S_)) rfl ?_
        refine sm_T_bin (w := (vx25_ / 2)) rfl (bi_shr (k := 1) (by decide) (by omega) (by omega)) ?_ -- pc_ 41
        refine sm_T_go 1 (c1 := (43, [some (.inr (.inr (some (6, 0)))), some (.inl k_)], [.inl (vx25_ / 2), .inr (.inr (some (60, 0))), .inl (vx25_ / 2), .inr (.inr (some (60, 0)))], S_)) rfl ?_
        refine sm_T_iald (n := 1013) rfl rfl (by omega) (by omega) ?_
        have bx26_ : (-2147483648) ≤ S_.2.2.1 60 0 (vx25_ / 2).toNat ∧ S_.2.2.1 60 0 (vx25_ / 2).toNat ≤ 2147483647 := hI_.2 60 0 _
        refine sm_T_go 1 (c1 := (45, [some (.inr (.inr (some (6, 0)))), some (.inl k_)], [.inl 2, .inl (S_.2.2.1 60 0 (vx25_ / 2).toNat), .inl (vx25_ / 2), .inr (.inr (some (60, 0)))], S_)) rfl ?_
        refine sm_T_bin (w := (S_.2.2.1 60 0 (vx25_ / 2).toNat) + 2) rfl (bi_add (by omega) (by omega) (by omega)) ?_ -- pc_ 45
        refine sm_T_iast (n := 1013) rfl rfl (by omega) (by omega) ?_
        have hIx27_ : gi (sm_aI S_ 60 0 (vx25_ / 2).toNat ((S_.2.2.1 60 0 (vx25_ / 2).toNat) + 2)) := gi_aI hI_ (show (-2147483648) ≤ (S_.2.2.1 60 0 (vx25_ / 2).toNat) + 2 ∧ (S_.2.2.1 60 0 (vx25_ / 2).toNat) + 2 ≤ 2147483647 from ⟨by omega, by omega⟩)
        have hFx28_ : ai_fr (sx_W vw_95) S0_ (sm_aI S_ 60 0 (vx25_ / 2).toNat ((S_.2.2.1 60 0 (vx25_ / 2).toNat) + 2)) := ai_fr_tr hF_ (ai_fr_aI rfl)
        refine sm_T_inc (a := 1) (z := 1) (v := k_) (w := k_ + 1) rfl rfl (by omega) (by omega) (by omega) ?_ -- pc_ 47
        refine sm_T_go 1 (c1 := (10, [some (.inr (.inr (some (6, 0)))), some (.inl (k_ + 1))], [], sm_aI S_ 60 0 (vx25_ / 2).toNat ((S_.2.2.1 60 0 (vx25_ / 2).toNat) + 2))) rfl ?_
        refine ih_.1 (k_ + 1) (sm_aI S_ 60 0 (vx25_ / 2).toNat ((S_.2.2.1 60 0 (vx25_ / 2).toNat) + 2)) hIx27_ hFx28_ ⟨?_, ?_, ?_, trivial⟩ ?_
        · omega
        · intro j_ hj_
          rw [rd_eq]
          have w9_ := hb_ j_ hj_
          split
          · omega
          · omega
        · intro i_ u_ w_
          rw [rd_eq]
          by_cases y_ : i_ = k_
          · rw [if_pos (by rw [y_, tn9_])]; omega
          · have w8_ := hq_ i_ u_ (by omega)
            split
            · omega
            · exact w8_
        · omega
    · rintro n_ S_ hI_ hF_ ⟨h0_, hb_, hq_, -⟩ hm_
      have r1_ := hr_.1
      have c1_ : 0 ≤ S_.1 3 dd_ 1 ∧ S_.1 3 dd_ 1 ≤ 320 := hI_.1 3 dd_ 1 rfl
      have n13_ : 0 ≤ S_.1 3 dd_ 4 ∧ S_.1 3 dd_ 4 ≤ 1013 := hI_.1 3 dd_ 4 rfl
      have f1_ : S_.1 3 dd_ 1 = S0_.1 3 dd_ 1 := hF_.1 3 dd_ 1 rfl
      have f2_ : S_.1 3 dd_ 2 = S0_.1 3 dd_ 2 := hF_.1 3 dd_ 2 rfl
      have f3_ : S_.1 3 dd_ 3 = S0_.1 3 dd_ 3 := hF_.1 3 dd_ 3 rfl
      have f4_ : S_.1 3 dd_ 4 = S0_.1 3 dd_ 4 := hF_.1 3 dd_ 4 rfl
      have g1_ := hg_.1
      have f44_ : S_.2.2.1 44 (0 + dd_) = S0_.2.2.1 44 (0 + dd_) := fr_arr hF_ rfl
      have f45_ : S_.2.2.1 45 (0 + dd_) = S0_.2.2.1 45 (0 + dd_) := fr_arr hF_ rfl
      have f46_ : S_.2.2.1 46 (0 + dd_) = S0_.2.2.1 46 (0 + dd_) := fr_arr hF_ rfl
      refine sm_T_go 2 (c1 := (63, [some (.inr (.inr (some (6, 0)))), some (.inl n_)], [.inr (.inr (some (6, 0))), .inl n_], S_)) rfl ?_
      refine sm_T_gr rfl rfl ((hF_.2.1 6 0 0 rfl).trans hd_) ?_
      have bx1_ : 0 ≤ S_.1 3 dd_ 4 ∧ S_.1 3 dd_ 4 ≤ 1013 := hI_.1 3 dd_ 4 rfl
      refine sm_T_go 1 (c1 := (69, [some (.inr (.inr (some (6, 0)))), some (.inl n_)], [.inl (S_.1 3 dd_ 4), .inl n_], S_)) rfl ?_
      refine sm_T_br (a := 3) (z := 46) rfl (fun cx2_ => ?_) (fun cx2_ => ?_)
      · have cx2_ : (S_.1 3 dd_ 4) ≤ n_ := of_decide_eq_true cx2_
        refine sm_T_go 2 (c1 := (117, [some (.inr (.inr (some (6, 0)))), some (.inl 0)], [], S_)) rfl ?_
        refine ih_.2.2 0 S_ hI_ hF_ ⟨?_, ?_, trivial⟩ ?_
        · omega
        · intro i_ u_ w_
          exact ⟨fun q9_ => by (exfalso; omega), fun _ => hq_ i_ u_ w_⟩
        · omega
      · have cx2_ : ¬ ((S_.1 3 dd_ 4) ≤ n_) := of_decide_eq_false cx2_
        refine sm_T_go 3 (c1 := (77, [some (.inr (.inr (some (6, 0)))), some (.inl n_)], [.inl n_, .inr (.inr (some (59, 0)))], S_)) rfl ?_
        refine sm_T_iald (n := 1013) rfl rfl (by omega) (by omega) ?_
        have bx3_ : 0 ≤ S_.2.2.1 59 0 n_.toNat ∧ S_.2.2.1 59 0 n_.toNat ≤ 1 := hI_.2 59 0 _
        refine sm_T_b0 (a := 0) (z := 31) rfl (fun cx4_ => ?_) (fun cx4_ => ?_)
        · have cx4_ : (S_.2.2.1 59 0 n_.toNat) = 0 := of_decide_eq_true cx4_
          refine sm_T_inc (a := 1) (z := 1) (v := n_) (w := n_ + 1) rfl rfl (by omega) (by omega) (by omega) ?_ -- pc_ 109
          refine sm_T_go 1 (c1 := (61, [some (.inr (.inr (some (6, 0)))), some (.inl (n_ + 1))], [], S_)) rfl ?_
          refine ih_.2.1 (n_ + 1) S_ hI_ hF_ ⟨?_, ?_, ?_, trivial⟩ ?_
          · omega
          · first | (intro j_ hj_; rw [rd_eq]; have w9_ := hb6_ j_ hj_; split; (omega); (omega)) | (intro j_ hj_; have w9_ := hb_ j_ hj_; omega)
          · first | exact hq_ | (intro i_ u_ w_; rw [rd_eq]; have w9_ := hq6_ _ (hq_ i_ u_ w_); split; (rename_i z9_; rw [z9_] at w9_; omega); (exact w9_))
          · omega
        · have cx4_ : ¬ ((S_.2.2.1 59 0 n_.toNat) = 0) := of_decide_eq_false cx4_
          refine sm_T_go 4 (c1 := (87, [some (.inr (.inr (some (6, 0)))), some (.inl n_)], [.inl n_, .inr (.inr (some (6, 0))), .inr (.inr (some (60, 0)))], S_)) rfl ?_
          refine sm_T_cal (d1 := 1) (Q1 := vq_92 n_ dd_ S_) rfl rfl (by decide) (vc_92 n_ dd_ S_ hI_ (by exact (hF_.2.1 6 0 0 rfl).trans hd_) (by omega)) (fun u_ Sx5_ px8_ => ?_)
          obtain ⟨rfl, vx10_, rfl, px8_⟩ := px8_
          have l87_ := px8_.1
          have hb8_ := hb_ (vx10_).toNat (by omega)
          refine sm_T_go 1 (c1 := (91, [some (.inr (.inr (some (6, 0)))), some (.inl n_)], [.inl vx10_, .inr (.inr (some (60, 0))), .inl vx10_, .inr (.inr (some (60, 0)))], S_)) rfl ?_
          refine sm_T_iald (n := 1013) rfl rfl (by omega) (by omega) ?_
          have bx11_ : (-2147483648) ≤ S_.2.2.1 60 0 vx10_.toNat ∧ S_.2.2.1 60 0 vx10_.toNat ≤ 2147483647 := hI_.2 60 0 _
          refine sm_T_go 1 (c1 := (93, [some (.inr (.inr (some (6, 0)))), some (.inl n_)], [.inl 1, .inl (S_.2.2.1 60 0 vx10_.toNat), .inl vx10_, .inr (.inr (some (60, 0)))], S_)) rfl ?_
          refine sm_T_bin (w := (S_.2.2.1 60 0 vx10_.toNat) + 1) rfl (bi_add (by omega) (by omega) (by omega)) ?_ -- pc_ 93
          refine sm_T_iast (n := 1013) rfl rfl (by omega) (by omega) ?_
          have hIx12_ : gi (sm_aI S_ 60 0 vx10_.toNat ((S_.2.2.1 60 0 vx10_.toNat) + 1)) := gi_aI hI_ (show (-2147483648) ≤ (S_.2.2.1 60 0 vx10_.toNat) + 1 ∧ (S_.2.2.1 60 0 vx10_.toNat) + 1 ≤ 2147483647 from ⟨by omega, by omega⟩)
          have hFx13_ : ai_fr (sx_W vw_95) S0_ (sm_aI S_ 60 0 vx10_.toNat ((S_.2.2.1 60 0 vx10_.toNat) + 1)) := ai_fr_tr hF_ (ai_fr_aI rfl)
          refine sm_T_go 4 (c1 := (101, [some (.inr (.inr (some (6, 0)))), some (.inl n_)], [.inl n_, .inr (.inr (some (6, 0))), .inr (.inr (some (60, 0)))], sm_aI S_ 60 0 vx10_.toNat ((S_.2.2.1 60 0 vx10_.toNat) + 1))) rfl ?_
          refine sm_T_cal (d1 := 1) (Q1 := vq_93 n_ dd_ (sm_aI S_ 60 0 vx10_.toNat ((S_.2.2.1 60 0 vx10_.toNat) + 1))) rfl rfl (by decide) (vc_93 n_ dd_ (sm_aI S_ 60 0 vx10_.toNat ((S_.2.2.1 60 0 vx10_.toNat) + 1)) hIx12_ (by exact (hFx13_.2.1 6 0 0 rfl).trans hd_) (by omega)) (fun u_ Sx14_ px17_ => ?_)
          obtain ⟨rfl, vx19_, rfl, px17_⟩ := px17_
          have l101_ := px17_.1
          have hb6_ : ∀ j_ : Nat, j_ < 1013 → 0 ≤ (sm_aI S_ 60 0 vx10_.toNat ((S_.2.2.1 60 0 vx10_.toNat) + 1)).2.2.1 60 0 j_ ∧ (sm_aI S_ 60 0 vx10_.toNat ((S_.2.2.1 60 0 vx10_.toNat) + 1)).2.2.1 60 0 j_ ≤ 101 + 2 * n_ := by (intro j_ hj_; rw [rd_eq]; have w9_ := hb_ j_ hj_; split; (omega); (omega))
          have hb7_ := hb6_ (vx19_).toNat (by omega)
          have hq6_ : ∀ j_ : Nat, 2 ≤ S_.2.2.1 60 0 j_ → 2 ≤ (sm_aI S_ 60 0 vx10_.toNat ((S_.2.2.1 60 0 vx10_.toNat) + 1)).2.2.1 60 0 j_ := by (intro j_ hj_; rw [rd_eq]; split; (rename_i z9_; rw [z9_] at hj_; omega); (omega))
          refine sm_T_go 1 (c1 := (105, [some (.inr (.inr (some (6, 0)))), some (.inl n_)], [.inl vx19_, .inr (.inr (some (60, 0))), .inl vx19_, .inr (.inr (some (60, 0)))], sm_aI S_ 60 0 vx10_.toNat ((S_.2.2.1 60 0 vx10_.toNat) + 1))) rfl ?_
          refine sm_T_iald (n := 1013) rfl rfl (by omega) (by omega) ?_
          have bx20_ : (-2147483648) ≤ (sm_aI S_ 60 0 vx10_.toNat ((S_.2.2.1 60 0 vx10_.toNat) + 1)).2.2.1 60 0 vx19_.toNat ∧ (sm_aI S_ 60 0 vx10_.toNat ((S_.2.2.1 60 0 vx10_.toNat) + 1)).2.2.1 60 0 vx19_.toNat ≤ 2147483647 := hIx12_.2 60 0 _
          refine sm_T_go 1 (c1 := (107, [some (.inr (.inr (some (6, 0)))), some (.inl n_)], [.inl 1, .inl ((sm_aI S_ 60 0 vx10_.toNat ((S_.2.2.1 60 0 vx10_.toNat) + 1)).2.2.1 60 0 vx19_.toNat), .inl vx19_, .inr (.inr (some (60, 0)))], sm_aI S_ 60 0 vx10_.toNat ((S_.2.2.1 60 0 vx10_.toNat) + 1))) rfl ?_
          refine sm_T_bin (w := ((sm_aI S_ 60 0 vx10_.toNat ((S_.2.2.1 60 0 vx10_.toNat) + 1)).2.2.1 60 0 vx19_.toNat) + 1) rfl (bi_add (by omega) (by omega) (by omega)) ?_ -- pc_ 107
          refine sm_T_iast (n := 1013) rfl rfl (by omega) (by omega) ?_
          have hIx21_ : gi (sm_aI (sm_aI S_ 60 0 vx10_.toNat ((S_.2.2.1 60 0 vx10_.toNat) + 1)) 60 0 vx19_.toNat (((sm_aI S_ 60 0 vx10_.toNat ((S_.2.2.1 60 0 vx10_.toNat) + 1)).2.2.1 60 0 vx19_.toNat) + 1)) := gi_aI hIx12_ (show (-2147483648) ≤ ((sm_aI S_ 60 0 vx10_.toNat ((S_.2.2.1 60 0 vx10_.toNat) + 1)).2.2.1 60 0 vx19_.toNat) + 1 ∧ ((sm_aI S_ 60 0 vx10_.toNat ((S_.2.2.1 60 0 vx10_.toNat) + 1)).2.2.1 60 0 vx19_.toNat) + 1 ≤ 2147483647 from ⟨by omega, by omega⟩)
          have hFx22_ : ai_fr (sx_W vw_95) S0_ (sm_aI (sm_aI S_ 60 0 vx10_.toNat ((S_.2.2.1 60 0 vx10_.toNat) + 1)) 60 0 vx19_.toNat (((sm_aI S_ 60 0 vx10_.toNat ((S_.2.2.1 60 0 vx10_.toNat) + 1)).2.2.1 60 0 vx19_.toNat) + 1)) := ai_fr_tr hFx13_ (ai_fr_aI rfl)
          refine sm_T_inc (a := 1) (z := 1) (v := n_) (w := n_ + 1) rfl rfl (by omega) (by omega) (by omega) ?_ -- pc_ 109
          refine sm_T_go 1 (c1 := (61, [some (.inr (.inr (some (6, 0)))), some (.inl (n_ + 1))], [], sm_aI (sm_aI S_ 60 0 vx10_.toNat ((S_.2.2.1 60 0 vx10_.toNat) + 1)) 60 0 vx19_.toNat (((sm_aI S_ 60 0 vx10_.toNat ((S_.2.2.1 60 0 vx10_.toNat) + 1)).2.2.1 60 0 vx19_.toNat) + 1))) rfl ?_
          refine ih_.2.1 (n_ + 1) (sm_aI (sm_aI S_ 60 0 vx10_.toNat ((S_.2.2.1 60 0 vx10_.toNat) + 1)) 60 0 vx19_.toNat (((sm_aI S_ 60 0 vx10_.toNat ((S_.2.2.1 60 0 vx10_.toNat) + 1)).2.2.1 60 0 vx19_.toNat) + 1)) hIx21_ hFx22_ ⟨?_, ?_, ?_, trivial⟩ ?_
          · omega
          · first | (intro j_ hj_; rw [rd_eq]; have w9_ := hb6_ j_ hj_; split; (omega); (omega)) | (intro j_ hj_; have w9_ := hb_ j_ hj_; omega)
          · first | exact hq_ | (intro i_ u_ w_; rw [rd_eq]; have w9_ := hq6_ _ (hq_ i_ u_ w_); split; (rename_i z9_; rw [z9_] at w9_; omega); (exact w9_))
          · omega
    · rintro n_ S_ hI_ hF_ ⟨h0_, hq2_, -⟩ hm_
      have r1_ := hr_.1
      have c1_ : 0 ≤ S_.1 3 dd_ 1 ∧ S_.1 3 dd_ 1 ≤ 320 := hI_.1 3 dd_ 1 rfl
      have n13_ : 0 ≤ S_.1 3 dd_ 4 ∧ S_.1 3 dd_ 4 ≤ 1013 := hI_.1 3 dd_ 4 rfl
      have f1_ : S_.1 3 dd_ 1 = S0_.1 3 dd_ 1 := hF_.1 3 dd_ 1 rfl
      have f2_ : S_.1 3 dd_ 2 = S0_.1 3 dd_ 2 := hF_.1 3 dd_ 2 rfl
      have f3_ : S_.1 3 dd_ 3 = S0_.1 3 dd_ 3 := hF_.1 3 dd_ 3 rfl
      have f4_ : S_.1 3 dd_ 4 = S0_.1 3 dd_ 4 := hF_.1 3 dd_ 4 rfl
      have g1_ := hg_.1
      have f44_ : S_.2.2.1 44 (0 + dd_) = S0_.2.2.1 44 (0 + dd_) := fr_arr hF_ rfl
      have f45_ : S_.2.2.1 45 (0 + dd_) = S0_.2.2.1 45 (0 + dd_) := fr_arr hF_ rfl
      have f46_ : S_.2.2.1 46 (0 + dd_) = S0_.2.2.1 46 (0 + dd_) := fr_arr hF_ rfl
      refine sm_T_go 2 (c1 := (119, [some (.inr (.inr (some (6, 0)))), some (.inl n_)], [.inr (.inr (some (6, 0))), .inl n_], S_)) rfl ?_
      refine sm_T_gr rfl rfl ((hF_.2.1 6 0 0 rfl).trans hd_) ?_
      have bx1_ : 0 ≤ S_.1 3 dd_ 4 ∧ S_.1 3 dd_ 4 ≤ 1013 := hI_.1 3 dd_ 4 rfl
      refine sm_T_go 1 (c1 := (125, [some (.inr (.inr (some (6, 0)))), some (.inl n_)], [.inl (S_.1 3 dd_ 4), .inl n_], S_)) rfl ?_
      refine sm_T_br (a := 3) (z := 30) rfl (fun cx2_ => ?_) (fun cx2_ => ?_)
      · have cx2_ : (S_.1 3 dd_ 4) ≤ n_ := of_decide_eq_true cx2_
        refine sm_T_rv rfl ⟨_, _, rfl, rfl, hI_, hF_, ?_⟩
        intro i_ u_ w_
        have z9_ := (hq2_ i_ u_ w_).1
        have zb_ := (rtv_b hr_ hs_ u_ w_).2
        have z7_ := z9_ (by omega)
        omega
      · have cx2_ : ¬ ((S_.1 3 dd_ 4) ≤ n_) := of_decide_eq_false cx2_
        refine sm_T_go 6 (c1 := (138, [some (.inr (.inr (some (6, 0)))), some (.inl n_)], [.inl n_, .inr (.inr (some (60, 0))), .inl n_, .inr (.inr (some (60, 0)))], S_)) rfl ?_
        refine sm_T_iald (n := 1013) rfl rfl (by omega) (by omega) ?_
        have bx3_ : (-2147483648) ≤ S_.2.2.1 60 0 n_.toNat ∧ S_.2.2.1 60 0 n_.toNat ≤ 2147483647 := hI_.2 60 0 _
        refine sm_T_go 1 (c1 := (140, [some (.inr (.inr (some (6, 0)))), some (.inl n_)], [.inl 1, .inl (S_.2.2.1 60 0 n_.toNat), .inl n_, .inr (.inr (some (60, 0)))], S_)) rfl ?_
        refine sm_T_br (a := 5) (z := 7) rfl (fun cx4_ => ?_) (fun cx4_ => ?_)
        · have cx4_ : (S_.2.2.1 60 0 n_.toNat) ≤ 1 := of_decide_eq_true cx4_
          refine sm_T_go 1 (c1 := (148, [some (.inr (.inr (some (6, 0)))), some (.inl n_)], [.inl 0, .inl n_, .inr (.inr (some (60, 0)))], S_)) rfl ?_
          refine sm_T_iast (n := 1013) rfl rfl (by omega) (by omega) ?_
          have hIx5_ : gi (sm_aI S_ 60 0 n_.toNat 0) := gi_aI hI_ (show (-2147483648) ≤ 0 ∧ 0 ≤ 2147483647 from ⟨by omega, by omega⟩)
          have hFx6_ : ai_fr (sx_W vw_95) S0_ (sm_aI S_ 60 0 n_.toNat 0) := ai_fr_tr hF_ (ai_fr_aI rfl)
          refine sm_T_inc (a := 1) (z := 1) (v := n_) (w := n_ + 1) rfl rfl (by omega) (by omega) (by omega) ?_ -- pc_ 149
          refine sm_T_go 1 (c1 := (117, [some (.inr (.inr (some (6, 0)))), some (.inl (n_ + 1))], [], sm_aI S_ 60 0 n_.toNat 0)) rfl ?_
          refine ih_.2.2 (n_ + 1) (sm_aI S_ 60 0 n_.toNat 0) hIx5_ hFx6_ ⟨?_, ?_, trivial⟩ ?_
          · omega
          · intro i_ u_ w_
            have z9_ := hq2_ i_ u_ w_
            rw [rd_eq]
            by_cases y_ : (srp dd_ S0_ (rtv dd_ S0_ i_) : Int) = n_
            · have z8_ := z9_.2 (by omega)
              rw [if_pos (by omega)]
              refine ⟨fun _ => ?_, fun q9_ => ?_⟩
              · first | rfl | (exfalso; have z6_ : srp dd_ S0_ (rtv dd_ S0_ i_) = n_.toNat := (by omega); rw [z6_] at z8_; omega)
              · exfalso; omega
            · rw [if_neg (by omega)]
              exact ⟨fun q9_ => z9_.1 (by omega), fun q9_ => z9_.2 (by omega)⟩
          · omega
        · have cx4_ : ¬ ((S_.2.2.1 60 0 n_.toNat) ≤ 1) := of_decide_eq_false cx4_
          refine sm_T_go 2 (c1 := (148, [some (.inr (.inr (some (6, 0)))), some (.inl n_)], [.inl 1, .inl n_, .inr (.inr (some (60, 0)))], S_)) rfl ?_
          refine sm_T_iast (n := 1013) rfl rfl (by omega) (by omega) ?_
          have hIx7_ : gi (sm_aI S_ 60 0 n_.toNat 1) := gi_aI hI_ (show (-2147483648) ≤ 1 ∧ 1 ≤ 2147483647 from ⟨by omega, by omega⟩)
          have hFx8_ : ai_fr (sx_W vw_95) S0_ (sm_aI S_ 60 0 n_.toNat 1) := ai_fr_tr hF_ (ai_fr_aI rfl)
          refine sm_T_inc (a := 1) (z := 1) (v := n_) (w := n_ + 1) rfl rfl (by omega) (by omega) (by omega) ?_ -- pc_ 149
          refine sm_T_go 1 (c1 := (117, [some (.inr (.inr (some (6, 0)))), some (.inl (n_ + 1))], [], sm_aI S_ 60 0 n_.toNat 1)) rfl ?_
          refine ih_.2.2 (n_ + 1) (sm_aI S_ 60 0 n_.toNat 1) hIx7_ hFx8_ ⟨?_, ?_, trivial⟩ ?_
          · omega
          · intro i_ u_ w_
            have z9_ := hq2_ i_ u_ w_
            rw [rd_eq]
            by_cases y_ : (srp dd_ S0_ (rtv dd_ S0_ i_) : Int) = n_
            · have z8_ := z9_.2 (by omega)
              rw [if_pos (by omega)]
              refine ⟨fun _ => ?_, fun q9_ => ?_⟩
              · first | rfl | (exfalso; have z6_ : srp dd_ S0_ (rtv dd_ S0_ i_) = n_.toNat := (by omega); rw [z6_] at z8_; omega)
              · exfalso; omega
            · rw [if_neg (by omega)]
              exact ⟨fun q9_ => z9_.1 (by omega), fun q9_ => z9_.2 (by omega)⟩
          · omega
set_option maxHeartbeats 3000000 in
theorem vc_95 {sc_ : Nat × (Nat → Int)} (dd_ : Nat) (F_ : Nat) (S0_ : sm_S) (hI_ : gi S0_) (hd_ : S0_.2.1 6 0 0 = some dd_) (hr_ : drt dd_ S0_) (hg_ : dgr dd_ F_ S0_) (hs_ : swp dd_ F_ S0_) : sm_T (mt_P sc_) 2 95 (0, [some (.inr (.inr (some (6, 0)))), none], [], S0_) (fun ro9_ => ∃ u_ S1_, ro9_ = (.inl u_, S1_, 0) ∧ vq_95 dd_ F_ S0_ u_ S1_) := by
  have hF_ : ai_fr (sx_W vw_95) S0_ S0_ := ai_fr_rf
  have r1_ := hr_.1
  have g1_ := hg_.1
  refine sm_T_go 3 (c1 := (5, [some (.inr (.inr (some (6, 0)))), none], [.inl 0, .inr (.inr (some (60, 0)))], S0_)) rfl ?_
  refine sm_T_cal (d1 := 0) (Q1 := vq_2r0 0 S0_) rfl rfl (by decide) (vc_2r0 0 S0_ hI_ (by decide)) (fun u_ Sx1_ px4_ => ?_)
  obtain ⟨rfl, hIx2_, hFx3_, px4_⟩ := px4_
  have hFx5_ : ai_fr (sx_W vw_95) S0_ Sx1_ := ai_fr_tr hF_ (fr_le hFx3_ rfl)
  have e5_ := px4_
  refine sm_T_go 2 (c1 := (10, [some (.inr (.inr (some (6, 0)))), some (.inl 0)], [], Sx1_)) rfl ?_
  refine (vl_95 dd_ F_ S0_ hd_ hr_ hg_ hs_ _).1 0 Sx1_ hIx2_ hFx5_ ⟨?_, ?_, ?_, trivial⟩ (Nat.lt_succ_self _)
  · omega
  · (intro j_ hj_; rw [e5_ j_ hj_]; omega)
  · (intro i_ u_ w_; exfalso; omega)
end
/-! 99.zn4c -/
section
/-! Mapper.wantsInverter -/
def vw_96 : sx_Wl := ([], [], [])
def vq_96 (dd_ : Nat) (S0_ : sm_S) (u_ : Option sm_V) (S1_ : sm_S) : Prop := S0_ = S1_ ∧ ∃ v_ : Int, u_ = some (.inl v_) ∧ ((v_ = 0 ∨ v_ = 1) ∧ (v_ = 0 → ∀ i_ : Int, 0 ≤ i_ → i_ < S0_.1 3 dd_ 3 + S0_.1 3 dd_ 2 → i_xor (S0_.2.2.1 44 (0 + dd_) (rtv dd_ S0_ i_ / 2).toNat) (rtv dd_ S0_ i_ % 2) ≤ 1 ∨ i_xor (S0_.2.2.1 44 (0 + dd_) (rtv dd_ S0_ i_ / 2).toNat) (rtv dd_ S0_ i_ % 2) % 2 = 0))
set_option maxHeartbeats 400000 in
theorem vl_96 {sc_ : Nat × (Nat → Int)} (dd_ : Nat) (S0_ : sm_S) (hd_ : S0_.2.1 6 0 0 = some dd_) (hr_ : drt dd_ S0_) : ∀ nn_ : Nat, (∀ (k_ : Int) (S_ : sm_S), gi S_ → ai_fr (sx_W vw_96) S0_ S_ → ((0 ≤ k_ ∧ k_ ≤ 22) ∧ (∀ i_ : Int, 0 ≤ i_ → i_ < k_ → i_xor (S0_.2.2.1 44 (0 + dd_) (rtv dd_ S0_ i_ / 2).toNat) (rtv dd_ S0_ i_ % 2) ≤ 1 ∨ i_xor (S0_.2.2.1 44 (0 + dd_) (rtv dd_ S0_ i_ / 2).toNat) (rtv dd_ S0_ i_ % 2) % 2 = 0) ∧ (S_ = S0_) ∧ True) → ((100 - k_).toNat) < nn_ → sm_T (mt_P sc_) 1 96 (2, [some (.inr (.inr (some (6, 0)))), some (.inl k_), none], [], S_) (fun ro9_ => ∃ u_ S1_, ro9_ = (.inl u_, S1_, 0) ∧ vq_96 dd_ S0_ u_ S1_)) := by
  intro nn_
  induction nn_ with
  | zero => exact fun _ _ _ _ _ h_ => absurd h_ (Nat.not_lt_zero _)
  | succ nn_ ih_ =>
    rintro k_ S_ hI_ hF_ ⟨h0_, hi_, hS_, -⟩ hm_
    have r1_ := hr_.1
    have f2_ : S_.1 3 dd_ 2 = S0_.1 3 dd_ 2 := by rw [hS_]
    have f3_ : S_.1 3 dd_ 3 = S0_.1 3 dd_ 3 := by rw [hS_]
    refine sm_T_go 2 (c1 := (4, [some (.inr (.inr (some (6, 0)))), some (.inl k_), none], [.inr (.inr (some (6, 0))), .inl k_], S_)) rfl ?_
    refine sm_T_gr rfl rfl ((hF_.2.1 6 0 0 rfl).trans hd_) ?_
    refine sm_T_cal (d1 := 0) (Q1 := vq_66 dd_ S_) rfl rfl (by decide) (vc_66 dd_ S_ hI_ (by omega)) (fun u_ Sx1_ px4_ => ?_)
    obtain ⟨rfl, vx6_, rfl, px4_⟩ := px4_
    have r7_ := px4_
    refine sm_T_br (a := 3) (z := 38) rfl (fun cx7_ => ?_) (fun cx7_ => ?_)
    · have cx7_ : vx6_ ≤ k_ := of_decide_eq_true cx7_
      refine sm_T_go 1 (c1 := (49, [some (.inr (.inr (some (6, 0)))), some (.inl k_), none], [.inl 0], S_)) rfl ?_
      refine sm_T_rz rfl (by omega) ⟨_, _, rfl, (by first | rfl | exact hS_.symm), _, rfl, ?_⟩
      exact ⟨Or.inl rfl, fun _ i_ u_ w_ => hi_ i_ u_ (by omega)⟩
    · have cx7_ : ¬ (vx6_ ≤ k_) := of_decide_eq_false cx7_
      refine sm_T_go 1 (c1 := (14, [some (.inr (.inr (some (6, 0)))), some (.inl k_), none], [.inr (.inr (some (6, 0)))], S_)) rfl ?_
      refine sm_T_gr rfl rfl ((hF_.2.1 6 0 0 rfl).trans hd_) ?_
      refine sm_T_go 1 (c1 := (18, [some (.inr (.inr (some (6, 0)))), some (.inl k_), none], [.inr (.inr (some (6, 0))), .inr (.inr (some (3, dd_)))], S_)) rfl ?_
      refine sm_T_gr rfl rfl ((hF_.2.1 6 0 0 rfl).trans hd_) ?_
      refine sm_T_go 1 (c1 := (22, [some (.inr (.inr (some (6, 0)))), some (.inl k_), none], [.inl k_, .inr (.inr (some (3, dd_))), .inr (.inr (some (3, dd_)))], S_)) rfl ?_
      refine sm_T_cal (d1 := 0) (Q1 := vq_65 k_ dd_ S_) rfl rfl (by decide) (vc_65 k_ dd_ S_ hI_ (by (rw [hS_]; exact hr_)) (by omega)) (fun u_ Sx8_ px11_ => ?_)
      obtain ⟨rfl, vx13_, rfl, px11_⟩ := px11_
      have t22_ := px11_
      have n22_ : S_.1 3 dd_ 4 ≤ 1013 := (hI_.1 3 dd_ 4 rfl).2
      refine sm_T_cal (d1 := 0) (Q1 := vq_64 vx13_ dd_ S_) rfl rfl (by decide) (vc_64 vx13_ dd_ S_ hI_ (by omega)) (fun u_ Sx14_ px17_ => ?_)
      obtain ⟨rfl, vx19_, rfl, px17_⟩ := px17_
      have e25_ := px17_
      rw [t22_.1, hS_] at e25_
      refine sm_T_go 3 (c1 := (31, [some (.inr (.inr (some (6, 0)))), some (.inl k_), some (.inl vx19_)], [.inl 1, .inl vx19_], S_)) rfl ?_
      refine sm_T_br (a := 5) (z := 11) rfl (fun cx20_ => ?_) (fun cx20_ => ?_)
      · have cx20_ : vx19_ ≤ 1 := of_decide_eq_true cx20_
        refine sm_T_inc (a := 1) (z := 1) (v := k_) (w := k_ + 1) rfl rfl (by omega) (by omega) (by omega) ?_ -- pc_ 42
        refine sm_T_go 1 (c1 := (2, [some (.inr (.inr (some (6, 0)))), some (.inl (k_ + 1)), some (.inl vx19_)], [], S_)) rfl ?_
        refine sm_T_wk [some (.inr (.inr (some (6, 0)))), some (.inl (k_ + 1)), none] (by exact ⟨rfl, rfl, trivial⟩) ?_
        refine ih_ (k_ + 1) S_ hI_ hF_ ⟨?_, ?_, ?_, trivial⟩ ?_
        · omega
        · intro i_ u_ w_
          by_cases y_ : i_ = k_
          · rw [y_, ← e25_]; omega
          · exact hi_ i_ u_ (by omega)
        · first | rfl | exact hS_
        · omega
      · have cx20_ : ¬ (vx19_ ≤ 1) := of_decide_eq_false cx20_
        refine sm_T_go 2 (c1 := (36, [some (.inr (.inr (some (6, 0)))), some (.inl k_), some (.inl vx19_)], [.inl 1, .inl vx19_], S_)) rfl ?_
        refine sm_T_bin (w := (vx19_ % 2)) rfl (bi_msk (k := 1) (by decide)) ?_ -- pc_ 36
        refine sm_T_b0 (a := 0) (z := 5) rfl (fun cx21_ => ?_) (fun cx21_ => ?_)
        · have cx21_ : (vx19_ % 2) = 0 := of_decide_eq_true cx21_
          refine sm_T_inc (a := 1) (z := 1) (v := k_) (w := k_ + 1) rfl rfl (by omega) (by omega) (by omega) ?_ -- pc_ 42
          refine sm_T_go 1 (c1 := (2, [some (.inr (.inr (some (6, 0)))), some (.inl (k_ + 1)), some (.inl vx19_)], [], S_)) rfl ?_
          refine sm_T_wk [some (.inr (.inr (some (6, 0)))), some (.inl (k_ + 1)), none] (by exact ⟨rfl, rfl, trivial⟩) ?_
          refine ih_ (k_ + 1) S_ hI_ hF_ ⟨?_, ?_, ?_, trivial⟩ ?_
          · omega
          · intro i_ u_ w_
            by_cases y_ : i_ = k_
            · rw [y_, ← e25_]; omega
            · exact hi_ i_ u_ (by omega)
          · first | rfl | exact hS_
          · omega
        · have cx21_ : ¬ ((vx19_ % 2) = 0) := of_decide_eq_false cx21_
          refine sm_T_go 1 (c1 := (41, [some (.inr (.inr (some (6, 0)))), some (.inl k_), some (.inl vx19_)], [.inl 1], S_)) rfl ?_
          refine sm_T_rz rfl (by omega) ⟨_, _, rfl, (by first | rfl | exact hS_.symm), _, rfl, ?_⟩
          exact ⟨Or.inr rfl, fun u_ => absurd u_ (by decide)⟩
set_option maxHeartbeats 400000 in
theorem vc_96 {sc_ : Nat × (Nat → Int)} (dd_ : Nat) (S0_ : sm_S) (hI_ : gi S0_) (hd_ : S0_.2.1 6 0 0 = some dd_) (hr_ : drt dd_ S0_) : sm_T (mt_P sc_) 1 96 (0, [some (.inr (.inr (some (6, 0)))), none, none], [], S0_) (fun ro9_ => ∃ u_ S1_, ro9_ = (.inl u_, S1_, 0) ∧ vq_96 dd_ S0_ u_ S1_) := by
  have hF_ : ai_fr (sx_W vw_96) S0_ S0_ := ai_fr_rf
  refine sm_T_go 2 (c1 := (2, [some (.inr (.inr (some (6, 0)))), some (.inl 0), none], [], S0_)) rfl ?_
  refine (vl_96 dd_ S0_ hd_ hr_ _) 0 S0_ hI_ hF_ ⟨?_, ?_, ?_, trivial⟩ (Nat.lt_succ_self _)
  · omega
  · (intro i_ u_ w_; exfalso; omega)
  · first | rfl | exact hS_
end
/-! 99.zn4d -/
section
/-! Mapper.tableOver -/
def vw_105 : sx_Wl := ([], [70, 71], [])
def vq_105 (a1_ : Int) (a2_ : Int) (dd_ : Nat) (S0_ : sm_S) (u_ : Option sm_V) (S1_ : sm_S) : Prop := ∃ v_ : Int, u_ = some (.inl v_) ∧ gi S1_ ∧ ai_fr (sx_W vw_105) S0_ S1_ ∧ (0 ≤ v_ ∧ v_ ≤ 255)
set_option maxHeartbeats 400000 in
set_option maxRecDepth 20000 in
theorem vl_105 {sc_ : Nat × (Nat → Int)} (a1_ : Int) (a2_ : Int) (dd_ : Nat) (S0_ : sm_S) (hd_ : S0_.2.1 6 0 0 = some dd_) (h1_ : 0 ≤ a1_ ∧ a1_ ≤ 1012) (h2_ : 0 ≤ a2_ ∧ a2_ ≤ 1023) : ∀ nn_ : Nat, (∀ (ct : Int) (k_ : Int) (S_ : sm_S), gi S_ → ai_fr (sx_W vw_105) S0_ S_ → ((1 ≤ ct ∧ ct ≤ 1013 ∧ 0 ≤ k_ ∧ k_ ≤ 1013) ∧ True) → ((9000 - k_).toNat) < nn_ → sm_T (mt_P sc_) 2 105 (12, [some (.inr (.inr (some (6, 0)))), some (.inl a1_), some (.inl a2_), some (.inl ct), some (.inl k_), none, none], [], S_) (fun ro9_ => ∃ u_ S1_, ro9_ = (.inl u_, S1_, 0) ∧ vq_105 a1_ a2_ dd_ S0_ u_ S1_)) ∧ (∀ (ct : Int) (k_ : Int) (S_ : sm_S), gi S_ → ai_fr (sx_W vw_105) S0_ S_ → ((1 ≤ ct ∧ ct ≤ 1013 ∧ 0 ≤ k_ ∧ k_ ≤ 3) ∧ True) → ((7000 - k_).toNat) < nn_ → sm_T (mt_P sc_) 2 105 (125, [some (.inr (.inr (some (6, 0)))), some (.inl a1_), some (.inl a2_), some (.inl ct), some (.inl k_), none, none], [], S_) (fun ro9_ => ∃ u_ S1_, ro9_ = (.inl u_, S1_, 0) ∧ vq_105 a1_ a2_ dd_ S0_ u_ S1_)) ∧ (∀ (ct : Int) (k_ : Int) (S_ : sm_S), gi S_ → ai_fr (sx_W vw_105) S0_ S_ → ((-1 ≤ k_ ∧ k_ ≤ 1012) ∧ True) → ((k_ + 5).toNat) < nn_ → sm_T (mt_P sc_) 2 105 (179, [some (.inr (.inr (some (6, 0)))), some (.inl a1_), some (.inl a2_), some (.inl ct), some (.inl k_), none, none], [], S_) (fun ro9_ => ∃ u_ S1_, ro9_ = (.inl u_, S1_, 0) ∧ vq_105 a1_ a2_ dd_ S0_ u_ S1_)) := by
  intro nn_
  induction nn_ with
  | zero => exact ⟨fun _ _ _ _ _ _ h_ => absurd h_ (Nat.not_lt_zero _), fun _ _ _ _ _ _ h_ => absurd h_ (Nat.not_lt_zero _), fun _ _ _ _ _ _ h_ => absurd h_ (Nat.not_lt_zero _)⟩
  | succ nn_ ih_ =>
    refine ⟨?_, ?_, ?_⟩
    · rintro ct k_ S_ hI_ hF_ ⟨h0_, -⟩ hm_
      refine sm_T_go 2 (c1 := (15, [some (.inr (.inr (some (6, 0)))), some (.inl a1_), some (.inl a2_), some (.inl ct), some (.inl k_), none, none], [.inl ct, .inl k_], S_)) rfl ?_
      refine sm_T_br (a := 3) (z := 107) rfl (fun cx1_ => ?_) (fun cx1_ => ?_)
      · have cx1_ : ct ≤ k_ := of_decide_eq_true cx1_
        refine sm_T_go 2 (c1 := (125, [some (.inr (.inr (some (6, 0)))), some (.inl a1_), some (.inl a2_), some (.inl ct), some (.inl 0), none, none], [], S_)) rfl ?_
        refine ih_.2.1 ct 0 S_ hI_ hF_ ⟨?_, trivial⟩ ?_
        · omega
        · omega
      · have cx1_ : ¬ (ct ≤ k_) := of_decide_eq_false cx1_
        refine sm_T_go 4 (c1 := (25, [some (.inr (.inr (some (6, 0)))), some (.inl a1_), some (.inl a2_), some (.inl ct), some (.inl k_), none, none], [.inl 1013, .inl k_], S_)) rfl ?_
        refine sm_T_br (a := 3) (z := 97) rfl (fun cx2_ => ?_) (fun cx2_ => ?_)
        · have cx2_ : 1013 ≤ k_ := of_decide_eq_true cx2_
          refine sm_T_go 2 (c1 := (125, [some (.inr (.inr (some (6, 0)))), some (.inl a1_), some (.inl a2_), some (.inl ct), some (.inl 0), none, none], [], S_)) rfl ?_
          refine ih_.2.1 ct 0 S_ hI_ hF_ ⟨?_, trivial⟩ ?_
          · omega
          · omega
        · have cx2_ : ¬ (1013 ≤ k_) := of_decide_eq_false cx2_
          refine sm_T_go 4 (c1 := (35, [some (.inr (.inr (some (6, 0)))), some (.inl a1_), some (.inl a2_), some (.inl ct), some (.inl k_), none, none], [.inl k_, .inr (.inr (some (70, 0))), .inr (.inr (some (6, 0)))], S_)) rfl ?_
          refine sm_T_iald (n := 1013) rfl rfl (by omega) (by omega) ?_
          have bx3_ : 0 ≤ S_.2.2.1 70 0 k_.toNat ∧ S_.2.2.1 70 0 k_.toNat ≤ 1012 := hI_.2 70 0 _
          refine sm_T_cal (d1 := 1) (Q1 := vq_92 (S_.2.2.1 70 0 k_.toNat) dd_ S_) rfl rfl (by decide) (vc_92 (S_.2.2.1 70 0 k_.toNat) dd_ S_ hI_ (by exact (hF_.2.1 6 0 0 rfl).trans hd_) (by omega)) (fun u_ Sx4_ px7_ => ?_)
          obtain ⟨rfl, vx9_, rfl, px7_⟩ := px7_
          have l36_ := px7_.1
          refine sm_T_go 5 (c1 := (48, [some (.inr (.inr (some (6, 0)))), some (.inl a1_), some (.inl a2_), some (.inl ct), some (.inl k_), some (.inl vx9_), none], [.inl k_, .inr (.inr (some (70, 0))), .inr (.inr (some (6, 0)))], S_)) rfl ?_
          refine sm_T_iald (n := 1013) rfl rfl (by omega) (by omega) ?_
          refine sm_T_cal (d1 := 1) (Q1 := vq_93 (S_.2.2.1 70 0 k_.toNat) dd_ S_) rfl rfl (by decide) (vc_93 (S_.2.2.1 70 0 k_.toNat) dd_ S_ hI_ (by exact (hF_.2.1 6 0 0 rfl).trans hd_) (by omega)) (fun u_ Sx10_ px13_ => ?_)
          obtain ⟨rfl, vx15_, rfl, px13_⟩ := px13_
          have l49_ := px13_.1
          refine sm_T_go 4 (c1 := (58, [some (.inr (.inr (some (6, 0)))), some (.inl a1_), some (.inl a2_), some (.inl ct), some (.inl k_), some (.inl vx9_), some (.inl vx15_)], [.inl vx9_, .inl a2_, .inr (.inr (some (6, 0)))], S_)) rfl ?_
          refine sm_T_cal (d1 := 0) (Q1 := vq_106 a2_ vx9_ S_) rfl rfl (by decide) (vc_106 a2_ vx9_ S_ hI_ (by omega)) (fun u_ Sx16_ px19_ => ?_)
          obtain ⟨rfl, vx21_, rfl, px19_⟩ := px19_
          have p58_ := px19_
          refine sm_T_go 1 (c1 := (62, [some (.inr (.inr (some (6, 0)))), some (.inl a1_), some (.inl a2_), some (.inl ct), some (.inl k_), some (.inl vx9_), some (.inl vx15_)], [.inl (-1), .inl vx21_], S_)) rfl ?_
          refine sm_T_br (a := 1) (z := 23) rfl (fun cx22_ => ?_) (fun cx22_ => ?_)
          · have cx22_ : vx21_ ≠ (-1) := of_decide_eq_true cx22_
            refine sm_T_go 3 (c1 := (89, [some (.inr (.inr (some (6, 0)))), some (.inl a1_), some (.inl a2_), some (.inl ct), some (.inl k_), some (.inl vx9_), some (.inl vx15_)], [.inl vx15_, .inl a2_, .inr (.inr (some (6, 0)))], S_)) rfl ?_
            refine sm_T_cal (d1 := 0) (Q1 := vq_106 a2_ vx15_ S_) rfl rfl (by decide) (vc_106 a2_ vx15_ S_ hI_ (by omega)) (fun u_ Sx23_ px26_ => ?_)
            obtain ⟨rfl, vx28_, rfl, px26_⟩ := px26_
            have p89_ := px26_
            refine sm_T_go 1 (c1 := (93, [some (.inr (.inr (some (6, 0)))), some (.inl a1_), some (.inl a2_), some (.inl ct), some (.inl k_), some (.inl vx9_), some (.inl vx15_)], [.inl (-1), .inl vx28_], S_)) rfl ?_
            refine sm_T_br (a := 1) (z := 23) rfl (fun cx29_ => ?_) (fun cx29_ => ?_)
            · have cx29_ : vx28_ ≠ (-1) := of_decide_eq_true cx29_
              refine sm_T_inc (a := 4) (z := 1) (v := k_) (w := k_ + 1) rfl rfl (by omega) (by omega) (by omega) ?_ -- pc_ 116
              refine sm_T_go 1 (c1 := (12, [some (.inr (.inr (some (6, 0)))), some (.inl a1_), some (.inl a2_), some (.inl ct), some (.inl (k_ + 1)), some (.inl vx9_), some (.inl vx15_)], [], S_)) rfl ?_
              refine sm_T_wk [some (.inr (.inr (some (6, 0)))), some (.inl a1_), some (.inl a2_), some (.inl ct), some (.inl (k_ + 1)), none, none] (by exact ⟨rfl, rfl, rfl, rfl, rfl, trivial⟩) ?_
              refine ih_.1 ct (k_ + 1) S_ hI_ hF_ ⟨?_, trivial⟩ ?_
              · omega
              · omega
            · have cx29_ : ¬ (vx28_ ≠ (-1)) := of_decide_eq_false cx29_
              refine sm_T_go 4 (c1 := (102, [some (.inr (.inr (some (6, 0)))), some (.inl a1_), some (.inl a2_), some (.inl ct), some (.inl k_), some (.inl vx9_), some (.inl vx15_)], [.inl 1013, .inl ct], S_)) rfl ?_
              refine sm_T_br (a := 3) (z := 14) rfl (fun cx30_ => ?_) (fun cx30_ => ?_)
              · have cx30_ : 1013 ≤ ct := of_decide_eq_true cx30_
                refine sm_T_inc (a := 4) (z := 1) (v := k_) (w := k_ + 1) rfl rfl (by omega) (by omega) (by omega) ?_ -- pc_ 116
                refine sm_T_go 1 (c1 := (12, [some (.inr (.inr (some (6, 0)))), some (.inl a1_), some (.inl a2_), some (.inl ct), some (.inl (k_ + 1)), some (.inl vx9_), some (.inl vx15_)], [], S_)) rfl ?_
                refine sm_T_wk [some (.inr (.inr (some (6, 0)))), some (.inl a1_), some (.inl a2_), some (.inl ct), some (.inl (k_ + 1)), none, none] (by exact ⟨rfl, rfl, rfl, rfl, rfl, trivial⟩) ?_
                refine ih_.1 ct (k_ + 1) S_ hI_ hF_ ⟨?_, trivial⟩ ?_
                · omega
                · omega
              · have cx30_ : ¬ (1013 ≤ ct) := of_decide_eq_false cx30_
                refine sm_T_go 4 (c1 := (112, [some (.inr (.inr (some (6, 0)))), some (.inl a1_), some (.inl a2_), some (.inl ct), some (.inl k_), some (.inl vx9_), some (.inl vx15_)], [.inl vx15_, .inl ct, .inr (.inr (some (70, 0)))], S_)) rfl ?_
                refine sm_T_iast (n := 1013) rfl rfl (by omega) (by omega) ?_
                have hIx31_ : gi (sm_aI S_ 70 0 ct.toNat vx15_) := gi_aI hI_ (show 0 ≤ vx15_ ∧ vx15_ ≤ 1012 from ⟨by omega, by omega⟩)
                have hFx32_ : ai_fr (sx_W vw_105) S0_ (sm_aI S_ 70 0 ct.toNat vx15_) := ai_fr_tr hF_ (ai_fr_aI rfl)
                refine sm_T_inc (a := 3) (z := 1) (v := ct) (w := ct + 1) rfl rfl (by omega) (by omega) (by omega) ?_ -- pc_ 113
                refine sm_T_inc (a := 4) (z := 1) (v := k_) (w := k_ + 1) rfl rfl (by omega) (by omega) (by omega) ?_ -- pc_ 116
                refine sm_T_go 1 (c1 := (12, [some (.inr (.inr (some (6, 0)))), some (.inl a1_), some (.inl a2_), some (.inl (ct + 1)), some (.inl (k_ + 1)), some (.inl vx9_), some (.inl vx15_)], [], sm_aI S_ 70 0 ct.toNat vx15_)) rfl ?_
                refine sm_T_wk [some (.inr (.inr (some (6, 0)))), some (.inl a1_), some (.inl a2_), some (.inl (ct + 1)), some (.inl (k_ + 1)), none, none] (by exact ⟨rfl, rfl, rfl, rfl, rfl, trivial⟩) ?_
                refine ih_.1 (ct + 1) (k_ + 1) (sm_aI S_ 70 0 ct.toNat vx15_) hIx31_ hFx32_ ⟨?_, trivial⟩ ?_
                · omega
                · omega
          · have cx22_ : ¬ (vx21_ ≠ (-1)) := of_decide_eq_false cx22_
            refine sm_T_go 4 (c1 := (71, [some (.inr (.inr (some (6, 0)))), some (.inl a1_), some (.inl a2_), some (.inl ct), some (.inl k_), some (.inl vx9_), some (.inl vx15_)], [.inl 1013, .inl ct], S_)) rfl ?_
            refine sm_T_br (a := 3) (z := 14) rfl (fun cx33_ => ?_) (fun cx33_ => ?_)
            · have cx33_ : 1013 ≤ ct := of_decide_eq_true cx33_
              refine sm_T_go 3 (c1 := (89, [some (.inr (.inr (some (6, 0)))), some (.inl a1_), some (.inl a2_), some (.inl ct), some (.inl k_), some (.inl vx9_), some (.inl vx15_)], [.inl vx15_, .inl a2_, .inr (.inr (some (6, 0)))], S_)) rfl ?_
              refine sm_T_cal (d1 := 0) (Q1 := vq_106 a2_ vx15_ S_) rfl rfl (by decide) (vc_106 a2_ vx15_ S_ hI_ (by omega)) (fun u_ Sx34_ px37_ => ?_)
              obtain ⟨rfl, vx39_, rfl, px37_⟩ := px37_
              have p89_ := px37_
              refine sm_T_go 1 (c1 := (93, [some (.inr (.inr (some (6, 0)))), some (.inl a1_), some (.inl a2_), some (.inl ct), some (.inl k_), some (.inl vx9_), some (.inl vx15_)], [.inl (-1), .inl vx39_], S_)) rfl ?_
              refine sm_T_br (a := 1) (z := 23) rfl (fun cx40_ => ?_) (fun cx40_ => ?_)
              · have cx40_ : vx39_ ≠ (-1) := of_decide_eq_true cx40_
                refine sm_T_inc (a := 4) (z := 1) (v := k_) (w := k_ + 1) rfl rfl (by omega) (by omega) (by omega) ?_ -- pc_ 116
                refine sm_T_go 1 (c1 := (12, [some (.inr (.inr (some (6, 0)))), some (.inl a1_), some (.inl a2_), some (.inl ct), some (.inl (k_ + 1)), some (.inl vx9_), some (.inl vx15_)], [], S_)) rfl ?_
                refine sm_T_wk [some (.inr (.inr (some (6, 0)))), some (.inl a1_), some (.inl a2_), some (.inl ct), some (.inl (k_ + 1)), none, none] (by exact ⟨rfl, rfl, rfl, rfl, rfl, trivial⟩) ?_
                refine ih_.1 ct (k_ + 1) S_ hI_ hF_ ⟨?_, trivial⟩ ?_
                · omega
                · omega
              · have cx40_ : ¬ (vx39_ ≠ (-1)) := of_decide_eq_false cx40_
                refine sm_T_go 4 (c1 := (102, [some (.inr (.inr (some (6, 0)))), some (.inl a1_), some (.inl a2_), some (.inl ct), some (.inl k_), some (.inl vx9_), some (.inl vx15_)], [.inl 1013, .inl ct], S_)) rfl ?_
                refine sm_T_br (a := 3) (z := 14) rfl (fun cx41_ => ?_) (fun cx41_ => ?_)
                · have cx41_ : 1013 ≤ ct := of_decide_eq_true cx41_
                  refine sm_T_inc (a := 4) (z := 1) (v := k_) (w := k_ + 1) rfl rfl (by omega) (by omega) (by omega) ?_ -- pc_ 116
                  refine sm_T_go 1 (c1 := (12, [some (.inr (.inr (some (6, 0)))), some (.inl a1_), some (.inl a2_), some (.inl ct), some (.inl (k_ + 1)), some (.inl vx9_), some (.inl vx15_)], [], S_)) rfl ?_
                  refine sm_T_wk [some (.inr (.inr (some (6, 0)))), some (.inl a1_), some (.inl a2_), some (.inl ct), some (.inl (k_ + 1)), none, none] (by exact ⟨rfl, rfl, rfl, rfl, rfl, trivial⟩) ?_
                  refine ih_.1 ct (k_ + 1) S_ hI_ hF_ ⟨?_, trivial⟩ ?_
                  · omega
                  · omega
                · have cx41_ : ¬ (1013 ≤ ct) := of_decide_eq_false cx41_
                  exfalso; omega
            · have cx33_ : ¬ (1013 ≤ ct) := of_decide_eq_false cx33_
              refine sm_T_go 4 (c1 := (81, [some (.inr (.inr (some (6, 0)))), some (.inl a1_), some (.inl a2_), some (.inl ct), some (.inl k_), some (.inl vx9_), some (.inl vx15_)], [.inl vx9_, .inl ct, .inr (.inr (some (70, 0)))], S_)) rfl ?_
              refine sm_T_iast (n := 1013) rfl rfl (by omega) (by omega) ?_
              have hIx42_ : gi (sm_aI S_ 70 0 ct.toNat vx9_) := gi_aI hI_ (show 0 ≤ vx9_ ∧ vx9_ ≤ 1012 from ⟨by omega, by omega⟩)
              have hFx43_ : ai_fr (sx_W vw_105) S0_ (sm_aI S_ 70 0 ct.toNat vx9_) := ai_fr_tr hF_ (ai_fr_aI rfl)
              refine sm_T_inc (a := 3) (z := 1) (v := ct) (w := ct + 1) rfl rfl (by omega) (by omega) (by omega) ?_ -- pc_ 82
              refine sm_T_go 3 (c1 := (89, [some (.inr (.inr (some (6, 0)))), some (.inl a1_), some (.inl a2_), some (.inl (ct + 1)), some (.inl k_), some (.inl vx9_), some (.inl vx15_)], [.inl vx15_, .inl a2_, .inr (.inr (some (6, 0)))], sm_aI S_ 70 0 ct.toNat vx9_)) rfl ?_
              refine sm_T_cal (d1 := 0) (Q1 := vq_106 a2_ vx15_ (sm_aI S_ 70 0 ct.toNat vx9_)) rfl rfl (by decide) (vc_106 a2_ vx15_ (sm_aI S_ 70 0 ct.toNat vx9_) hIx42_ (by omega)) (fun u_ Sx44_ px47_ => ?_)
              obtain ⟨rfl, vx49_, rfl, px47_⟩ := px47_
              have p89_ := px47_
              refine sm_T_go 1 (c1 := (93, [some (.inr (.inr (some (6, 0)))), some (.inl a1_), some (.inl a2_), some (.inl (ct + 1)), some (.inl k_), some (.inl vx9_), some (.inl vx15_)], [.inl (-1), .inl vx49_], sm_aI S_ 70 0 ct.toNat vx9_)) rfl ?_
              refine sm_T_br (a := 1) (z := 23) rfl (fun cx50_ => ?_) (fun cx50_ => ?_)
              · have cx50_ : vx49_ ≠ (-1) := of_decide_eq_true cx50_
                refine sm_T_inc (a := 4) (z := 1) (v := k_) (w := k_ + 1) rfl rfl (by omega) (by omega) (by omega) ?_ -- pc_ 116
                refine sm_T_go 1 (c1 := (12, [some (.inr (.inr (some (6, 0)))), some (.inl a1_), some (.inl a2_), some (.inl (ct + 1)), some (.inl (k_ + 1)), some (.inl vx9_), some (.inl vx15_)], [], sm_aI S_ 70 0 ct.toNat vx9_)) rfl ?_
                refine sm_T_wk [some (.inr (.inr (some (6, 0)))), some (.inl a1_), some (.inl a2_), some (.inl (ct + 1)), some (.inl (k_ + 1)), none, none] (by exact ⟨rfl, rfl, rfl, rfl, rfl, trivial⟩) ?_
                refine ih_.1 (ct + 1) (k_ + 1) (sm_aI S_ 70 0 ct.toNat vx9_) hIx42_ hFx43_ ⟨?_, trivial⟩ ?_
                · omega
                · omega
              · have cx50_ : ¬ (vx49_ ≠ (-1)) := of_decide_eq_false cx50_
                refine sm_T_go 4 (c1 := (102, [some (.inr (.inr (some (6, 0)))), some (.inl a1_), some (.inl a2_), some (.inl (ct + 1)), some (.inl k_), some (.inl vx9_), some (.inl vx15_)], [.inl 1013, .inl (ct + 1)], sm_aI S_ 70 0 ct.toNat vx9_)) rfl ?_
                refine sm_T_br (a := 3) (z := 14) rfl (fun cx51_ => ?_) (fun cx51_ => ?_)
                · have cx51_ : 1013 ≤ ct + 1 := of_decide_eq_true cx51_
                  refine sm_T_inc (a := 4) (z := 1) (v := k_) (w := k_ + 1) rfl rfl (by omega) (by omega) (by omega) ?_ -- pc_ 116
                  refine sm_T_go 1 (c1 := (12, [some (.inr (.inr (some (6, 0)))), some (.inl a1_), some (.inl a2_), some (.inl (ct + 1)), some (.inl (k_ + 1)), some (.inl vx9_), some (.inl vx15_)], [], sm_aI S_ 70 0 ct.toNat vx9_)) rfl ?_
                  refine sm_T_wk [some (.inr (.inr (some (6, 0)))), some (.inl a1_), some (.inl a2_), some (.inl (ct + 1)), some (.inl (k_ + 1)), none, none] (by exact ⟨rfl, rfl, rfl, rfl, rfl, trivial⟩) ?_
                  refine ih_.1 (ct + 1) (k_ + 1) (sm_aI S_ 70 0 ct.toNat vx9_) hIx42_ hFx43_ ⟨?_, trivial⟩ ?_
                  · omega
                  · omega
                · have cx51_ : ¬ (1013 ≤ ct + 1) := of_decide_eq_false cx51_
                  refine sm_T_go 4 (c1 := (112, [some (.inr (.inr (some (6, 0)))), some (.inl a1_), some (.inl a2_), some (.inl (ct + 1)), some (.inl k_), some (.inl vx9_), some (.inl vx15_)], [.inl vx15_, .inl (ct + 1), .inr (.inr (some (70, 0)))], sm_aI S_ 70 0 ct.toNat vx9_)) rfl ?_
                  refine sm_T_iast (n := 1013) rfl rfl (by omega) (by omega) ?_
                  have hIx52_ : gi (sm_aI (sm_aI S_ 70 0 ct.toNat vx9_) 70 0 (ct + 1).toNat vx15_) := gi_aI hIx42_ (show 0 ≤ vx15_ ∧ vx15_ ≤ 1012 from ⟨by omega, by omega⟩)
                  have hFx53_ : ai_fr (sx_W vw_105) S0_ (sm_aI (sm_aI S_ 70 0 ct.toNat vx9_) 70 0 (ct + 1).toNat vx15_) := ai_fr_tr hFx43_ (ai_fr_aI rfl)
                  refine sm_T_inc (a := 3) (z := 1) (v := ct + 1) (w := ct + 2) rfl rfl (by omega) (by omega) (by omega) ?_ -- pc_ 113
                  refine sm_T_inc (a := 4) (z := 1) (v := k_) (w := k_ + 1) rfl rfl (by omega) (by omega) (by omega) ?_ -- pc_ 116
                  refine sm_T_go 1 (c1 := (12, [some (.inr (.inr (some (6, 0)))), some (.inl a1_), some (.inl a2_), some (.inl (ct + 2)), some (.inl (k_ + 1)), some (.inl vx9_), some (.inl vx15_)], [], sm_aI (sm_aI S_ 70 0 ct.toNat vx9_) 70 0 (ct + 1).toNat vx15_)) rfl ?_
                  refine sm_T_wk [some (.inr (.inr (some (6, 0)))), some (.inl a1_), some (.inl a2_), some (.inl (ct + 2)), some (.inl (k_ + 1)), none, none] (by exact ⟨rfl, rfl, rfl, rfl, rfl, trivial⟩) ?_
                  refine ih_.1 (ct + 2) (k_ + 1) (sm_aI (sm_aI S_ 70 0 ct.toNat vx9_) 70 0 (ct + 1).toNat vx15_) hIx52_ hFx53_ ⟨?_, trivial⟩ ?_
                  · omega
                  · omega
    · rintro ct k_ S_ hI_ hF_ ⟨h0_, -⟩ hm_
      refine sm_T_go 2 (c1 := (128, [some (.inr (.inr (some (6, 0)))), some (.inl a1_), some (.inl a2_), some (.inl ct), some (.inl k_), none, none], [.inl 3, .inl k_], S_)) rfl ?_
      refine sm_T_br (a := 3) (z := 46) rfl (fun cx1_ => ?_) (fun cx1_ => ?_)
      · have cx1_ : 3 ≤ k_ := of_decide_eq_true cx1_
        refine sm_T_go 2 (c1 := (176, [some (.inr (.inr (some (6, 0)))), some (.inl a1_), some (.inl a2_), some (.inl ct), some (.inl k_), none, none], [.inl 1, .inl ct], S_)) rfl ?_
        refine sm_T_bin (w := ct - 1) rfl (bi_sub (by omega) (by omega) (by omega)) ?_ -- pc_ 176
        refine sm_T_go 1 (c1 := (179, [some (.inr (.inr (some (6, 0)))), some (.inl a1_), some (.inl a2_), some (.inl ct), some (.inl (ct - 1)), none, none], [], S_)) rfl ?_
        refine ih_.2.2 ct (ct - 1) S_ hI_ hF_ ⟨?_, trivial⟩ ?_
        · omega
        · omega
      · have cx1_ : ¬ (3 ≤ k_) := of_decide_eq_false cx1_
        refine sm_T_go 4 (c1 := (137, [some (.inr (.inr (some (6, 0)))), some (.inl a1_), some (.inl a2_), some (.inl ct), some (.inl k_), none, none], [.inl a2_, .inl 3, .inr (.inr (some (65, 0)))], S_)) rfl ?_
        refine sm_T_bin (w := 3 * a2_) rfl (bi_mul (by omega) (by omega) (by omega)) ?_ -- pc_ 137
        refine sm_T_go 1 (c1 := (140, [some (.inr (.inr (some (6, 0)))), some (.inl a1_), some (.inl a2_), some (.inl ct), some (.inl k_), none, none], [.inl k_, .inl (3 * a2_), .inr (.inr (some (65, 0)))], S_)) rfl ?_
        refine sm_T_bin (w := 3 * a2_ + k_) rfl (bi_add (by omega) (by omega) (by omega)) ?_ -- pc_ 140
        refine sm_T_iald (n := 3072) rfl rfl (by omega) (by omega) ?_
        have bx2_ : (-1) ≤ S_.2.2.1 65 0 (3 * a2_ + k_).toNat ∧ S_.2.2.1 65 0 (3 * a2_ + k_).toNat ≤ 1012 := hI_.2 65 0 _
        refine sm_T_go 1 (c1 := (143, [some (.inr (.inr (some (6, 0)))), some (.inl a1_), some (.inl a2_), some (.inl ct), some (.inl k_), none, none], [.inl (-1), .inl (S_.2.2.1 65 0 (3 * a2_ + k_).toNat)], S_)) rfl ?_
        refine sm_T_br (a := 0) (z := 25) rfl (fun cx3_ => ?_) (fun cx3_ => ?_)
        · have cx3_ : (S_.2.2.1 65 0 (3 * a2_ + k_).toNat) = (-1) := of_decide_eq_true cx3_
          refine sm_T_inc (a := 4) (z := 1) (v := k_) (w := k_ + 1) rfl rfl (by omega) (by omega) (by omega) ?_ -- pc_ 168
          refine sm_T_go 1 (c1 := (125, [some (.inr (.inr (some (6, 0)))), some (.inl a1_), some (.inl a2_), some (.inl ct), some (.inl (k_ + 1)), none, none], [], S_)) rfl ?_
          refine ih_.2.1 ct (k_ + 1) S_ hI_ hF_ ⟨?_, trivial⟩ ?_
          · omega
          · omega
        · have cx3_ : ¬ ((S_.2.2.1 65 0 (3 * a2_ + k_).toNat) = (-1)) := of_decide_eq_false cx3_
          have vt9_ := vt3 (k_ := k_) (by omega)
          refine sm_T_go 6 (c1 := (156, [some (.inr (.inr (some (6, 0)))), some (.inl a1_), some (.inl a2_), some (.inl ct), some (.inl k_), none, none], [.inl a2_, .inl 3, .inr (.inr (some (65, 0))), .inr (.inr (some (71, 0)))], S_)) rfl ?_
          refine sm_T_bin (w := 3 * a2_) rfl (bi_mul (by omega) (by omega) (by omega)) ?_ -- pc_ 156
          refine sm_T_go 1 (c1 := (159, [some (.inr (.inr (some (6, 0)))), some (.inl a1_), some (.inl a2_), some (.inl ct), some (.inl k_), none, none], [.inl k_, .inl (3 * a2_), .inr (.inr (some (65, 0))), .inr (.inr (some (71, 0)))], S_)) rfl ?_
          refine sm_T_bin (w := 3 * a2_ + k_) rfl (bi_add (by omega) (by omega) (by omega)) ?_ -- pc_ 159
          refine sm_T_iald (n := 3072) rfl rfl (by omega) (by omega) ?_
          refine sm_T_nt (u := some (.inr (.inr (some (299, 0))))) (S1 := S_) rfl rfl rfl ?_
          refine sm_T_go 1 (c1 := (166, [some (.inr (.inr (some (6, 0)))), some (.inl a1_), some (.inl a2_), some (.inl ct), some (.inl k_), none, none], [.inl k_, .inr (.inr (some (299, 0))), .inl (S_.2.2.1 65 0 (3 * a2_ + k_).toNat), .inr (.inr (some (71, 0)))], S_)) rfl ?_
          refine sm_T_nt (u := some (.inl (st_at 3 k_))) (S1 := S_) rfl rfl (nt_st (sc := sc_) (j := 3) (n := 3) (by decide) rfl rfl (by omega) (by omega)) ?_
          refine sm_T_iast (n := 1013) rfl rfl (by omega) (by omega) ?_
          have hIx4_ : gi (sm_aI S_ 71 0 (S_.2.2.1 65 0 (3 * a2_ + k_).toNat).toNat (st_at 3 k_)) := gi_aI hI_ (show (-2147483648) ≤ (st_at 3 k_) ∧ (st_at 3 k_) ≤ 2147483647 from ⟨by omega, by omega⟩)
          have hFx5_ : ai_fr (sx_W vw_105) S0_ (sm_aI S_ 71 0 (S_.2.2.1 65 0 (3 * a2_ + k_).toNat).toNat (st_at 3 k_)) := ai_fr_tr hF_ (ai_fr_aI rfl)
          refine sm_T_inc (a := 4) (z := 1) (v := k_) (w := k_ + 1) rfl rfl (by omega) (by omega) (by omega) ?_ -- pc_ 168
          refine sm_T_go 1 (c1 := (125, [some (.inr (.inr (some (6, 0)))), some (.inl a1_), some (.inl a2_), some (.inl ct), some (.inl (k_ + 1)), none, none], [], sm_aI S_ 71 0 (S_.2.2.1 65 0 (3 * a2_ + k_).toNat).toNat (st_at 3 k_))) rfl ?_
          refine ih_.2.1 ct (k_ + 1) (sm_aI S_ 71 0 (S_.2.2.1 65 0 (3 * a2_ + k_).toNat).toNat (st_at 3 k_)) hIx4_ hFx5_ ⟨?_, trivial⟩ ?_
          · omega
          · omega
    · rintro ct k_ S_ hI_ hF_ ⟨h0_, -⟩ hm_
      refine sm_T_go 1 (c1 := (181, [some (.inr (.inr (some (6, 0)))), some (.inl a1_), some (.inl a2_), some (.inl ct), some (.inl k_), none, none], [.inl k_], S_)) rfl ?_
      refine sm_T_b0 (a := 2) (z := 100) rfl (fun cx1_ => ?_) (fun cx1_ => ?_)
      · have cx1_ : k_ < 0 := of_decide_eq_true cx1_
        refine sm_T_go 3 (c1 := (286, [some (.inr (.inr (some (6, 0)))), some (.inl a1_), some (.inl a2_), some (.inl ct), some (.inl k_), none, none], [.inl a1_, .inr (.inr (some (71, 0)))], S_)) rfl ?_
        refine sm_T_iald (n := 1013) rfl rfl (by omega) (by omega) ?_
        have bx2_ : (-2147483648) ≤ S_.2.2.1 71 0 a1_.toNat ∧ S_.2.2.1 71 0 a1_.toNat ≤ 2147483647 := hI_.2 71 0 _
        refine sm_T_go 4 (c1 := (293, [some (.inr (.inr (some (6, 0)))), some (.inl a1_), some (.inl a2_), some (.inl ct), some (.inl k_), none, none], [.inl a2_, .inl 3, .inr (.inr (some (65, 0))), .inl (S_.2.2.1 71 0 a1_.toNat)], S_)) rfl ?_
        refine sm_T_bin (w := 3 * a2_) rfl (bi_mul (by omega) (by omega) (by omega)) ?_ -- pc_ 293
        refine sm_T_go 1 (c1 := (295, [some (.inr (.inr (some (6, 0)))), some (.inl a1_), some (.inl a2_), some (.inl ct), some (.inl k_), none, none], [.inl 2, .inl (3 * a2_), .inr (.inr (some (65, 0))), .inl (S_.2.2.1 71 0 a1_.toNat)], S_)) rfl ?_
        refine sm_T_bin (w := 3 * a2_ + 2) rfl (bi_add (by omega) (by omega) (by omega)) ?_ -- pc_ 295
        refine sm_T_iald (n := 3072) rfl rfl (by omega) (by omega) ?_
        have bx3_ : (-1) ≤ S_.2.2.1 65 0 (3 * a2_ + 2).toNat ∧ S_.2.2.1 65 0 (3 * a2_ + 2).toNat ≤ 1012 := hI_.2 65 0 _
        refine sm_T_go 1 (c1 := (298, [some (.inr (.inr (some (6, 0)))), some (.inl a1_), some (.inl a2_), some (.inl ct), some (.inl k_), none, none], [.inl (-1), .inl (S_.2.2.1 65 0 (3 * a2_ + 2).toNat), .inl (S_.2.2.1 71 0 a1_.toNat)], S_)) rfl ?_
        refine sm_T_br (a := 1) (z := 8) rfl (fun cx4_ => ?_) (fun cx4_ => ?_)
        · have cx4_ : (S_.2.2.1 65 0 (3 * a2_ + 2).toNat) ≠ (-1) := of_decide_eq_true cx4_
          refine sm_T_go 1 (c1 := (309, [some (.inr (.inr (some (6, 0)))), some (.inl a1_), some (.inl a2_), some (.inl ct), some (.inl k_), none, none], [.inl 255, .inl (S_.2.2.1 71 0 a1_.toNat)], S_)) rfl ?_
          refine sm_T_bin (w := ((S_.2.2.1 71 0 a1_.toNat) % 256)) rfl (bi_msk (k := 8) (by decide)) ?_ -- pc_ 309
          refine sm_T_ri rfl ⟨_, _, rfl, _, rfl, hI_, hF_, ?_⟩
          omega
        · have cx4_ : ¬ ((S_.2.2.1 65 0 (3 * a2_ + 2).toNat) ≠ (-1)) := of_decide_eq_false cx4_
          refine sm_T_go 2 (c1 := (309, [some (.inr (.inr (some (6, 0)))), some (.inl a1_), some (.inl a2_), some (.inl ct), some (.inl k_), none, none], [.inl 15, .inl (S_.2.2.1 71 0 a1_.toNat)], S_)) rfl ?_
          refine sm_T_bin (w := ((S_.2.2.1 71 0 a1_.toNat) % 16)) rfl (bi_msk (k := 4) (by decide)) ?_ -- pc_ 309
          refine sm_T_ri rfl ⟨_, _, rfl, _, rfl, hI_, hF_, ?_⟩
          omega
      · have cx1_ : ¬ (k_ < 0) := of_decide_eq_false cx1_
        refine sm_T_go 1 (c1 := (185, [some (.inr (.inr (some (6, 0)))), some (.inl a1_), some (.inl a2_), some (.inl ct), some (.inl k_), none, none], [.inr (.inr (some (6, 0)))], S_)) rfl ?_
        refine sm_T_gr rfl rfl ((hF_.2.1 6 0 0 rfl).trans hd_) ?_
        refine sm_T_go 1 (c1 := (189, [some (.inr (.inr (some (6, 0)))), some (.inl a1_), some (.inl a2_), some (.inl ct), some (.inl k_), none, none], [.inr (.inr (some (6, 0))), .inr (.inr (some (3, dd_)))], S_)) rfl ?_
        refine sm_T_gr rfl rfl ((hF_.2.1 6 0 0 rfl).trans hd_) ?_
        refine sm_T_go 4 (c1 := (201, [some (.inr (.inr (some (6, 0)))), some (.inl a1_), some (.inl a2_), some (.inl ct), some (.inl k_), none, none], [.inl k_, .inr (.inr (some (70, 0))), .inr (.inr (some (42, (0 + dd_)))), .inr (.inr (some (3, dd_)))], S_)) rfl ?_
        refine sm_T_iald (n := 1013) rfl rfl (by omega) (by omega) ?_
        have bx5_ : 0 ≤ S_.2.2.1 70 0 k_.toNat ∧ S_.2.2.1 70 0 k_.toNat ≤ 1012 := hI_.2 70 0 _
        refine sm_T_iald (n := 1013) rfl rfl (by omega) (by omega) ?_
        have bx6_ : 0 ≤ S_.2.2.1 42 (0 + dd_) (S_.2.2.1 70 0 k_.toNat).toNat ∧ S_.2.2.1 42 (0 + dd_) (S_.2.2.1 70 0 k_.toNat).toNat ≤ 2025 := hI_.2 42 (0 + dd_) _
        refine sm_T_cal (d1 := 0) (Q1 := vq_64 (S_.2.2.1 42 (0 + dd_) (S_.2.2.1 70 0 k_.toNat).toNat) dd_ S_) rfl rfl (by decide) (vc_64 (S_.2.2.1 42 (0 + dd_) (S_.2.2.1 70 0 k_.toNat).toNat) dd_ S_ hI_ (by omega)) (fun u_ Sx7_ px10_ => ?_)
        obtain ⟨rfl, vx12_, rfl, px10_⟩ := px10_
        have x203_ : 0 ≤ vx12_ ∧ vx12_ ≤ 2025 := by (rw [px10_]; exact swx (hI_.2 44 (0 + dd_) _) (by omega))
        refine sm_T_go 2 (c1 := (209, [some (.inr (.inr (some (6, 0)))), some (.inl a1_), some (.inl a2_), some (.inl ct), some (.inl k_), some (.inl vx12_), none], [.inr (.inr (some (6, 0)))], S_)) rfl ?_
        refine sm_T_gr rfl rfl ((hF_.2.1 6 0 0 rfl).trans hd_) ?_
        refine sm_T_go 1 (c1 := (213, [some (.inr (.inr (some (6, 0)))), some (.inl a1_), some (.inl a2_), some (.inl ct), some (.inl k_), some (.inl vx12_), none], [.inr (.inr (some (6, 0))), .inr (.inr (some (3, dd_)))], S_)) rfl ?_
        refine sm_T_gr rfl rfl ((hF_.2.1 6 0 0 rfl).trans hd_) ?_
        refine sm_T_go 4 (c1 := (225, [some (.inr (.inr (some (6, 0)))), some (.inl a1_), some (.inl a2_), some (.inl ct), some (.inl k_), some (.inl vx12_), none], [.inl k_, .inr (.inr (some (70, 0))), .inr (.inr (some (43, (0 + dd_)))), .inr (.inr (some (3, dd_)))], S_)) rfl ?_
        refine sm_T_iald (n := 1013) rfl rfl (by omega) (by omega) ?_
        refine sm_T_iald (n := 1013) rfl rfl (by omega) (by omega) ?_
        have bx13_ : 0 ≤ S_.2.2.1 43 (0 + dd_) (S_.2.2.1 70 0 k_.toNat).toNat ∧ S_.2.2.1 43 (0 + dd_) (S_.2.2.1 70 0 k_.toNat).toNat ≤ 2025 := hI_.2 43 (0 + dd_) _
        refine sm_T_cal (d1 := 0) (Q1 := vq_64 (S_.2.2.1 43 (0 + dd_) (S_.2.2.1 70 0 k_.toNat).toNat) dd_ S_) rfl rfl (by decide) (vc_64 (S_.2.2.1 43 (0 + dd_) (S_.2.2.1 70 0 k_.toNat).toNat) dd_ S_ hI_ (by omega)) (fun u_ Sx14_ px17_ => ?_)
        obtain ⟨rfl, vx19_, rfl, px17_⟩ := px17_
        have x227_ : 0 ≤ vx19_ ∧ vx19_ ≤ 2025 := by (rw [px17_]; exact swx (hI_.2 44 (0 + dd_) _) (by omega))
        refine sm_T_go 6 (c1 := (242, [some (.inr (.inr (some (6, 0)))), some (.inl a1_), some (.inl a2_), some (.inl ct), some (.inl k_), some (.inl vx12_), some (.inl vx19_)], [.inl k_, .inr (.inr (some (70, 0))), .inr (.inr (some (71, 0)))], S_)) rfl ?_
        refine sm_T_iald (n := 1013) rfl rfl (by omega) (by omega) ?_
        refine sm_T_go 4 (c1 := (250, [some (.inr (.inr (some (6, 0)))), some (.inl a1_), some (.inl a2_), some (.inl ct), some (.inl k_), some (.inl vx12_), some (.inl vx19_)], [.inl 1, .inl vx12_, .inr (.inr (some (71, 0))), .inl (S_.2.2.1 70 0 k_.toNat), .inr (.inr (some (71, 0)))], S_)) rfl ?_
        refine sm_T_bin (w := (vx12_ / 2)) rfl (bi_shr (k := 1) (by decide) (by omega) (by omega)) ?_ -- pc_ 250
        refine sm_T_iald (n := 1013) rfl rfl (by omega) (by omega) ?_
        have bx20_ : (-2147483648) ≤ S_.2.2.1 71 0 (vx12_ / 2).toNat ∧ S_.2.2.1 71 0 (vx12_ / 2).toNat ≤ 2147483647 := hI_.2 71 0 _
        refine sm_T_go 2 (c1 := (255, [some (.inr (.inr (some (6, 0)))), some (.inl a1_), some (.inl a2_), some (.inl ct), some (.inl k_), some (.inl vx12_), some (.inl vx19_)], [.inl 1, .inl vx12_, .inl (S_.2.2.1 71 0 (vx12_ / 2).toNat), .inl (S_.2.2.1 70 0 k_.toNat), .inr (.inr (some (71, 0)))], S_)) rfl ?_
        refine sm_T_bin (w := (vx12_ % 2)) rfl (bi_msk (k := 1) (by decide)) ?_ -- pc_ 255
        refine sm_T_neg (w := -(vx12_ % 2)) rfl (by omega) (by omega) (by omega) ?_ -- pc_ 256
        refine sm_T_bin (w := (i_xor (S_.2.2.1 71 0 (vx12_ / 2).toNat) (-(vx12_ % 2)))) rfl rfl ?_ -- pc_ 257
        have bx21_ := i_xor_n (S_.2.2.1 71 0 (vx12_ / 2).toNat) (-(vx12_ % 2))
        refine sm_T_go 4 (c1 := (265, [some (.inr (.inr (some (6, 0)))), some (.inl a1_), some (.inl a2_), some (.inl ct), some (.inl k_), some (.inl vx12_), some (.inl vx19_)], [.inl 1, .inl vx19_, .inr (.inr (some (71, 0))), .inl (i_xor (S_.2.2.1 71 0 (vx12_ / 2).toNat) (-(vx12_ % 2))), .inl (S_.2.2.1 70 0 k_.toNat), .inr (.inr (some (71, 0)))], S_)) rfl ?_
        refine sm_T_bin (w := (vx19_ / 2)) rfl (bi_shr (k := 1) (by decide) (by omega) (by omega)) ?_ -- pc_ 265
        refine sm_T_iald (n := 1013) rfl rfl (by omega) (by omega) ?_
        have bx22_ : (-2147483648) ≤ S_.2.2.1 71 0 (vx19_ / 2).toNat ∧ S_.2.2.1 71 0 (vx19_ / 2).toNat ≤ 2147483647 := hI_.2 71 0 _
        refine sm_T_go 2 (c1 := (270, [some (.inr (.inr (some (6, 0)))), some (.inl a1_), some (.inl a2_), some (.inl ct), some (.inl k_), some (.inl vx12_), some (.inl vx19_)], [.inl 1, .inl vx19_, .inl (S_.2.2.1 71 0 (vx19_ / 2).toNat), .inl (i_xor (S_.2.2.1 71 0 (vx12_ / 2).toNat) (-(vx12_ % 2))), .inl (S_.2.2.1 70 0 k_.toNat), .inr (.inr (some (71, 0)))], S_)) rfl ?_
        refine sm_T_bin (w := (vx19_ % 2)) rfl (bi_msk (k := 1) (by decide)) ?_ -- pc_ 270
        refine sm_T_neg (w := -(vx19_ % 2)) rfl (by omega) (by omega) (by omega) ?_ -- pc_ 271
        refine sm_T_bin (w := (i_xor (S_.2.2.1 71 0 (vx19_ / 2).toNat) (-(vx19_ % 2)))) rfl rfl ?_ -- pc_ 272
        have bx23_ := i_xor_n (S_.2.2.1 71 0 (vx19_ / 2).toNat) (-(vx19_ % 2))
        refine sm_T_bin (w := (i_and (i_xor (S_.2.2.1 71 0 (vx12_ / 2).toNat) (-(vx12_ % 2))) (i_xor (S_.2.2.1 71 0 (vx19_ / 2).toNat) (-(vx19_ % 2))))) rfl rfl ?_ -- pc_ 273
        have bx24_ := i_and_n (i_xor (S_.2.2.1 71 0 (vx12_ / 2).toNat) (-(vx12_ % 2))) (i_xor (S_.2.2.1 71 0 (vx19_ / 2).toNat) (-(vx19_ % 2)))
        refine sm_T_iast (n := 1013) rfl rfl (by omega) (by omega) ?_
        have hIx25_ : gi (sm_aI S_ 71 0 (S_.2.2.1 70 0 k_.toNat).toNat (i_and (i_xor (S_.2.2.1 71 0 (vx12_ / 2).toNat) (-(vx12_ % 2))) (i_xor (S_.2.2.1 71 0 (vx19_ / 2).toNat) (-(vx19_ % 2))))) := gi_aI hI_ (show (-2147483648) ≤ (i_and (i_xor (S_.2.2.1 71 0 (vx12_ / 2).toNat) (-(vx12_ % 2))) (i_xor (S_.2.2.1 71 0 (vx19_ / 2).toNat) (-(vx19_ % 2)))) ∧ (i_and (i_xor (S_.2.2.1 71 0 (vx12_ / 2).toNat) (-(vx12_ % 2))) (i_xor (S_.2.2.1 71 0 (vx19_ / 2).toNat) (-(vx19_ % 2)))) ≤ 2147483647 from ⟨by omega, by omega⟩)
        have hFx26_ : ai_fr (sx_W vw_105) S0_ (sm_aI S_ 71 0 (S_.2.2.1 70 0 k_.toNat).toNat (i_and (i_xor (S_.2.2.1 71 0 (vx12_ / 2).toNat) (-(vx12_ % 2))) (i_xor (S_.2.2.1 71 0 (vx19_ / 2).toNat) (-(vx19_ % 2))))) := ai_fr_tr hF_ (ai_fr_aI rfl)
        refine sm_T_inc (a := 4) (z := (-1)) (v := k_) (w := k_ - 1) rfl rfl (by omega) (by omega) (by omega) ?_ -- pc_ 275
        refine sm_T_go 1 (c1 := (179, [some (.inr (.inr (some (6, 0)))), some (.inl a1_), some (.inl a2_), some (.inl ct), some (.inl (k_ - 1)), some (.inl vx12_), some (.inl vx19_)], [], sm_aI S_ 71 0 (S_.2.2.1 70 0 k_.toNat).toNat (i_and (i_xor (S_.2.2.1 71 0 (vx12_ / 2).toNat) (-(vx12_ % 2))) (i_xor (S_.2.2.1 71 0 (vx19_ / 2).toNat) (-(vx19_ % 2)))))) rfl ?_
        refine sm_T_wk [some (.inr (.inr (some (6, 0)))), some (.inl a1_), some (.inl a2_), some (.inl ct), some (.inl (k_ - 1)), none, none] (by exact ⟨rfl, rfl, rfl, rfl, rfl, trivial⟩) ?_
        refine ih_.2.2 ct (k_ - 1) (sm_aI S_ 71 0 (S_.2.2.1 70 0 k_.toNat).toNat (i_and (i_xor (S_.2.2.1 71 0 (vx12_ / 2).toNat) (-(vx12_ % 2))) (i_xor (S_.2.2.1 71 0 (vx19_ / 2).toNat) (-(vx19_ % 2))))) hIx25_ hFx26_ ⟨?_, trivial⟩ ?_
        · omega
        · omega
set_option maxHeartbeats 400000 in
set_option maxRecDepth 20000 in
theorem vc_105 {sc_ : Nat × (Nat → Int)} (a1_ : Int) (a2_ : Int) (dd_ : Nat) (S0_ : sm_S) (hI_ : gi S0_) (hd_ : S0_.2.1 6 0 0 = some dd_) (h1_ : 0 ≤ a1_ ∧ a1_ ≤ 1012) (h2_ : 0 ≤ a2_ ∧ a2_ ≤ 1023) : sm_T (mt_P sc_) 2 105 (0, [some (.inr (.inr (some (6, 0)))), some (.inl a1_), some (.inl a2_), none, none, none, none], [], S0_) (fun ro9_ => ∃ u_ S1_, ro9_ = (.inl u_, S1_, 0) ∧ vq_105 a1_ a2_ dd_ S0_ u_ S1_) := by
  have hF_ : ai_fr (sx_W vw_105) S0_ S0_ := ai_fr_rf
  refine sm_T_go 4 (c1 := (6, [some (.inr (.inr (some (6, 0)))), some (.inl a1_), some (.inl a2_), none, none, none, none], [.inl a1_, .inl 0, .inr (.inr (some (70, 0)))], S0_)) rfl ?_
  refine sm_T_iast (n := 1013) rfl rfl (by omega) (by omega) ?_
  have hIx1_ : gi (sm_aI S0_ 70 0 (0 : Int).toNat a1_) := gi_aI hI_ (show 0 ≤ a1_ ∧ a1_ ≤ 1012 from ⟨by omega, by omega⟩)
  have hFx2_ : ai_fr (sx_W vw_105) S0_ (sm_aI S0_ 70 0 (0 : Int).toNat a1_) := ai_fr_tr hF_ (ai_fr_aI rfl)
  refine sm_T_go 4 (c1 := (12, [some (.inr (.inr (some (6, 0)))), some (.inl a1_), some (.inl a2_), some (.inl 1), some (.inl 0), none, none], [], sm_aI S0_ 70 0 (0 : Int).toNat a1_)) rfl ?_
  refine (vl_105 a1_ a2_ dd_ S0_ hd_ h1_ h2_ _).1 1 0 (sm_aI S0_ 70 0 (0 : Int).toNat a1_) hIx1_ hFx2_ ⟨?_, trivial⟩ (Nat.lt_succ_self _)
  · omega
end
/-! 99.zn5a -/
section
/-! views of cells; written by wip/p55/gen/vg -/

/-! views of_ cells -/
theorem vsh {x_ k_ : Int} (hx_ : 0 ≤ x_ ∧ x_ ≤ 1) (hk_ : 0 ≤ k_ ∧ k_ ≤ 2) : 0 ≤ i_shl x_ k_ ∧ i_shl x_ k_ < 2 ^ 3 := by
  have a_ : x_ = 0 ∨ x_ = 1 := by omega
  have b_ : k_ = 0 ∨ k_ = 1 ∨ k_ = 2 := by omega
  rcases a_ with a_ | a_ <;> rcases b_ with b_ | b_ | b_ <;> rw [a_, b_] <;> decide
theorem vpw {e_ : Int} (h_ : e_ = 2 ∨ e_ = 3) : (e_ = 2 ∧ i_shl 1 e_ = 4 ∧ i_shl 2 e_ = 8) ∨ (e_ = 3 ∧ i_shl 1 e_ = 8 ∧ i_shl 6 e_ = 48) := by
  rcases h_ with h_ | h_ <;> rw [h_]
  · left; decide
  · right; decide
theorem vor {v_ e_ : Int} (hv_ : 0 ≤ v_ ∧ v_ < 48) (h_ : e_ = 2 ∨ e_ = 3) : (e_ = 2 ∧ i_shr v_ e_ = v_ / 4) ∨ (e_ = 3 ∧ i_shr v_ e_ = v_ / 8) := by
  rcases h_ with h_ | h_
  · left; exact ⟨h_, by rw [h_, i_shrv (by decide) (by decide) (by omega)]; rfl⟩
  · right; exact ⟨h_, by rw [h_, i_shrv (by decide) (by decide) (by omega)]; rfl⟩
/-! Mapper.viewCells -/
def vw_97 : sx_Wl := ([], [69], [])
def vq_97 (ll_ : Nat) (S0_ : sm_S) (u_ : Option sm_V) (S1_ : sm_S) : Prop := u_ = none ∧ gi S1_ ∧ ai_fr (sx_W vw_97) S0_ S1_ ∧ (True)
set_option maxHeartbeats 3000000 in
set_option maxRecDepth 20000 in
theorem vl_97 {sc_ : Nat × (Nat → Int)} (ll_ : Nat) (S0_ : sm_S) (hc_ : S0_.2.1 6 0 1 = some ll_) : ∀ nn_ : Nat, (∀ (c9_ : Int) (S_ : sm_S), gi S_ → ai_fr (sx_W vw_97) S0_ S_ → ((0 ≤ c9_ ∧ c9_ ≤ 12) ∧ True) → ((100000 * (20 - c9_) + 90000).toNat) < nn_ → sm_T (mt_P sc_) 1 97 (2, [some (.inr (.inr (some (6, 0)))), some (.inl c9_), none, none, none, none, none, none, none, none, none], [], S_) (fun ro9_ => ∃ u_ S1_, ro9_ = (.inl u_, S1_, 0) ∧ vq_97 ll_ S0_ u_ S1_)) ∧ (∀ (c9_ : Int) (is_ : Int) (od_ : Int) (vw_ : Int) (S_ : sm_S), gi S_ → ai_fr (sx_W vw_97) S0_ S_ → ((0 ≤ c9_ ∧ c9_ < 12 ∧ ((is_ = 2 ∧ od_ = 2) ∨ (is_ = 3 ∧ od_ = 6) ∨ is_ ≤ 1) ∧ 0 ≤ is_ ∧ is_ ≤ 3 ∧ 0 ≤ vw_ ∧ vw_ ≤ 48) ∧ True) → ((100000 * (20 - c9_) + 1000 * (60 - vw_) + 900).toNat) < nn_ → sm_T (mt_P sc_) 1 97 (38, [some (.inr (.inr (some (6, 0)))), some (.inl c9_), some (.inl is_), some (.inl od_), some (.inl vw_), none, none, none, none, none, none], [], S_) (fun ro9_ => ∃ u_ S1_, ro9_ = (.inl u_, S1_, 0) ∧ vq_97 ll_ S0_ u_ S1_)) ∧ (∀ (c9_ : Int) (is_ : Int) (od_ : Int) (vw_ : Int) (ox_ : Int) (tn_ : Int) (tb_ : Int) (sx_ : Int) (S_ : sm_S), gi S_ → ai_fr (sx_W vw_97) S0_ S_ → ((0 ≤ c9_ ∧ c9_ < 12 ∧ ((is_ = 2 ∧ od_ = 2) ∨ (is_ = 3 ∧ od_ = 6)) ∧ 0 ≤ is_ ∧ is_ ≤ 3 ∧ 0 ≤ vw_ ∧ ((is_ = 2 ∧ vw_ < 8) ∨ (is_ = 3 ∧ vw_ < 48)) ∧ 0 ≤ ox_ ∧ ((is_ = 2 ∧ ox_ ≤ 1) ∨ (is_ = 3 ∧ ox_ ≤ 5)) ∧ 0 ≤ tn_ ∧ tn_ ≤ 7 ∧ 0 ≤ tb_ ∧ tb_ ≤ 255 ∧ 0 ≤ sx_ ∧ sx_ ≤ 8) ∧ True) → ((100000 * (20 - c9_) + 1000 * (60 - vw_) + 20 * (20 - sx_) + 19).toNat) < nn_ → sm_T (mt_P sc_) 1 97 (73, [some (.inr (.inr (some (6, 0)))), some (.inl c9_), some (.inl is_), some (.inl od_), some (.inl vw_), some (.inl ox_), some (.inl tn_), some (.inl tb_), some (.inl sx_), none, none], [], S_) (fun ro9_ => ∃ u_ S1_, ro9_ = (.inl u_, S1_, 0) ∧ vq_97 ll_ S0_ u_ S1_)) ∧ (∀ (c9_ : Int) (is_ : Int) (od_ : Int) (vw_ : Int) (ox_ : Int) (tn_ : Int) (tb_ : Int) (sx_ : Int) (st_ : Int) (k_ : Int) (S_ : sm_S), gi S_ → ai_fr (sx_W vw_97) S0_ S_ → ((0 ≤ c9_ ∧ c9_ < 12 ∧ ((is_ = 2 ∧ od_ = 2) ∨ (is_ = 3 ∧ od_ = 6)) ∧ 0 ≤ is_ ∧ is_ ≤ 3 ∧ 0 ≤ vw_ ∧ ((is_ = 2 ∧ vw_ < 8) ∨ (is_ = 3 ∧ vw_ < 48)) ∧ 0 ≤ ox_ ∧ ((is_ = 2 ∧ ox_ ≤ 1) ∨ (is_ = 3 ∧ ox_ ≤ 5)) ∧ 0 ≤ tn_ ∧ tn_ ≤ 7 ∧ 0 ≤ tb_ ∧ tb_ ≤ 255 ∧ 0 ≤ sx_ ∧ sx_ ≤ 8 ∧ sx_ < 8 ∧ 0 ≤ st_ ∧ st_ ≤ 7 ∧ 0 ≤ k_ ∧ k_ ≤ 3) ∧ True) → ((100000 * (20 - c9_) + 1000 * (60 - vw_) + 20 * (20 - sx_) + 18 - k_).toNat) < nn_ → sm_T (mt_P sc_) 1 97 (88, [some (.inr (.inr (some (6, 0)))), some (.inl c9_), some (.inl is_), some (.inl od_), some (.inl vw_), some (.inl ox_), some (.inl tn_), some (.inl tb_), some (.inl sx_), some (.inl st_), some (.inl k_)], [], S_) (fun ro9_ => ∃ u_ S1_, ro9_ = (.inl u_, S1_, 0) ∧ vq_97 ll_ S0_ u_ S1_)) := by
  intro nn_
  induction nn_ with
  | zero => exact ⟨fun _ _ _ _ _ h_ => absurd h_ (Nat.not_lt_zero _), fun _ _ _ _ _ _ _ _ h_ => absurd h_ (Nat.not_lt_zero _), fun _ _ _ _ _ _ _ _ _ _ _ _ h_ => absurd h_ (Nat.not_lt_zero _), fun _ _ _ _ _ _ _ _ _ _ _ _ _ _ h_ => absurd h_ (Nat.not_lt_zero _)⟩
  | succ nn_ ih_ =>
    refine ⟨?_, ?_, ?_, ?_⟩
    · rintro c9_ S_ hI_ hF_ ⟨h0_, -⟩ hm_
      refine sm_T_go 2 (c1 := (4, [some (.inr (.inr (some (6, 0)))), some (.inl c9_), none, none, none, none, none, none, none, none, none], [.inr (.inr (some (6, 0))), .inl c9_], S_)) rfl ?_
      refine sm_T_gr rfl rfl ((hF_.2.1 6 0 1 rfl).trans hc_) ?_
      have bx1_ : 0 ≤ S_.1 5 ll_ 1 ∧ S_.1 5 ll_ 1 ≤ 12 := hI_.1 5 ll_ 1 rfl
      refine sm_T_go 1 (c1 := (10, [some (.inr (.inr (some (6, 0)))), some (.inl c9_), none, none, none, none, none, none, none, none, none], [.inl (S_.1 5 ll_ 1), .inl c9_], S_)) rfl ?_
      refine sm_T_br (a := 3) (z := 165) rfl (fun cx2_ => ?_) (fun cx2_ => ?_)
      · have cx2_ : (S_.1 5 ll_ 1) ≤ c9_ := of_decide_eq_true cx2_
        refine sm_T_rv rfl ⟨_, _, rfl, rfl, hI_, hF_, ?_⟩
        trivial
      · have cx2_ : ¬ ((S_.1 5 ll_ 1) ≤ c9_) := of_decide_eq_false cx2_
        refine sm_T_go 1 (c1 := (14, [some (.inr (.inr (some (6, 0)))), some (.inl c9_), none, none, none, none, none, none, none, none, none], [.inr (.inr (some (6, 0)))], S_)) rfl ?_
        refine sm_T_gr rfl rfl ((hF_.2.1 6 0 1 rfl).trans hc_) ?_
        refine sm_T_go 2 (c1 := (21, [some (.inr (.inr (some (6, 0)))), some (.inl c9_), none, none, none, none, none, none, none, none, none], [.inl c9_, .inr (.inr (some (55, (0 + ll_))))], S_)) rfl ?_
        refine sm_T_iald (n := 12) rfl rfl (by omega) (by omega) ?_
        have bx3_ : 0 ≤ S_.2.2.1 55 (0 + ll_) c9_.toNat ∧ S_.2.2.1 55 (0 + ll_) c9_.toNat ≤ 3 := hI_.2 55 (0 + ll_) _
        refine sm_T_go 3 (c1 := (25, [some (.inr (.inr (some (6, 0)))), some (.inl c9_), some (.inl (S_.2.2.1 55 (0 + ll_) c9_.toNat)), none, none, none, none, none, none, none, none], [.inl 2, .inl (S_.2.2.1 55 (0 + ll_) c9_.toNat)], S_)) rfl ?_
        refine sm_T_br (a := 1) (z := 7) rfl (fun cx4_ => ?_) (fun cx4_ => ?_)
        · have cx4_ : (S_.2.2.1 55 (0 + ll_) c9_.toNat) ≠ 2 := of_decide_eq_true cx4_
          refine sm_T_go 4 (c1 := (38, [some (.inr (.inr (some (6, 0)))), some (.inl c9_), some (.inl (S_.2.2.1 55 (0 + ll_) c9_.toNat)), some (.inl 6), some (.inl 0), none, none, none, none, none, none], [], S_)) rfl ?_
          refine ih_.2.1 c9_ (S_.2.2.1 55 (0 + ll_) c9_.toNat) 6 0 S_ hI_ hF_ ⟨?_, trivial⟩ ?_
          · omega
          · omega
        · have cx4_ : ¬ ((S_.2.2.1 55 (0 + ll_) c9_.toNat) ≠ 2) := of_decide_eq_false cx4_
          refine sm_T_go 5 (c1 := (38, [some (.inr (.inr (some (6, 0)))), some (.inl c9_), some (.inl (S_.2.2.1 55 (0 + ll_) c9_.toNat)), some (.inl 2), some (.inl 0), none, none, none, none, none, none], [], S_)) rfl ?_
          refine ih_.2.1 c9_ (S_.2.2.1 55 (0 + ll_) c9_.toNat) 2 0 S_ hI_ hF_ ⟨?_, trivial⟩ ?_
          · omega
          · omega
    · rintro c9_ is_ od_ vw_ S_ hI_ hF_ ⟨h0_, -⟩ hm_
      refine sm_T_go 2 (c1 := (40, [some (.inr (.inr (some (6, 0)))), some (.inl c9_), some (.inl is_), some (.inl od_), some (.inl vw_), none, none, none, none, none, none], [.inl 1, .inl is_], S_)) rfl ?_
      refine sm_T_br (a := 5) (z := 129) rfl (fun cx1_ => ?_) (fun cx1_ => ?_)
      · have cx1_ : is_ ≤ 1 := of_decide_eq_true cx1_
        refine sm_T_inc (a := 1) (z := 1) (v := c9_) (w := c9_ + 1) rfl rfl (by omega) (by omega) (by omega) ?_ -- pc_ 169
        refine sm_T_go 1 (c1 := (2, [some (.inr (.inr (some (6, 0)))), some (.inl (c9_ + 1)), some (.inl is_), some (.inl od_), some (.inl vw_), none, none, none, none, none, none], [], S_)) rfl ?_
        refine sm_T_wk [some (.inr (.inr (some (6, 0)))), some (.inl (c9_ + 1)), none, none, none, none, none, none, none, none, none] (by exact ⟨rfl, rfl, trivial⟩) ?_
        refine ih_.1 (c9_ + 1) S_ hI_ hF_ ⟨?_, trivial⟩ ?_
        · omega
        · omega
      · have cx1_ : ¬ (is_ ≤ 1) := of_decide_eq_false cx1_
        have vp9_ := vpw (e_ := is_) (by omega)
        refine sm_T_go 3 (c1 := (47, [some (.inr (.inr (some (6, 0)))), some (.inl c9_), some (.inl is_), some (.inl od_), some (.inl vw_), none, none, none, none, none, none], [.inl is_, .inl od_, .inl vw_], S_)) rfl ?_
        refine sm_T_bin (w := (i_shl od_ is_)) rfl rfl ?_ -- pc_ 47
        have bx2_ : i_shl od_ is_ = 8 ∨ i_shl od_ is_ = 48 := by (rcases vp9_ with u9_ | u9_; (have w9_ : od_ = 2 := (by omega); rw [w9_]; left; exact u9_.2.2); (have w9_ : od_ = 6 := (by omega); rw [w9_]; right; exact u9_.2.2))
        have od9_ : (is_ = 2 ∧ i_shl od_ is_ = 8) ∨ (is_ = 3 ∧ i_shl od_ is_ = 48) := by (rcases vp9_ with u9_ | u9_; (have w9_ : od_ = 2 := (by omega); rw [w9_]; left; exact ⟨u9_.1, u9_.2.2⟩); (have w9_ : od_ = 6 := (by omega); rw [w9_]; right; exact ⟨u9_.1, u9_.2.2⟩))
        refine sm_T_br (a := 3) (z := 121) rfl (fun cx4_ => ?_) (fun cx4_ => ?_)
        · have cx4_ : (i_shl od_ is_) ≤ vw_ := of_decide_eq_true cx4_
          refine sm_T_inc (a := 1) (z := 1) (v := c9_) (w := c9_ + 1) rfl rfl (by omega) (by omega) (by omega) ?_ -- pc_ 169
          refine sm_T_go 1 (c1 := (2, [some (.inr (.inr (some (6, 0)))), some (.inl (c9_ + 1)), some (.inl is_), some (.inl od_), some (.inl vw_), none, none, none, none, none, none], [], S_)) rfl ?_
          refine sm_T_wk [some (.inr (.inr (some (6, 0)))), some (.inl (c9_ + 1)), none, none, none, none, none, none, none, none, none] (by exact ⟨rfl, rfl, trivial⟩) ?_
          refine ih_.1 (c9_ + 1) S_ hI_ hF_ ⟨?_, trivial⟩ ?_
          · omega
          · omega
        · have cx4_ : ¬ ((i_shl od_ is_) ≤ vw_) := of_decide_eq_false cx4_
          have vo9_ := vor (v_ := vw_) (e_ := is_) (by omega) (by omega)
          refine sm_T_go 2 (c1 := (54, [some (.inr (.inr (some (6, 0)))), some (.inl c9_), some (.inl is_), some (.inl od_), some (.inl vw_), none, none, none, none, none, none], [.inl is_, .inl vw_], S_)) rfl ?_
          refine sm_T_bin (w := (i_shr vw_ is_)) rfl rfl ?_ -- pc_ 54
          refine sm_T_go 4 (c1 := (61, [some (.inr (.inr (some (6, 0)))), some (.inl c9_), some (.inl is_), some (.inl od_), some (.inl vw_), some (.inl (i_shr vw_ is_)), none, none, none, none, none], [.inl is_, .inl 1, .inl vw_], S_)) rfl ?_
          refine sm_T_bin (w := (i_shl 1 is_)) rfl rfl ?_ -- pc_ 61
          refine sm_T_go 1 (c1 := (63, [some (.inr (.inr (some (6, 0)))), some (.inl c9_), some (.inl is_), some (.inl od_), some (.inl vw_), some (.inl (i_shr vw_ is_)), none, none, none, none, none], [.inl 1, .inl (i_shl 1 is_), .inl vw_], S_)) rfl ?_
          refine sm_T_bin (w := (i_shl 1 is_) - 1) rfl (bi_sub (by omega) (by omega) (by omega)) ?_ -- pc_ 63
          refine sm_T_bin (w := (i_and vw_ ((i_shl 1 is_) - 1))) rfl rfl ?_ -- pc_ 64
          have bx5_ := i_and_y vw_ (y_ := ((i_shl 1 is_) - 1)) (by omega)
          refine sm_T_go 5 (c1 := (73, [some (.inr (.inr (some (6, 0)))), some (.inl c9_), some (.inl is_), some (.inl od_), some (.inl vw_), some (.inl (i_shr vw_ is_)), some (.inl (i_and vw_ ((i_shl 1 is_) - 1))), some (.inl 0), some (.inl 0), none, none], [], S_)) rfl ?_
          refine ih_.2.2.1 c9_ is_ od_ vw_ (i_shr vw_ is_) (i_and vw_ ((i_shl 1 is_) - 1)) 0 0 S_ hI_ hF_ ⟨?_, trivial⟩ ?_
          · omega
          · omega
    · rintro c9_ is_ od_ vw_ ox_ tn_ tb_ sx_ S_ hI_ hF_ ⟨h0_, -⟩ hm_
      refine sm_T_go 3 (c1 := (77, [some (.inr (.inr (some (6, 0)))), some (.inl c9_), some (.inl is_), some (.inl od_), some (.inl vw_), some (.inl ox_), some (.inl tn_), some (.inl tb_), some (.inl sx_), none, none], [.inl is_, .inl 1, .inl sx_], S_)) rfl ?_
      refine sm_T_bin (w := (i_shl 1 is_)) rfl rfl ?_ -- pc_ 77
      have vq9_ := vpw (e_ := is_) (by omega)
      refine sm_T_br (a := 3) (z := 71) rfl (fun cx2_ => ?_) (fun cx2_ => ?_)
      · have cx2_ : (i_shl 1 is_) ≤ sx_ := of_decide_eq_true cx2_
        refine sm_T_go 4 (c1 := (156, [some (.inr (.inr (some (6, 0)))), some (.inl c9_), some (.inl is_), some (.inl od_), some (.inl vw_), some (.inl ox_), some (.inl tn_), some (.inl tb_), some (.inl sx_), none, none], [.inl 48, .inl c9_, .inr (.inr (some (69, 0)))], S_)) rfl ?_
        refine sm_T_bin (w := 48 * c9_) rfl (bi_mul (by omega) (by omega) (by omega)) ?_ -- pc_ 156
        refine sm_T_go 1 (c1 := (159, [some (.inr (.inr (some (6, 0)))), some (.inl c9_), some (.inl is_), some (.inl od_), some (.inl vw_), some (.inl ox_), some (.inl tn_), some (.inl tb_), some (.inl sx_), none, none], [.inl vw_, .inl (48 * c9_), .inr (.inr (some (69, 0)))], S_)) rfl ?_
        refine sm_T_bin (w := 48 * c9_ + vw_) rfl (bi_add (by omega) (by omega) (by omega)) ?_ -- pc_ 159
        refine sm_T_go 1 (c1 := (162, [some (.inr (.inr (some (6, 0)))), some (.inl c9_), some (.inl is_), some (.inl od_), some (.inl vw_), some (.inl ox_), some (.inl tn_), some (.inl tb_), some (.inl sx_), none, none], [.inl tb_, .inl (48 * c9_ + vw_), .inr (.inr (some (69, 0)))], S_)) rfl ?_
        refine sm_T_iast (n := 576) rfl rfl (by omega) (by omega) ?_
        have hIx3_ : gi (sm_aI S_ 69 0 (48 * c9_ + vw_).toNat tb_) := gi_aI hI_ (show 0 ≤ tb_ ∧ tb_ ≤ 255 from ⟨by omega, by omega⟩)
        have hFx4_ : ai_fr (sx_W vw_97) S0_ (sm_aI S_ 69 0 (48 * c9_ + vw_).toNat tb_) := ai_fr_tr hF_ (ai_fr_aI rfl)
        refine sm_T_inc (a := 4) (z := 1) (v := vw_) (w := vw_ + 1) rfl rfl (by omega) (by omega) (by omega) ?_ -- pc_ 163
        refine sm_T_go 1 (c1 := (38, [some (.inr (.inr (some (6, 0)))), some (.inl c9_), some (.inl is_), some (.inl od_), some (.inl (vw_ + 1)), some (.inl ox_), some (.inl tn_), some (.inl tb_), some (.inl sx_), none, none], [], sm_aI S_ 69 0 (48 * c9_ + vw_).toNat tb_)) rfl ?_
        refine sm_T_wk [some (.inr (.inr (some (6, 0)))), some (.inl c9_), some (.inl is_), some (.inl od_), some (.inl (vw_ + 1)), none, none, none, none, none, none] (by exact ⟨rfl, rfl, rfl, rfl, rfl, trivial⟩) ?_
        refine ih_.2.1 c9_ is_ od_ (vw_ + 1) (sm_aI S_ 69 0 (48 * c9_ + vw_).toNat tb_) hIx3_ hFx4_ ⟨?_, trivial⟩ ?_
        · omega
        · omega
      · have cx2_ : ¬ ((i_shl 1 is_) ≤ sx_) := of_decide_eq_false cx2_
        refine sm_T_go 4 (c1 := (88, [some (.inr (.inr (some (6, 0)))), some (.inl c9_), some (.inl is_), some (.inl od_), some (.inl vw_), some (.inl ox_), some (.inl tn_), some (.inl tb_), some (.inl sx_), some (.inl tn_), some (.inl 0)], [], S_)) rfl ?_
        refine ih_.2.2.2 c9_ is_ od_ vw_ ox_ tn_ tb_ sx_ tn_ 0 S_ hI_ hF_ ⟨?_, trivial⟩ ?_
        · omega
        · omega
    · rintro c9_ is_ od_ vw_ ox_ tn_ tb_ sx_ st_ k_ S_ hI_ hF_ ⟨h0_, -⟩ hm_
      refine sm_T_go 2 (c1 := (91, [some (.inr (.inr (some (6, 0)))), some (.inl c9_), some (.inl is_), some (.inl od_), some (.inl vw_), some (.inl ox_), some (.inl tn_), some (.inl tb_), some (.inl sx_), some (.inl st_), some (.inl k_)], [.inl is_, .inl k_], S_)) rfl ?_
      refine sm_T_br (a := 3) (z := 30) rfl (fun cx1_ => ?_) (fun cx1_ => ?_)
      · have cx1_ : is_ ≤ k_ := of_decide_eq_true cx1_
        refine sm_T_go 2 (c1 := (124, [some (.inr (.inr (some (6, 0)))), some (.inl c9_), some (.inl is_), some (.inl od_), some (.inl vw_), some (.inl ox_), some (.inl tn_), some (.inl tb_), some (.inl sx_), some (.inl st_), some (.inl k_)], [.inr (.inr (some (6, 0))), .inl tb_], S_)) rfl ?_
        refine sm_T_gr rfl rfl ((hF_.2.1 6 0 1 rfl).trans hc_) ?_
        refine sm_T_go 2 (c1 := (131, [some (.inr (.inr (some (6, 0)))), some (.inl c9_), some (.inl is_), some (.inl od_), some (.inl vw_), some (.inl ox_), some (.inl tn_), some (.inl tb_), some (.inl sx_), some (.inl st_), some (.inl k_)], [.inl c9_, .inr (.inr (some (56, (0 + ll_)))), .inl tb_], S_)) rfl ?_
        refine sm_T_iald (n := 12) rfl rfl (by omega) (by omega) ?_
        have bx2_ : 0 ≤ S_.2.2.1 56 (0 + ll_) c9_.toNat ∧ S_.2.2.1 56 (0 + ll_) c9_.toNat ≤ 255 := hI_.2 56 (0 + ll_) _
        refine sm_T_go 1 (c1 := (134, [some (.inr (.inr (some (6, 0)))), some (.inl c9_), some (.inl is_), some (.inl od_), some (.inl vw_), some (.inl ox_), some (.inl tn_), some (.inl tb_), some (.inl sx_), some (.inl st_), some (.inl k_)], [.inl st_, .inl (S_.2.2.1 56 (0 + ll_) c9_.toNat), .inl tb_], S_)) rfl ?_
        refine sm_T_bin (w := (i_shr (S_.2.2.1 56 (0 + ll_) c9_.toNat) st_)) rfl rfl ?_ -- pc_ 134
        have bx3_ := i_shr_p (x_ := (S_.2.2.1 56 (0 + ll_) c9_.toNat)) (e_ := st_) (by omega) (by omega) (by omega)
        refine sm_T_go 1 (c1 := (136, [some (.inr (.inr (some (6, 0)))), some (.inl c9_), some (.inl is_), some (.inl od_), some (.inl vw_), some (.inl ox_), some (.inl tn_), some (.inl tb_), some (.inl sx_), some (.inl st_), some (.inl k_)], [.inl 1, .inl (i_shr (S_.2.2.1 56 (0 + ll_) c9_.toNat) st_), .inl tb_], S_)) rfl ?_
        refine sm_T_bin (w := ((i_shr (S_.2.2.1 56 (0 + ll_) c9_.toNat) st_) % 2)) rfl (bi_msk (k := 1) (by decide)) ?_ -- pc_ 136
        refine sm_T_go 1 (c1 := (139, [some (.inr (.inr (some (6, 0)))), some (.inl c9_), some (.inl is_), some (.inl od_), some (.inl vw_), some (.inl ox_), some (.inl tn_), some (.inl tb_), some (.inl sx_), some (.inl st_), some (.inl k_)], [.inl sx_, .inl ((i_shr (S_.2.2.1 56 (0 + ll_) c9_.toNat) st_) % 2), .inl tb_], S_)) rfl ?_
        refine sm_T_bin (w := (i_shl ((i_shr (S_.2.2.1 56 (0 + ll_) c9_.toNat) st_) % 2) sx_)) rfl rfl ?_ -- pc_ 139
        have bx4_ := bsh (x_ := ((i_shr (S_.2.2.1 56 (0 + ll_) c9_.toNat) st_) % 2)) (e_ := sx_) (k_ := 8) (by omega) (by omega) (by omega) (by decide)
        refine sm_T_bin (w := (i_or tb_ (i_shl ((i_shr (S_.2.2.1 56 (0 + ll_) c9_.toNat) st_) % 2) sx_))) rfl rfl ?_ -- pc_ 140
        have bx5_ := i_orp (x_ := tb_) (y_ := (i_shl ((i_shr (S_.2.2.1 56 (0 + ll_) c9_.toNat) st_) % 2) sx_)) (k_ := 8) (by decide) (by omega) (by omega)
        refine sm_T_go 1 (c1 := (143, [some (.inr (.inr (some (6, 0)))), some (.inl c9_), some (.inl is_), some (.inl od_), some (.inl vw_), some (.inl ox_), some (.inl tn_), some (.inl (i_or tb_ (i_shl ((i_shr (S_.2.2.1 56 (0 + ll_) c9_.toNat) st_) % 2) sx_))), some (.inl sx_), some (.inl st_), some (.inl k_)], [], S_)) rfl ?_
        refine sm_T_inc (a := 8) (z := 1) (v := sx_) (w := sx_ + 1) rfl rfl (by omega) (by omega) (by omega) ?_ -- pc_ 143
        refine sm_T_go 1 (c1 := (73, [some (.inr (.inr (some (6, 0)))), some (.inl c9_), some (.inl is_), some (.inl od_), some (.inl vw_), some (.inl ox_), some (.inl tn_), some (.inl (i_or tb_ (i_shl ((i_shr (S_.2.2.1 56 (0 + ll_) c9_.toNat) st_) % 2) sx_))), some (.inl (sx_ + 1)), some (.inl st_), some (.inl k_)], [], S_)) rfl ?_
        refine sm_T_wk [some (.inr (.inr (some (6, 0)))), some (.inl c9_), some (.inl is_), some (.inl od_), some (.inl vw_), some (.inl ox_), some (.inl tn_), some (.inl (i_or tb_ (i_shl ((i_shr (S_.2.2.1 56 (0 + ll_) c9_.toNat) st_) % 2) sx_))), some (.inl (sx_ + 1)), none, none] (by exact ⟨rfl, rfl, rfl, rfl, rfl, rfl, rfl, rfl, rfl, trivial⟩) ?_
        refine ih_.2.2.1 c9_ is_ od_ vw_ ox_ tn_ (i_or tb_ (i_shl ((i_shr (S_.2.2.1 56 (0 + ll_) c9_.toNat) st_) % 2) sx_)) (sx_ + 1) S_ hI_ hF_ ⟨?_, trivial⟩ ?_
        · omega
        · omega
      · have cx1_ : ¬ (is_ ≤ k_) := of_decide_eq_false cx1_
        refine sm_T_go 5 (c1 := (103, [some (.inr (.inr (some (6, 0)))), some (.inl c9_), some (.inl is_), some (.inl od_), some (.inl vw_), some (.inl ox_), some (.inl tn_), some (.inl tb_), some (.inl sx_), some (.inl st_), some (.inl k_)], [.inl k_, .inl ox_, .inl is_, .inl sx_, .inl st_], S_)) rfl ?_
        refine sm_T_cal (d1 := 0) (Q1 := vq_98 is_ ox_ k_ S_) rfl rfl (by decide) (vc_98 is_ ox_ k_ S_ hI_ (by omega)) (fun u_ Sx6_ px9_ => ?_)
        obtain ⟨rfl, vx11_, rfl, px9_⟩ := px9_
        have pl9_ := px9_.1
        refine sm_T_bin (w := (i_shr sx_ vx11_)) rfl rfl ?_ -- pc_ 106
        have bx12_ := i_shr_p (x_ := sx_) (e_ := vx11_) (by omega) (by omega) (by omega)
        refine sm_T_go 1 (c1 := (108, [some (.inr (.inr (some (6, 0)))), some (.inl c9_), some (.inl is_), some (.inl od_), some (.inl vw_), some (.inl ox_), some (.inl tn_), some (.inl tb_), some (.inl sx_), some (.inl st_), some (.inl k_)], [.inl 1, .inl (i_shr sx_ vx11_), .inl st_], S_)) rfl ?_
        refine sm_T_bin (w := ((i_shr sx_ vx11_) % 2)) rfl (bi_msk (k := 1) (by decide)) ?_ -- pc_ 108
        refine sm_T_go 1 (c1 := (111, [some (.inr (.inr (some (6, 0)))), some (.inl c9_), some (.inl is_), some (.inl od_), some (.inl vw_), some (.inl ox_), some (.inl tn_), some (.inl tb_), some (.inl sx_), some (.inl st_), some (.inl k_)], [.inl k_, .inl ((i_shr sx_ vx11_) % 2), .inl st_], S_)) rfl ?_
        refine sm_T_bin (w := (i_shl ((i_shr sx_ vx11_) % 2) k_)) rfl rfl ?_ -- pc_ 111
        have bx13_ := vsh (x_ := ((i_shr sx_ vx11_) % 2)) (k_ := k_) (by omega) (by omega)
        refine sm_T_bin (w := (i_xor st_ (i_shl ((i_shr sx_ vx11_) % 2) k_))) rfl rfl ?_ -- pc_ 112
        have bx14_ := i_xrp (x_ := st_) (y_ := (i_shl ((i_shr sx_ vx11_) % 2) k_)) (k_ := 3) (by decide) (by omega) (by omega)
        refine sm_T_go 1 (c1 := (115, [some (.inr (.inr (some (6, 0)))), some (.inl c9_), some (.inl is_), some (.inl od_), some (.inl vw_), some (.inl ox_), some (.inl tn_), some (.inl tb_), some (.inl sx_), some (.inl (i_xor st_ (i_shl ((i_shr sx_ vx11_) % 2) k_))), some (.inl k_)], [], S_)) rfl ?_
        refine sm_T_inc (a := 10) (z := 1) (v := k_) (w := k_ + 1) rfl rfl (by omega) (by omega) (by omega) ?_ -- pc_ 115
        refine sm_T_go 1 (c1 := (88, [some (.inr (.inr (some (6, 0)))), some (.inl c9_), some (.inl is_), some (.inl od_), some (.inl vw_), some (.inl ox_), some (.inl tn_), some (.inl tb_), some (.inl sx_), some (.inl (i_xor st_ (i_shl ((i_shr sx_ vx11_) % 2) k_))), some (.inl (k_ + 1))], [], S_)) rfl ?_
        refine ih_.2.2.2 c9_ is_ od_ vw_ ox_ tn_ tb_ sx_ (i_xor st_ (i_shl ((i_shr sx_ vx11_) % 2) k_)) (k_ + 1) S_ hI_ hF_ ⟨?_, trivial⟩ ?_
        · omega
        · omega
set_option maxHeartbeats 3000000 in
set_option maxRecDepth 20000 in
theorem vc_97 {sc_ : Nat × (Nat → Int)} (ll_ : Nat) (S0_ : sm_S) (hI_ : gi S0_) (hc_ : S0_.2.1 6 0 1 = some ll_) : sm_T (mt_P sc_) 1 97 (0, [some (.inr (.inr (some (6, 0)))), none, none, none, none, none, none, none, none, none, none], [], S0_) (fun ro9_ => ∃ u_ S1_, ro9_ = (.inl u_, S1_, 0) ∧ vq_97 ll_ S0_ u_ S1_) := by
  have hF_ : ai_fr (sx_W vw_97) S0_ S0_ := ai_fr_rf
  refine sm_T_go 2 (c1 := (2, [some (.inr (.inr (some (6, 0)))), some (.inl 0), none, none, none, none, none, none, none, none, none], [], S0_)) rfl ?_
  refine (vl_97 ll_ S0_ hc_ _).1 0 S0_ hI_ hF_ ⟨?_, trivial⟩ (Nat.lt_succ_self _)
  · omega
end
/-! 99.zn6a -/
section
/-! ways of making a literal; written by wip/p55/gen/vg -/

/-! ways of_ making a_ literal -/
theorem tbit {v_ e_ k_ : Int} (hv_ : 0 ≤ v_ ∧ v_ < 48) (he_ : e_ = 2 ∨ e_ = 3) (hk_ : 0 ≤ k_ ∧ k_ < e_) : i_shr (i_and v_ (i_shl 1 e_ - 1)) k_ % 2 = i_shr v_ k_ % 2 := by
  have c2_ : ∀ j_ : Fin 48, ∀ i_ : Fin 2, i_shr (i_and ((j_.val : Nat) : Int) (i_shl 1 2 - 1)) ((i_.val : Nat) : Int) % 2 = i_shr ((j_.val : Nat) : Int) ((i_.val : Nat) : Int) % 2 := by decide +kernel
  have c3_ : ∀ j_ : Fin 48, ∀ i_ : Fin 3, i_shr (i_and ((j_.val : Nat) : Int) (i_shl 1 3 - 1)) ((i_.val : Nat) : Int) % 2 = i_shr ((j_.val : Nat) : Int) ((i_.val : Nat) : Int) % 2 := by decide +kernel
  have hv1_ : ((v_.toNat : Nat) : Int) = v_ := by omega
  have hk1_ : ((k_.toNat : Nat) : Int) = k_ := by omega
  rcases he_ with he_ | he_
  · have q_ := c2_ ⟨v_.toNat, by omega⟩ ⟨k_.toNat, by omega⟩
    simp only [hv1_, hk1_] at q_
    rw [he_]; exact q_
  · have q_ := c3_ ⟨v_.toNat, by omega⟩ ⟨k_.toNat, by omega⟩
    simp only [hv1_, hk1_] at q_
    rw [he_]; exact q_
theorem mcs_b {P_ : Int → Prop} {S_ : sm_S} (g_ : mcs P_ S_) {i_ k_ : Int} (hi_ : 0 ≤ i_ ∧ i_ < S_.1 6 0 11) (hk_ : 0 ≤ k_ ∧ k_ ≤ 2) (hn_ : k_ = 2 → S_.2.2.1 65 0 (3 * i_ + 2).toNat ≠ -1) : P_ (S_.2.2.1 65 0 (3 * i_ + k_).toNat) := by
  have q_ := g_ i_.toNat (by omega)
  have c_ : k_ = 0 ∨ k_ = 1 ∨ k_ = 2 := by omega
  rcases c_ with c_ | c_ | c_
  · rw [show (3 * i_ + k_).toNat = 3 * i_.toNat by omega]; exact q_.1
  · rw [show (3 * i_ + k_).toNat = 3 * i_.toNat + 1 by omega]; exact q_.2.1
  · have w_ := hn_ c_
    rw [show (3 * i_ + 2).toNat = 3 * i_.toNat + 2 by omega] at w_
    rw [show (3 * i_ + k_).toNat = 3 * i_.toNat + 2 by omega]
    exact q_.2.2.resolve_left w_
/-- a_ part may_ be_ made: node x_, turned or not; inverter iv_ -/
def wpt (F_ n_ iv_ : Int) (u_ r_ need : Nat → Int) (x_ t_ : Int) : Prop := npd n_ u_ x_ ∧ imq ((x_ < F_ ∨ r_ x_.toNat ≠ 0) ∧ t_ ≠ 0) (iv_ ≠ -1) ∧ imq (F_ ≤ x_ ∧ r_ x_.toNat = 0) (need (2 * x_ + t_).toNat < 268435456)
/-- a_ literal has_ no_ way_, or a_ cell with its_ parts -/
def wo3 (F_ n_ : Int) (ll_ : Nat) (S_ : sm_S) (l_ : Nat) : Prop := (S_.2.2.1 62 0 l_ = -1 ∧ S_.2.2.1 61 0 l_ = 268435456) ∨ (0 ≤ S_.2.2.1 62 0 l_ ∧ S_.2.2.1 61 0 l_ < 268435456 ∧ ∀ k_ : Nat, (k_ : Int) < S_.2.2.1 55 (0 + ll_) (S_.2.2.1 62 0 l_).toNat → wpt F_ n_ (S_.1 5 ll_ 2) (S_.2.2.1 59 0) (S_.2.2.1 60 0) (S_.2.2.1 61 0) (S_.2.2.1 64 0 (3 * l_ + k_)) (i_shr (S_.2.2.1 63 0 l_) (k_ : Int) % 2))
/-- only literal l_ has_ changed -/
def wfl (l_ : Nat) (S_ S'_ : sm_S) : Prop := (∀ j_, j_ ≠ l_ → S'_.2.2.1 61 0 j_ = S_.2.2.1 61 0 j_ ∧ S'_.2.2.1 62 0 j_ = S_.2.2.1 62 0 j_ ∧ S'_.2.2.1 63 0 j_ = S_.2.2.1 63 0 j_) ∧ ∀ j_, (j_ < 3 * l_ ∨ 3 * l_ + 3 ≤ j_) → S'_.2.2.1 64 0 j_ = S_.2.2.1 64 0 j_
theorem wfl_rf {l_ : Nat} {S_ : sm_S} : wfl l_ S_ S_ := ⟨fun _ _ => ⟨rfl, rfl, rfl⟩, fun _ _ => rfl⟩
theorem wpt_cg {F_ n_ iv_ : Int} {u_ r_ f_ g_ : Nat → Int} {x_ t_ : Int} (h_ : wpt F_ n_ iv_ u_ r_ f_ x_ t_) (ht_ : 0 ≤ t_ ∧ t_ ≤ 1) (e_ : ∀ j_ : Nat, (j_ : Int) < 2 * n_ → g_ j_ = f_ j_) : wpt F_ n_ iv_ u_ r_ g_ x_ t_ := by
  obtain ⟨a_, b_, c_⟩ := h_
  refine ⟨a_, b_, fun q_ => ?_⟩
  have a1_ := a_.1
  have a2_ := a_.2.1
  rw [e_ _ (by omega)]
  exact c_ q_
/-- another literal's way_ stays -/
theorem wo3_cg {F_ n_ : Int} {ll_ l_ m_ : Nat} {S_ S'_ : sm_S} (h_ : wo3 F_ n_ ll_ S_ l_) (g_ : wfl m_ S_ S'_) (ne_ : l_ ≠ m_) (hm_ : 2 * n_ ≤ (m_ : Int)) (e5_ : S'_.1 5 ll_ 2 = S_.1 5 ll_ 2) (e55_ : S'_.2.2.1 55 (0 + ll_) = S_.2.2.1 55 (0 + ll_)) (e59_ : S'_.2.2.1 59 0 = S_.2.2.1 59 0) (e60_ : S'_.2.2.1 60 0 = S_.2.2.1 60 0) (c55_ : ∀ k_, S_.2.2.1 55 (0 + ll_) k_ ≤ 3) : wo3 F_ n_ ll_ S'_ l_ := by
  unfold wo3
  rw [(g_.1 l_ ne_).1, (g_.1 l_ ne_).2.1, (g_.1 l_ ne_).2.2, e5_, e55_, e59_, e60_]
  rcases h_ with h_ | h_
  · exact Or.inl h_
  · refine Or.inr ⟨h_.1, h_.2.1, fun k_ hk_ => ?_⟩
    have w_ := c55_ (S_.2.2.1 62 0 l_).toNat
    rw [g_.2 (3 * l_ + k_) (by omega)]
    exact wpt_cg (h_.2.2 k_ hk_) (by omega) (fun j_ hj_ => (g_.1 j_ (by omega)).1)
/-! Mapper.offer -/
def vw_108 : sx_Wl := ([], [61, 62, 63, 64], [])
def vq_108 (a1_ : Int) (a2_ : Int) (a3_ : Int) (a4_ : Int) (dd_ : Nat) (ll_ : Nat) (n9_ : Int) (S0_ : sm_S) (u_ : Option sm_V) (S1_ : sm_S) : Prop := u_ = none ∧ gi S1_ ∧ ai_fr (sx_W vw_108) S0_ S1_ ∧ (wo3 (1 + S0_.1 3 dd_ 1 + S0_.1 3 dd_ 2) n9_ ll_ S1_ a1_.toNat ∧ wfl a1_.toNat S0_ S1_)
set_option maxHeartbeats 3000000 in
set_option maxRecDepth 20000 in
theorem vl_108 {sc_ : Nat × (Nat → Int)} (a1_ : Int) (a2_ : Int) (a3_ : Int) (a4_ : Int) (dd_ : Nat) (ll_ : Nat) (n9_ : Int) (S0_ : sm_S) (hd_ : S0_.2.1 6 0 0 = some dd_) (hc_ : S0_.2.1 6 0 1 = some ll_) (h1_ : (a1_ = 2 * n9_ ∨ a1_ = 2 * n9_ + 1) ∧ 1 ≤ n9_ ∧ n9_ ≤ 1012) (h2_ : 0 ≤ a2_ ∧ a2_ ≤ 11) (h3_ : 0 ≤ a3_ ∧ a3_ < S0_.1 6 0 11) (his_ : ((S0_.2.2.1 55 (0 + ll_) a2_.toNat) = 2 ∧ 0 ≤ a4_ ∧ a4_ < 8) ∨ ((S0_.2.2.1 55 (0 + ll_) a2_.toNat) = 3 ∧ 0 ≤ a4_ ∧ a4_ < 48 ∧ S0_.2.2.1 65 0 (3 * a3_ + 2).toNat ≠ -1)) (hcs_ : mcs (npd n9_ (S0_.2.2.1 59 0)) S0_) (hw_ : wo3 (1 + S0_.1 3 dd_ 1 + S0_.1 3 dd_ 2) n9_ ll_ S0_ a1_.toNat) : ∀ nn_ : Nat, (∀ (is_ : Int) (co_ : Int) (k_ : Int) (S_ : sm_S), gi S_ → ai_fr (sx_W vw_108) S0_ S_ → ((is_ = (S0_.2.2.1 55 (0 + ll_) a2_.toNat) ∧ 0 ≤ co_ ∧ co_ ≤ 268435456 ∧ 0 ≤ k_ ∧ k_ ≤ is_) ∧ (S_ = S0_) ∧ (co_ < 268435456 → ∀ j_ : Nat, (j_ : Int) < k_ → wpt (1 + S0_.1 3 dd_ 1 + S0_.1 3 dd_ 2) n9_ (S0_.1 5 ll_ 2) (S0_.2.2.1 59 0) (S0_.2.2.1 60 0) (S0_.2.2.1 61 0) (S0_.2.2.1 65 0 (3 * a3_ + plo (S0_.2.2.1 55 (0 + ll_) a2_.toNat) (i_shr a4_ (S0_.2.2.1 55 (0 + ll_) a2_.toNat)) (j_ : Int)).toNat) (i_shr a4_ (j_ : Int) % 2)) ∧ True) → ((1000 - k_).toNat) < nn_ → sm_T (mt_P sc_) 2 108 (25, [some (.inr (.inr (some (6, 0)))), some (.inl a1_), some (.inl a2_), some (.inl a3_), some (.inl a4_), some (.inl is_), some (.inl co_), some (.inl k_), none, none], [], S_) (fun ro9_ => ∃ u_ S1_, ro9_ = (.inl u_, S1_, 0) ∧ vq_108 a1_ a2_ a3_ a4_ dd_ ll_ n9_ S0_ u_ S1_)) ∧ (∀ (is_ : Int) (co_ : Int) (k_ : Int) (S_ : sm_S), gi S_ → ai_fr (sx_W vw_108) S0_ S_ → ((is_ = (S0_.2.2.1 55 (0 + ll_) a2_.toNat) ∧ 0 ≤ k_ ∧ k_ ≤ is_ ∧ 0 ≤ co_ ∧ co_ < 268435456) ∧ (∀ j_ : Nat, (j_ : Int) < is_ → wpt (1 + S0_.1 3 dd_ 1 + S0_.1 3 dd_ 2) n9_ (S0_.1 5 ll_ 2) (S0_.2.2.1 59 0) (S0_.2.2.1 60 0) (S0_.2.2.1 61 0) (S0_.2.2.1 65 0 (3 * a3_ + plo (S0_.2.2.1 55 (0 + ll_) a2_.toNat) (i_shr a4_ (S0_.2.2.1 55 (0 + ll_) a2_.toNat)) (j_ : Int)).toNat) (i_shr a4_ (j_ : Int) % 2)) ∧ (S_.2.2.1 61 0 a1_.toNat = co_ ∧ S_.2.2.1 62 0 a1_.toNat = a2_ ∧ S_.2.2.1 63 0 a1_.toNat = i_and a4_ (i_shl 1 is_ - 1)) ∧ (wfl a1_.toNat S0_ S_) ∧ (∀ j_ : Nat, (j_ : Int) < k_ → S_.2.2.1 64 0 (3 * a1_.toNat + j_) = (S0_.2.2.1 65 0 (3 * a3_ + plo (S0_.2.2.1 55 (0 + ll_) a2_.toNat) (i_shr a4_ (S0_.2.2.1 55 (0 + ll_) a2_.toNat)) (j_ : Int)).toNat)) ∧ True) → ((100 - k_).toNat) < nn_ → sm_T (mt_P sc_) 2 108 (193, [some (.inr (.inr (some (6, 0)))), some (.inl a1_), some (.inl a2_), some (.inl a3_), some (.inl a4_), some (.inl is_), some (.inl co_), some (.inl k_), none, none], [], S_) (fun ro9_ => ∃ u_ S1_, ro9_ = (.inl u_, S1_, 0) ∧ vq_108 a1_ a2_ a3_ a4_ dd_ ll_ n9_ S0_ u_ S1_)) := by
  intro nn_
  induction nn_ with
  | zero => exact ⟨fun _ _ _ _ _ _ _ h_ => absurd h_ (Nat.not_lt_zero _), fun _ _ _ _ _ _ _ h_ => absurd h_ (Nat.not_lt_zero _)⟩
  | succ nn_ ih_ =>
    refine ⟨?_, ?_⟩
    · rintro is_ co_ k_ S_ hI_ hF_ ⟨h0_, hS_, hp_, -⟩ hm_
      have f55_ : S_.2.2.1 55 (0 + ll_) = S0_.2.2.1 55 (0 + ll_) := fr_arr hF_ rfl
      have f65_ : S_.2.2.1 65 0 = S0_.2.2.1 65 0 := fr_arr hF_ rfl
      have f60_ : S_.2.2.1 60 0 = S0_.2.2.1 60 0 := fr_arr hF_ rfl
      have f1_ : S_.1 3 dd_ 1 = S0_.1 3 dd_ 1 := hF_.1 3 dd_ 1 rfl
      have f2_ : S_.1 3 dd_ 2 = S0_.1 3 dd_ 2 := hF_.1 3 dd_ 2 rfl
      have f5_ : S_.1 5 ll_ 2 = S0_.1 5 ll_ 2 := hF_.1 5 ll_ 2 rfl
      have ck_ : 0 ≤ S_.1 6 0 11 ∧ S_.1 6 0 11 ≤ 1024 := hI_.1 6 0 11 rfl
      have ek_ : S_.1 6 0 11 = S0_.1 6 0 11 := by rw [hS_]
      refine sm_T_go 2 (c1 := (29, [some (.inr (.inr (some (6, 0)))), some (.inl a1_), some (.inl a2_), some (.inl a3_), some (.inl a4_), some (.inl is_), some (.inl co_), some (.inl k_), none, none], [.inl is_, .inl k_], S_)) rfl ?_
      refine sm_T_br (a := 3) (z := 120) rfl (fun cx1_ => ?_) (fun cx1_ => ?_)
      · have cx1_ : is_ ≤ k_ := of_decide_eq_true cx1_
        refine sm_T_go 4 (c1 := (156, [some (.inr (.inr (some (6, 0)))), some (.inl a1_), some (.inl a2_), some (.inl a3_), some (.inl a4_), some (.inl is_), some (.inl co_), some (.inl k_), none, none], [.inl a1_, .inr (.inr (some (61, 0))), .inl co_], S_)) rfl ?_
        refine sm_T_iald (n := 2026) rfl rfl (by omega) (by omega) ?_
        have bx2_ : 0 ≤ S_.2.2.1 61 0 a1_.toNat ∧ S_.2.2.1 61 0 a1_.toNat ≤ 268435456 := hI_.2 61 0 _
        refine sm_T_br (a := 3) (z := 81) rfl (fun cx3_ => ?_) (fun cx3_ => ?_)
        · have cx3_ : (S_.2.2.1 61 0 a1_.toNat) ≤ co_ := of_decide_eq_true cx3_
          refine sm_T_rv rfl ⟨_, _, rfl, rfl, hI_, hF_, ?_⟩
          first | exact ⟨by (rw [hS_]; exact hw_), by (rw [hS_]; exact wfl_rf)⟩ | (refine ⟨Or.inr ⟨by rw [hv_.2.1]; exact h2_.1, by rw [hv_.1]; exact h0_.2.2.2.2, fun j_ hj_ => ?_⟩, hf_⟩; rw [hv_.2.1, f55_, ← h0_.1] at hj_; rw [f5_, fr_arr (t := 59) (i := 0) hF_ rfl, f60_, hn_ j_ (by omega), hv_.2.2, tbit (by omega) (by omega) (by omega)]; exact wpt_cg (hp_ j_ hj_) (by omega) (fun q9_ w9_ => (hf_.1 q9_ (by omega)).1))
        · have cx3_ : ¬ ((S_.2.2.1 61 0 a1_.toNat) ≤ co_) := of_decide_eq_false cx3_
          refine sm_T_go 4 (c1 := (167, [some (.inr (.inr (some (6, 0)))), some (.inl a1_), some (.inl a2_), some (.inl a3_), some (.inl a4_), some (.inl is_), some (.inl co_), some (.inl k_), none, none], [.inl co_, .inl a1_, .inr (.inr (some (61, 0)))], S_)) rfl ?_
          refine sm_T_iast (n := 2026) rfl rfl (by omega) (by omega) ?_
          have hIx4_ : gi (sm_aI S_ 61 0 a1_.toNat co_) := gi_aI hI_ (show 0 ≤ co_ ∧ co_ ≤ 268435456 from ⟨by omega, by omega⟩)
          have hFx5_ : ai_fr (sx_W vw_108) S0_ (sm_aI S_ 61 0 a1_.toNat co_) := ai_fr_tr hF_ (ai_fr_aI rfl)
          refine sm_T_go 4 (c1 := (174, [some (.inr (.inr (some (6, 0)))), some (.inl a1_), some (.inl a2_), some (.inl a3_), some (.inl a4_), some (.inl is_), some (.inl co_), some (.inl k_), none, none], [.inl a2_, .inl a1_, .inr (.inr (some (62, 0)))], sm_aI S_ 61 0 a1_.toNat co_)) rfl ?_
          refine sm_T_iast (n := 2026) rfl rfl (by omega) (by omega) ?_
          have hIx6_ : gi (sm_aI (sm_aI S_ 61 0 a1_.toNat co_) 62 0 a1_.toNat a2_) := gi_aI hIx4_ (show (-2) ≤ a2_ ∧ a2_ ≤ 11 from ⟨by omega, by omega⟩)
          have hFx7_ : ai_fr (sx_W vw_108) S0_ (sm_aI (sm_aI S_ 61 0 a1_.toNat co_) 62 0 a1_.toNat a2_) := ai_fr_tr hFx5_ (ai_fr_aI rfl)
          refine sm_T_go 6 (c1 := (185, [some (.inr (.inr (some (6, 0)))), some (.inl a1_), some (.inl a2_), some (.inl a3_), some (.inl a4_), some (.inl is_), some (.inl co_), some (.inl k_), none, none], [.inl is_, .inl 1, .inl a4_, .inl a1_, .inr (.inr (some (63, 0)))], sm_aI (sm_aI S_ 61 0 a1_.toNat co_) 62 0 a1_.toNat a2_)) rfl ?_
          refine sm_T_bin (w := (i_shl 1 is_)) rfl rfl ?_ -- pc_ 185
          have vp8_ := vpw (e_ := is_) (by omega)
          refine sm_T_go 1 (c1 := (187, [some (.inr (.inr (some (6, 0)))), some (.inl a1_), some (.inl a2_), some (.inl a3_), some (.inl a4_), some (.inl is_), some (.inl co_), some (.inl k_), none, none], [.inl 1, .inl (i_shl 1 is_), .inl a4_, .inl a1_, .inr (.inr (some (63, 0)))], sm_aI (sm_aI S_ 61 0 a1_.toNat co_) 62 0 a1_.toNat a2_)) rfl ?_
          refine sm_T_bin (w := (i_shl 1 is_) - 1) rfl (bi_sub (by omega) (by omega) (by omega)) ?_ -- pc_ 187
          refine sm_T_bin (w := (i_and a4_ ((i_shl 1 is_) - 1))) rfl rfl ?_ -- pc_ 188
          have bx9_ := i_and_y a4_ (y_ := ((i_shl 1 is_) - 1)) (by omega)
          refine sm_T_iast (n := 2026) rfl rfl (by omega) (by omega) ?_
          have hIx10_ : gi (sm_aI (sm_aI (sm_aI S_ 61 0 a1_.toNat co_) 62 0 a1_.toNat a2_) 63 0 a1_.toNat (i_and a4_ ((i_shl 1 is_) - 1))) := gi_aI hIx6_ (show 0 ≤ (i_and a4_ ((i_shl 1 is_) - 1)) ∧ (i_and a4_ ((i_shl 1 is_) - 1)) ≤ 15 from ⟨by omega, by omega⟩)
          have hFx11_ : ai_fr (sx_W vw_108) S0_ (sm_aI (sm_aI (sm_aI S_ 61 0 a1_.toNat co_) 62 0 a1_.toNat a2_) 63 0 a1_.toNat (i_and a4_ ((i_shl 1 is_) - 1))) := ai_fr_tr hFx7_ (ai_fr_aI rfl)
          refine sm_T_go 2 (c1 := (193, [some (.inr (.inr (some (6, 0)))), some (.inl a1_), some (.inl a2_), some (.inl a3_), some (.inl a4_), some (.inl is_), some (.inl co_), some (.inl 0), none, none], [], sm_aI (sm_aI (sm_aI S_ 61 0 a1_.toNat co_) 62 0 a1_.toNat a2_) 63 0 a1_.toNat (i_and a4_ ((i_shl 1 is_) - 1)))) rfl ?_
          refine ih_.2 is_ co_ 0 (sm_aI (sm_aI (sm_aI S_ 61 0 a1_.toNat co_) 62 0 a1_.toNat a2_) 63 0 a1_.toNat (i_and a4_ ((i_shl 1 is_) - 1))) hIx10_ hFx11_ ⟨?_, ?_, ?_, ?_, ?_, trivial⟩ ?_
          · omega
          · (intro j_ hj_; exact hp_ (by omega) j_ (by omega))
          · (rw [rd_ne (by decide), rd_ne (by decide), rd_eq, if_pos rfl, rd_ne (by decide), rd_eq, if_pos rfl, rd_eq, if_pos rfl]; exact ⟨rfl, rfl, rfl⟩)
          · refine ⟨fun j_ hj_ => ?_, fun j_ hj_ => ?_⟩
            · rw [hS_, rd_ne (by decide), rd_ne (by decide), rd_eq, if_neg hj_, rd_ne (by decide), rd_eq, if_neg hj_, rd_ne (by decide), rd_eq, if_neg hj_, rd_ne (by decide), rd_ne (by decide)]; exact ⟨rfl, rfl, rfl⟩
            · rw [hS_, rd_ne (by decide), rd_ne (by decide), rd_ne (by decide)]
          · (intro j_ hj_; exfalso; omega)
          · omega
      · have cx1_ : ¬ (is_ ≤ k_) := of_decide_eq_false cx1_
        refine sm_T_go 4 (c1 := (38, [some (.inr (.inr (some (6, 0)))), some (.inl a1_), some (.inl a2_), some (.inl a3_), some (.inl a4_), some (.inl is_), some (.inl co_), some (.inl k_), none, none], [.inl a3_, .inl 3, .inr (.inr (some (65, 0)))], S_)) rfl ?_
        refine sm_T_bin (w := 3 * a3_) rfl (bi_mul (by omega) (by omega) (by omega)) ?_ -- pc_ 38
        refine sm_T_go 3 (c1 := (45, [some (.inr (.inr (some (6, 0)))), some (.inl a1_), some (.inl a2_), some (.inl a3_), some (.inl a4_), some (.inl is_), some (.inl co_), some (.inl k_), none, none], [.inl is_, .inl a4_, .inl is_, .inl (3 * a3_), .inr (.inr (some (65, 0)))], S_)) rfl ?_
        refine sm_T_bin (w := (i_shr a4_ is_)) rfl rfl ?_ -- pc_ 45
        have vo9_ := vor (v_ := a4_) (e_ := is_) (by omega) (by omega)
        refine sm_T_go 1 (c1 := (48, [some (.inr (.inr (some (6, 0)))), some (.inl a1_), some (.inl a2_), some (.inl a3_), some (.inl a4_), some (.inl is_), some (.inl co_), some (.inl k_), none, none], [.inl k_, .inl (i_shr a4_ is_), .inl is_, .inl (3 * a3_), .inr (.inr (some (65, 0)))], S_)) rfl ?_
        refine sm_T_cal (d1 := 0) (Q1 := vq_98 is_ (i_shr a4_ is_) k_ S_) rfl rfl (by decide) (vc_98 is_ (i_shr a4_ is_) k_ S_ hI_ (by omega)) (fun u_ Sx13_ px16_ => ?_)
        obtain ⟨rfl, vx18_, rfl, px16_⟩ := px16_
        have p48_ := px16_.1
        have q48_ : vx18_ = plo (S0_.2.2.1 55 (0 + ll_) a2_.toNat) (i_shr a4_ (S0_.2.2.1 55 (0 + ll_) a2_.toNat)) k_ := by (have z9_ := px16_.2; rw [h0_.1] at z9_; exact z9_)
        have nx9_ : npd n9_ (S0_.2.2.1 59 0) (S0_.2.2.1 65 0 (3 * a3_ + vx18_).toNat) := mcs_b hcs_ h3_ (by omega) (fun u9_ => by rcases his_ with w9_ | w9_; (exfalso; omega); exact w9_.2.2.2)
        have nx1_ := nx9_.1
        have nx2_ := nx9_.2.1
        have nx0_ : S_.2.2.1 65 0 (3 * a3_ + vx18_).toNat = S0_.2.2.1 65 0 (3 * a3_ + vx18_).toNat := by rw [f65_]
        have xk9_ : S0_.2.2.1 65 0 (3 * a3_ + vx18_).toNat = (S0_.2.2.1 65 0 (3 * a3_ + plo (S0_.2.2.1 55 (0 + ll_) a2_.toNat) (i_shr a4_ (S0_.2.2.1 55 (0 + ll_) a2_.toNat)) k_).toNat) := by rw [q48_]
        refine sm_T_bin (w := 3 * a3_ + vx18_) rfl (bi_add (by omega) (by omega) (by omega)) ?_ -- pc_ 51
        refine sm_T_iald (n := 3072) rfl rfl (by omega) (by omega) ?_
        have bx19_ : (-1) ≤ S_.2.2.1 65 0 (3 * a3_ + vx18_).toNat ∧ S_.2.2.1 65 0 (3 * a3_ + vx18_).toNat ≤ 1012 := hI_.2 65 0 _
        refine sm_T_go 3 (c1 := (59, [some (.inr (.inr (some (6, 0)))), some (.inl a1_), some (.inl a2_), some (.inl a3_), some (.inl a4_), some (.inl is_), some (.inl co_), some (.inl k_), some (.inl (S_.2.2.1 65 0 (3 * a3_ + vx18_).toNat)), none], [.inl k_, .inl a4_], S_)) rfl ?_
        refine sm_T_bin (w := (i_shr a4_ k_)) rfl rfl ?_ -- pc_ 59
        first | have bx20_ := i_shr_p (x_ := a4_) (e_ := k_) (by omega) (by omega) (by omega) | have bx20_ := i_shr_n a4_ k_
        refine sm_T_go 1 (c1 := (61, [some (.inr (.inr (some (6, 0)))), some (.inl a1_), some (.inl a2_), some (.inl a3_), some (.inl a4_), some (.inl is_), some (.inl co_), some (.inl k_), some (.inl (S_.2.2.1 65 0 (3 * a3_ + vx18_).toNat)), none], [.inl 1, .inl (i_shr a4_ k_)], S_)) rfl ?_
        refine sm_T_bin (w := ((i_shr a4_ k_) % 2)) rfl (bi_msk (k := 1) (by decide)) ?_ -- pc_ 61
        refine sm_T_go 3 (c1 := (67, [some (.inr (.inr (some (6, 0)))), some (.inl a1_), some (.inl a2_), some (.inl a3_), some (.inl a4_), some (.inl is_), some (.inl co_), some (.inl k_), some (.inl (S_.2.2.1 65 0 (3 * a3_ + vx18_).toNat)), some (.inl ((i_shr a4_ k_) % 2))], [.inl (S_.2.2.1 65 0 (3 * a3_ + vx18_).toNat), .inr (.inr (some (6, 0)))], S_)) rfl ?_
        refine sm_T_cal (d1 := 1) (Q1 := vq_94 (S_.2.2.1 65 0 (3 * a3_ + vx18_).toNat) dd_ S_) rfl rfl (by decide) (vc_94 (S_.2.2.1 65 0 (3 * a3_ + vx18_).toNat) dd_ S_ hI_ (by exact (hF_.2.1 6 0 0 rfl).trans hd_) (by omega)) (fun u_ Sx21_ px24_ => ?_)
        obtain ⟨rfl, vx26_, rfl, px24_⟩ := px24_
        have lf9_ := px24_
        rw [f1_, f2_, f60_] at lf9_
        refine sm_T_b0 (a := 1) (z := 23) rfl (fun cx27_ => ?_) (fun cx27_ => ?_)
        · have cx27_ : vx26_ ≠ 0 := of_decide_eq_true cx27_
          refine sm_T_go 1 (c1 := (95, [some (.inr (.inr (some (6, 0)))), some (.inl a1_), some (.inl a2_), some (.inl a3_), some (.inl a4_), some (.inl is_), some (.inl co_), some (.inl k_), some (.inl (S_.2.2.1 65 0 (3 * a3_ + vx18_).toNat)), some (.inl ((i_shr a4_ k_) % 2))], [.inl ((i_shr a4_ k_) % 2)], S_)) rfl ?_
          refine sm_T_b0 (a := 0) (z := 39) rfl (fun cx28_ => ?_) (fun cx28_ => ?_)
          · have cx28_ : ((i_shr a4_ k_) % 2) = 0 := of_decide_eq_true cx28_
            refine sm_T_go 1 (c1 := (136, [some (.inr (.inr (some (6, 0)))), some (.inl a1_), some (.inl a2_), some (.inl a3_), some (.inl a4_), some (.inl is_), some (.inl co_), some (.inl k_), some (.inl (S_.2.2.1 65 0 (3 * a3_ + vx18_).toNat)), some (.inl ((i_shr a4_ k_) % 2))], [.inl co_], S_)) rfl ?_
            refine sm_T_nt (u := some (.inl 268435456)) (S1 := S_) rfl rfl rfl ?_
            refine sm_T_nt (u := some (.inl (sm_mn co_ 268435456))) (S1 := S_) rfl rfl rfl ?_
            have bx29_ := sm_mn_d co_ 268435456
            refine sm_T_go 1 (c1 := (143, [some (.inr (.inr (some (6, 0)))), some (.inl a1_), some (.inl a2_), some (.inl a3_), some (.inl a4_), some (.inl is_), some (.inl (sm_mn co_ 268435456)), some (.inl k_), some (.inl (S_.2.2.1 65 0 (3 * a3_ + vx18_).toNat)), some (.inl ((i_shr a4_ k_) % 2))], [], S_)) rfl ?_
            refine sm_T_inc (a := 7) (z := 1) (v := k_) (w := k_ + 1) rfl rfl (by omega) (by omega) (by omega) ?_ -- pc_ 143
            refine sm_T_go 1 (c1 := (25, [some (.inr (.inr (some (6, 0)))), some (.inl a1_), some (.inl a2_), some (.inl a3_), some (.inl a4_), some (.inl is_), some (.inl (sm_mn co_ 268435456)), some (.inl (k_ + 1)), some (.inl (S_.2.2.1 65 0 (3 * a3_ + vx18_).toNat)), some (.inl ((i_shr a4_ k_) % 2))], [], S_)) rfl ?_
            refine sm_T_wk [some (.inr (.inr (some (6, 0)))), some (.inl a1_), some (.inl a2_), some (.inl a3_), some (.inl a4_), some (.inl is_), some (.inl (sm_mn co_ 268435456)), some (.inl (k_ + 1)), none, none] (by exact ⟨rfl, rfl, rfl, rfl, rfl, rfl, rfl, rfl, trivial⟩) ?_
            refine ih_.1 is_ (sm_mn co_ 268435456) (k_ + 1) S_ hI_ hF_ ⟨?_, ?_, ?_, trivial⟩ ?_
            · omega
            · exact hS_
            · intro lt9_ j_ hj_
              by_cases y9_ : (j_ : Int) = k_
              · rw [y9_, ← xk9_]
                have lf8_ := lf9_
                rw [nx0_] at lf8_
                refine ⟨nx9_, fun q9_ => ?_, fun q9_ => ?_⟩
                · have q8_ := q9_.1; have q7_ := q9_.2; simp only [hS_] at *; omega
                · have q8_ := q9_.1; have q7_ := q9_.2; simp only [hS_] at *; first | omega | (exfalso; omega)
              · exact hp_ (by simp only [hS_] at *; omega) j_ (by omega)
            · omega
          · have cx28_ : ¬ (((i_shr a4_ k_) % 2) = 0) := of_decide_eq_false cx28_
            refine sm_T_go 2 (c1 := (101, [some (.inr (.inr (some (6, 0)))), some (.inl a1_), some (.inl a2_), some (.inl a3_), some (.inl a4_), some (.inl is_), some (.inl co_), some (.inl k_), some (.inl (S_.2.2.1 65 0 (3 * a3_ + vx18_).toNat)), some (.inl ((i_shr a4_ k_) % 2))], [.inr (.inr (some (6, 0))), .inl co_], S_)) rfl ?_
            refine sm_T_gr rfl rfl ((hF_.2.1 6 0 1 rfl).trans hc_) ?_
            have bx30_ : (-1) ≤ S_.1 5 ll_ 2 ∧ S_.1 5 ll_ 2 ≤ 11 := hI_.1 5 ll_ 2 rfl
            refine sm_T_go 2 (c1 := (108, [some (.inr (.inr (some (6, 0)))), some (.inl a1_), some (.inl a2_), some (.inl a3_), some (.inl a4_), some (.inl is_), some (.inl co_), some (.inl k_), some (.inl (S_.2.2.1 65 0 (3 * a3_ + vx18_).toNat)), some (.inl ((i_shr a4_ k_) % 2))], [.inl (-1), .inl (S_.1 5 ll_ 2), .inl co_], S_)) rfl ?_
            refine sm_T_br (a := 1) (z := 8) rfl (fun cx31_ => ?_) (fun cx31_ => ?_)
            · have cx31_ : (S_.1 5 ll_ 2) ≠ (-1) := of_decide_eq_true cx31_
              refine sm_T_go 1 (c1 := (117, [some (.inr (.inr (some (6, 0)))), some (.inl a1_), some (.inl a2_), some (.inl a3_), some (.inl a4_), some (.inl is_), some (.inl co_), some (.inl k_), some (.inl (S_.2.2.1 65 0 (3 * a3_ + vx18_).toNat)), some (.inl ((i_shr a4_ k_) % 2))], [.inr (.inr (some (6, 0))), .inl co_], S_)) rfl ?_
              refine sm_T_gr rfl rfl ((hF_.2.1 6 0 1 rfl).trans hc_) ?_
              refine sm_T_go 2 (c1 := (124, [some (.inr (.inr (some (6, 0)))), some (.inl a1_), some (.inl a2_), some (.inl a3_), some (.inl a4_), some (.inl is_), some (.inl co_), some (.inl k_), some (.inl (S_.2.2.1 65 0 (3 * a3_ + vx18_).toNat)), some (.inl ((i_shr a4_ k_) % 2))], [.inr (.inr (some (6, 0))), .inr (.inr (some (57, (0 + ll_)))), .inl co_], S_)) rfl ?_
              refine sm_T_gr rfl rfl ((hF_.2.1 6 0 1 rfl).trans hc_) ?_
              refine sm_T_go 1 (c1 := (130, [some (.inr (.inr (some (6, 0)))), some (.inl a1_), some (.inl a2_), some (.inl a3_), some (.inl a4_), some (.inl is_), some (.inl co_), some (.inl k_), some (.inl (S_.2.2.1 65 0 (3 * a3_ + vx18_).toNat)), some (.inl ((i_shr a4_ k_) % 2))], [.inl (S_.1 5 ll_ 2), .inr (.inr (some (57, (0 + ll_)))), .inl co_], S_)) rfl ?_
              refine sm_T_iald (n := 12) rfl rfl (by omega) (by omega) ?_
              have bx32_ : 0 ≤ S_.2.2.1 57 (0 + ll_) (S_.1 5 ll_ 2).toNat ∧ S_.2.2.1 57 (0 + ll_) (S_.1 5 ll_ 2).toNat ≤ 1000 := hI_.2 57 (0 + ll_) _
              refine sm_T_bin (w := co_ + (S_.2.2.1 57 (0 + ll_) (S_.1 5 ll_ 2).toNat)) rfl (bi_add (by omega) (by omega) (by omega)) ?_ -- pc_ 131
              refine sm_T_go 2 (c1 := (136, [some (.inr (.inr (some (6, 0)))), some (.inl a1_), some (.inl a2_), some (.inl a3_), some (.inl a4_), some (.inl is_), some (.inl (co_ + (S_.2.2.1 57 (0 + ll_) (S_.1 5 ll_ 2).toNat))), some (.inl k_), some (.inl (S_.2.2.1 65 0 (3 * a3_ + vx18_).toNat)), some (.inl ((i_shr a4_ k_) % 2))], [.inl (co_ + (S_.2.2.1 57 (0 + ll_) (S_.1 5 ll_ 2).toNat))], S_)) rfl ?_
              refine sm_T_nt (u := some (.inl 268435456)) (S1 := S_) rfl rfl rfl ?_
              refine sm_T_nt (u := some (.inl (sm_mn (co_ + (S_.2.2.1 57 (0 + ll_) (S_.1 5 ll_ 2).toNat)) 268435456))) (S1 := S_) rfl rfl rfl ?_
              have bx33_ := sm_mn_d (co_ + (S_.2.2.1 57 (0 + ll_) (S_.1 5 ll_ 2).toNat)) 268435456
              refine sm_T_go 1 (c1 := (143, [some (.inr (.inr (some (6, 0)))), some (.inl a1_), some (.inl a2_), some (.inl a3_), some (.inl a4_), some (.inl is_), some (.inl (sm_mn (co_ + (S_.2.2.1 57 (0 + ll_) (S_.1 5 ll_ 2).toNat)) 268435456)), some (.inl k_), some (.inl (S_.2.2.1 65 0 (3 * a3_ + vx18_).toNat)), some (.inl ((i_shr a4_ k_) % 2))], [], S_)) rfl ?_
              refine sm_T_inc (a := 7) (z := 1) (v := k_) (w := k_ + 1) rfl rfl (by omega) (by omega) (by omega) ?_ -- pc_ 143
              refine sm_T_go 1 (c1 := (25, [some (.inr (.inr (some (6, 0)))), some (.inl a1_), some (.inl a2_), some (.inl a3_), some (.inl a4_), some (.inl is_), some (.inl (sm_mn (co_ + (S_.2.2.1 57 (0 + ll_) (S_.1 5 ll_ 2).toNat)) 268435456)), some (.inl (k_ + 1)), some (.inl (S_.2.2.1 65 0 (3 * a3_ + vx18_).toNat)), some (.inl ((i_shr a4_ k_) % 2))], [], S_)) rfl ?_
              refine sm_T_wk [some (.inr (.inr (some (6, 0)))), some (.inl a1_), some (.inl a2_), some (.inl a3_), some (.inl a4_), some (.inl is_), some (.inl (sm_mn (co_ + (S_.2.2.1 57 (0 + ll_) (S_.1 5 ll_ 2).toNat)) 268435456)), some (.inl (k_ + 1)), none, none] (by exact ⟨rfl, rfl, rfl, rfl, rfl, rfl, rfl, rfl, trivial⟩) ?_
              refine ih_.1 is_ (sm_mn (co_ + (S_.2.2.1 57 (0 + ll_) (S_.1 5 ll_ 2).toNat)) 268435456) (k_ + 1) S_ hI_ hF_ ⟨?_, ?_, ?_, trivial⟩ ?_
              · omega
              · exact hS_
              · intro lt9_ j_ hj_
                by_cases y9_ : (j_ : Int) = k_
                · rw [y9_, ← xk9_]
                  have lf8_ := lf9_
                  rw [nx0_] at lf8_
                  refine ⟨nx9_, fun q9_ => ?_, fun q9_ => ?_⟩
                  · have q8_ := q9_.1; have q7_ := q9_.2; simp only [hS_] at *; omega
                  · have q8_ := q9_.1; have q7_ := q9_.2; simp only [hS_] at *; first | omega | (exfalso; omega)
                · exact hp_ (by simp only [hS_] at *; omega) j_ (by omega)
              · omega
            · have cx31_ : ¬ ((S_.1 5 ll_ 2) ≠ (-1)) := of_decide_eq_false cx31_
              refine sm_T_nt (u := some (.inl 268435456)) (S1 := S_) rfl rfl rfl ?_
              refine sm_T_go 1 (c1 := (131, [some (.inr (.inr (some (6, 0)))), some (.inl a1_), some (.inl a2_), some (.inl a3_), some (.inl a4_), some (.inl is_), some (.inl co_), some (.inl k_), some (.inl (S_.2.2.1 65 0 (3 * a3_ + vx18_).toNat)), some (.inl ((i_shr a4_ k_) % 2))], [.inl 268435456, .inl co_], S_)) rfl ?_
              refine sm_T_bin (w := co_ + 268435456) rfl (bi_add (by omega) (by omega) (by omega)) ?_ -- pc_ 131
              refine sm_T_go 2 (c1 := (136, [some (.inr (.inr (some (6, 0)))), some (.inl a1_), some (.inl a2_), some (.inl a3_), some (.inl a4_), some (.inl is_), some (.inl (co_ + 268435456)), some (.inl k_), some (.inl (S_.2.2.1 65 0 (3 * a3_ + vx18_).toNat)), some (.inl ((i_shr a4_ k_) % 2))], [.inl (co_ + 268435456)], S_)) rfl ?_
              refine sm_T_nt (u := some (.inl 268435456)) (S1 := S_) rfl rfl rfl ?_
              refine sm_T_nt (u := some (.inl (sm_mn (co_ + 268435456) 268435456))) (S1 := S_) rfl rfl rfl ?_
              have bx34_ := sm_mn_d (co_ + 268435456) 268435456
              refine sm_T_go 1 (c1 := (143, [some (.inr (.inr (some (6, 0)))), some (.inl a1_), some (.inl a2_), some (.inl a3_), some (.inl a4_), some (.inl is_), some (.inl (sm_mn (co_ + 268435456) 268435456)), some (.inl k_), some (.inl (S_.2.2.1 65 0 (3 * a3_ + vx18_).toNat)), some (.inl ((i_shr a4_ k_) % 2))], [], S_)) rfl ?_
              refine sm_T_inc (a := 7) (z := 1) (v := k_) (w := k_ + 1) rfl rfl (by omega) (by omega) (by omega) ?_ -- pc_ 143
              refine sm_T_go 1 (c1 := (25, [some (.inr (.inr (some (6, 0)))), some (.inl a1_), some (.inl a2_), some (.inl a3_), some (.inl a4_), some (.inl is_), some (.inl (sm_mn (co_ + 268435456) 268435456)), some (.inl (k_ + 1)), some (.inl (S_.2.2.1 65 0 (3 * a3_ + vx18_).toNat)), some (.inl ((i_shr a4_ k_) % 2))], [], S_)) rfl ?_
              refine sm_T_wk [some (.inr (.inr (some (6, 0)))), some (.inl a1_), some (.inl a2_), some (.inl a3_), some (.inl a4_), some (.inl is_), some (.inl (sm_mn (co_ + 268435456) 268435456)), some (.inl (k_ + 1)), none, none] (by exact ⟨rfl, rfl, rfl, rfl, rfl, rfl, rfl, rfl, trivial⟩) ?_
              refine ih_.1 is_ (sm_mn (co_ + 268435456) 268435456) (k_ + 1) S_ hI_ hF_ ⟨?_, ?_, ?_, trivial⟩ ?_
              · omega
              · exact hS_
              · intro lt9_ j_ hj_
                by_cases y9_ : (j_ : Int) = k_
                · rw [y9_, ← xk9_]
                  have lf8_ := lf9_
                  rw [nx0_] at lf8_
                  refine ⟨nx9_, fun q9_ => ?_, fun q9_ => ?_⟩
                  · have q8_ := q9_.1; have q7_ := q9_.2; simp only [hS_] at *; omega
                  · have q8_ := q9_.1; have q7_ := q9_.2; simp only [hS_] at *; first | omega | (exfalso; omega)
                · exact hp_ (by simp only [hS_] at *; omega) j_ (by omega)
              · omega
        · have cx27_ : ¬ (vx26_ ≠ 0) := of_decide_eq_false cx27_
          refine sm_T_go 5 (c1 := (82, [some (.inr (.inr (some (6, 0)))), some (.inl a1_), some (.inl a2_), some (.inl a3_), some (.inl a4_), some (.inl is_), some (.inl co_), some (.inl k_), some (.inl (S_.2.2.1 65 0 (3 * a3_ + vx18_).toNat)), some (.inl ((i_shr a4_ k_) % 2))], [.inl (S_.2.2.1 65 0 (3 * a3_ + vx18_).toNat), .inl 2, .inr (.inr (some (61, 0))), .inl co_], S_)) rfl ?_
          refine sm_T_bin (w := 2 * (S_.2.2.1 65 0 (3 * a3_ + vx18_).toNat)) rfl (bi_mul (by omega) (by omega) (by omega)) ?_ -- pc_ 82
          refine sm_T_go 1 (c1 := (85, [some (.inr (.inr (some (6, 0)))), some (.inl a1_), some (.inl a2_), some (.inl a3_), some (.inl a4_), some (.inl is_), some (.inl co_), some (.inl k_), some (.inl (S_.2.2.1 65 0 (3 * a3_ + vx18_).toNat)), some (.inl ((i_shr a4_ k_) % 2))], [.inl ((i_shr a4_ k_) % 2), .inl (2 * (S_.2.2.1 65 0 (3 * a3_ + vx18_).toNat)), .inr (.inr (some (61, 0))), .inl co_], S_)) rfl ?_
          refine sm_T_bin (w := 2 * (S_.2.2.1 65 0 (3 * a3_ + vx18_).toNat) + ((i_shr a4_ k_) % 2)) rfl (bi_add (by omega) (by omega) (by omega)) ?_ -- pc_ 85
          refine sm_T_iald (n := 2026) rfl rfl (by omega) (by omega) ?_
          have bx35_ : 0 ≤ S_.2.2.1 61 0 (2 * (S_.2.2.1 65 0 (3 * a3_ + vx18_).toNat) + ((i_shr a4_ k_) % 2)).toNat ∧ S_.2.2.1 61 0 (2 * (S_.2.2.1 65 0 (3 * a3_ + vx18_).toNat) + ((i_shr a4_ k_) % 2)).toNat ≤ 268435456 := hI_.2 61 0 _
          refine sm_T_bin (w := co_ + (S_.2.2.1 61 0 (2 * (S_.2.2.1 65 0 (3 * a3_ + vx18_).toNat) + ((i_shr a4_ k_) % 2)).toNat)) rfl (bi_add (by omega) (by omega) (by omega)) ?_ -- pc_ 87
          refine sm_T_go 3 (c1 := (136, [some (.inr (.inr (some (6, 0)))), some (.inl a1_), some (.inl a2_), some (.inl a3_), some (.inl a4_), some (.inl is_), some (.inl (co_ + (S_.2.2.1 61 0 (2 * (S_.2.2.1 65 0 (3 * a3_ + vx18_).toNat) + ((i_shr a4_ k_) % 2)).toNat))), some (.inl k_), some (.inl (S_.2.2.1 65 0 (3 * a3_ + vx18_).toNat)), some (.inl ((i_shr a4_ k_) % 2))], [.inl (co_ + (S_.2.2.1 61 0 (2 * (S_.2.2.1 65 0 (3 * a3_ + vx18_).toNat) + ((i_shr a4_ k_) % 2)).toNat))], S_)) rfl ?_
          refine sm_T_nt (u := some (.inl 268435456)) (S1 := S_) rfl rfl rfl ?_
          refine sm_T_nt (u := some (.inl (sm_mn (co_ + (S_.2.2.1 61 0 (2 * (S_.2.2.1 65 0 (3 * a3_ + vx18_).toNat) + ((i_shr a4_ k_) % 2)).toNat)) 268435456))) (S1 := S_) rfl rfl rfl ?_
          have bx36_ := sm_mn_d (co_ + (S_.2.2.1 61 0 (2 * (S_.2.2.1 65 0 (3 * a3_ + vx18_).toNat) + ((i_shr a4_ k_) % 2)).toNat)) 268435456
          refine sm_T_go 1 (c1 := (143, [some (.inr (.inr (some (6, 0)))), some (.inl a1_), some (.inl a2_), some (.inl a3_), some (.inl a4_), some (.inl is_), some (.inl (sm_mn (co_ + (S_.2.2.1 61 0 (2 * (S_.2.2.1 65 0 (3 * a3_ + vx18_).toNat) + ((i_shr a4_ k_) % 2)).toNat)) 268435456)), some (.inl k_), some (.inl (S_.2.2.1 65 0 (3 * a3_ + vx18_).toNat)), some (.inl ((i_shr a4_ k_) % 2))], [], S_)) rfl ?_
          refine sm_T_inc (a := 7) (z := 1) (v := k_) (w := k_ + 1) rfl rfl (by omega) (by omega) (by omega) ?_ -- pc_ 143
          refine sm_T_go 1 (c1 := (25, [some (.inr (.inr (some (6, 0)))), some (.inl a1_), some (.inl a2_), some (.inl a3_), some (.inl a4_), some (.inl is_), some (.inl (sm_mn (co_ + (S_.2.2.1 61 0 (2 * (S_.2.2.1 65 0 (3 * a3_ + vx18_).toNat) + ((i_shr a4_ k_) % 2)).toNat)) 268435456)), some (.inl (k_ + 1)), some (.inl (S_.2.2.1 65 0 (3 * a3_ + vx18_).toNat)), some (.inl ((i_shr a4_ k_) % 2))], [], S_)) rfl ?_
          refine sm_T_wk [some (.inr (.inr (some (6, 0)))), some (.inl a1_), some (.inl a2_), some (.inl a3_), some (.inl a4_), some (.inl is_), some (.inl (sm_mn (co_ + (S_.2.2.1 61 0 (2 * (S_.2.2.1 65 0 (3 * a3_ + vx18_).toNat) + ((i_shr a4_ k_) % 2)).toNat)) 268435456)), some (.inl (k_ + 1)), none, none] (by exact ⟨rfl, rfl, rfl, rfl, rfl, rfl, rfl, rfl, trivial⟩) ?_
          refine ih_.1 is_ (sm_mn (co_ + (S_.2.2.1 61 0 (2 * (S_.2.2.1 65 0 (3 * a3_ + vx18_).toNat) + ((i_shr a4_ k_) % 2)).toNat)) 268435456) (k_ + 1) S_ hI_ hF_ ⟨?_, ?_, ?_, trivial⟩ ?_
          · omega
          · exact hS_
          · intro lt9_ j_ hj_
            by_cases y9_ : (j_ : Int) = k_
            · rw [y9_, ← xk9_]
              have lf8_ := lf9_
              rw [nx0_] at lf8_
              refine ⟨nx9_, fun q9_ => ?_, fun q9_ => ?_⟩
              · have q8_ := q9_.1; have q7_ := q9_.2; simp only [hS_] at *; omega
              · have q8_ := q9_.1; have q7_ := q9_.2; simp only [hS_] at *; first | omega | (exfalso; omega)
            · exact hp_ (by simp only [hS_] at *; omega) j_ (by omega)
          · omega
    · rintro is_ co_ k_ S_ hI_ hF_ ⟨h0_, hp_, hv_, hf_, hn_, -⟩ hm_
      have f55_ : S_.2.2.1 55 (0 + ll_) = S0_.2.2.1 55 (0 + ll_) := fr_arr hF_ rfl
      have f65_ : S_.2.2.1 65 0 = S0_.2.2.1 65 0 := fr_arr hF_ rfl
      have f60_ : S_.2.2.1 60 0 = S0_.2.2.1 60 0 := fr_arr hF_ rfl
      have f1_ : S_.1 3 dd_ 1 = S0_.1 3 dd_ 1 := hF_.1 3 dd_ 1 rfl
      have f2_ : S_.1 3 dd_ 2 = S0_.1 3 dd_ 2 := hF_.1 3 dd_ 2 rfl
      have f5_ : S_.1 5 ll_ 2 = S0_.1 5 ll_ 2 := hF_.1 5 ll_ 2 rfl
      have ck_ : 0 ≤ S_.1 6 0 11 ∧ S_.1 6 0 11 ≤ 1024 := hI_.1 6 0 11 rfl
      have ek_ : S_.1 6 0 11 = S0_.1 6 0 11 := hF_.1 6 0 11 rfl
      refine sm_T_go 2 (c1 := (197, [some (.inr (.inr (some (6, 0)))), some (.inl a1_), some (.inl a2_), some (.inl a3_), some (.inl a4_), some (.inl is_), some (.inl co_), some (.inl k_), none, none], [.inl is_, .inl k_], S_)) rfl ?_
      refine sm_T_br (a := 3) (z := 41) rfl (fun cx1_ => ?_) (fun cx1_ => ?_)
      · have cx1_ : is_ ≤ k_ := of_decide_eq_true cx1_
        refine sm_T_rv rfl ⟨_, _, rfl, rfl, hI_, hF_, ?_⟩
        first | exact ⟨by (rw [hS_]; exact hw_), by (rw [hS_]; exact wfl_rf)⟩ | (refine ⟨Or.inr ⟨by rw [hv_.2.1]; exact h2_.1, by rw [hv_.1]; exact h0_.2.2.2.2, fun j_ hj_ => ?_⟩, hf_⟩; rw [hv_.2.1, f55_, ← h0_.1] at hj_; rw [f5_, fr_arr (t := 59) (i := 0) hF_ rfl, f60_, hn_ j_ (by omega), hv_.2.2, tbit (by omega) (by omega) (by omega)]; exact wpt_cg (hp_ j_ hj_) (by omega) (fun q9_ w9_ => (hf_.1 q9_ (by omega)).1))
      · have cx1_ : ¬ (is_ ≤ k_) := of_decide_eq_false cx1_
        refine sm_T_go 4 (c1 := (206, [some (.inr (.inr (some (6, 0)))), some (.inl a1_), some (.inl a2_), some (.inl a3_), some (.inl a4_), some (.inl is_), some (.inl co_), some (.inl k_), none, none], [.inl a1_, .inl 3, .inr (.inr (some (64, 0)))], S_)) rfl ?_
        refine sm_T_bin (w := 3 * a1_) rfl (bi_mul (by omega) (by omega) (by omega)) ?_ -- pc_ 206
        refine sm_T_go 1 (c1 := (209, [some (.inr (.inr (some (6, 0)))), some (.inl a1_), some (.inl a2_), some (.inl a3_), some (.inl a4_), some (.inl is_), some (.inl co_), some (.inl k_), none, none], [.inl k_, .inl (3 * a1_), .inr (.inr (some (64, 0)))], S_)) rfl ?_
        refine sm_T_bin (w := 3 * a1_ + k_) rfl (bi_add (by omega) (by omega) (by omega)) ?_ -- pc_ 209
        refine sm_T_go 4 (c1 := (216, [some (.inr (.inr (some (6, 0)))), some (.inl a1_), some (.inl a2_), some (.inl a3_), some (.inl a4_), some (.inl is_), some (.inl co_), some (.inl k_), none, none], [.inl a3_, .inl 3, .inr (.inr (some (65, 0))), .inl (3 * a1_ + k_), .inr (.inr (some (64, 0)))], S_)) rfl ?_
        refine sm_T_bin (w := 3 * a3_) rfl (bi_mul (by omega) (by omega) (by omega)) ?_ -- pc_ 216
        refine sm_T_go 3 (c1 := (223, [some (.inr (.inr (some (6, 0)))), some (.inl a1_), some (.inl a2_), some (.inl a3_), some (.inl a4_), some (.inl is_), some (.inl co_), some (.inl k_), none, none], [.inl is_, .inl a4_, .inl is_, .inl (3 * a3_), .inr (.inr (some (65, 0))), .inl (3 * a1_ + k_), .inr (.inr (some (64, 0)))], S_)) rfl ?_
        refine sm_T_bin (w := (i_shr a4_ is_)) rfl rfl ?_ -- pc_ 223
        have vo9_ := vor (v_ := a4_) (e_ := is_) (by omega) (by omega)
        refine sm_T_go 1 (c1 := (226, [some (.inr (.inr (some (6, 0)))), some (.inl a1_), some (.inl a2_), some (.inl a3_), some (.inl a4_), some (.inl is_), some (.inl co_), some (.inl k_), none, none], [.inl k_, .inl (i_shr a4_ is_), .inl is_, .inl (3 * a3_), .inr (.inr (some (65, 0))), .inl (3 * a1_ + k_), .inr (.inr (some (64, 0)))], S_)) rfl ?_
        refine sm_T_cal (d1 := 0) (Q1 := vq_98 is_ (i_shr a4_ is_) k_ S_) rfl rfl (by decide) (vc_98 is_ (i_shr a4_ is_) k_ S_ hI_ (by omega)) (fun u_ Sx3_ px6_ => ?_)
        obtain ⟨rfl, vx8_, rfl, px6_⟩ := px6_
        have p226_ := px6_.1
        have q226_ : vx8_ = plo (S0_.2.2.1 55 (0 + ll_) a2_.toNat) (i_shr a4_ (S0_.2.2.1 55 (0 + ll_) a2_.toNat)) k_ := by (have z9_ := px6_.2; rw [h0_.1] at z9_; exact z9_)
        have nx9_ : npd n9_ (S0_.2.2.1 59 0) (S0_.2.2.1 65 0 (3 * a3_ + vx8_).toNat) := mcs_b hcs_ h3_ (by omega) (fun u9_ => by rcases his_ with w9_ | w9_; (exfalso; omega); exact w9_.2.2.2)
        have nx1_ := nx9_.1
        have nx2_ := nx9_.2.1
        have nx0_ : S_.2.2.1 65 0 (3 * a3_ + vx8_).toNat = S0_.2.2.1 65 0 (3 * a3_ + vx8_).toNat := by rw [f65_]
        have xk9_ : S0_.2.2.1 65 0 (3 * a3_ + vx8_).toNat = (S0_.2.2.1 65 0 (3 * a3_ + plo (S0_.2.2.1 55 (0 + ll_) a2_.toNat) (i_shr a4_ (S0_.2.2.1 55 (0 + ll_) a2_.toNat)) k_).toNat) := by rw [q226_]
        refine sm_T_bin (w := 3 * a3_ + vx8_) rfl (bi_add (by omega) (by omega) (by omega)) ?_ -- pc_ 229
        refine sm_T_iald (n := 3072) rfl rfl (by omega) (by omega) ?_
        have bx9_ : (-1) ≤ S_.2.2.1 65 0 (3 * a3_ + vx8_).toNat ∧ S_.2.2.1 65 0 (3 * a3_ + vx8_).toNat ≤ 1012 := hI_.2 65 0 _
        refine sm_T_iast (n := 6078) rfl rfl (by omega) (by omega) ?_
        have hIx10_ : gi (sm_aI S_ 64 0 (3 * a1_ + k_).toNat (S_.2.2.1 65 0 (3 * a3_ + vx8_).toNat)) := gi_aI hI_ (show 0 ≤ (S_.2.2.1 65 0 (3 * a3_ + vx8_).toNat) ∧ (S_.2.2.1 65 0 (3 * a3_ + vx8_).toNat) ≤ 1012 from ⟨by omega, by omega⟩)
        have hFx11_ : ai_fr (sx_W vw_108) S0_ (sm_aI S_ 64 0 (3 * a1_ + k_).toNat (S_.2.2.1 65 0 (3 * a3_ + vx8_).toNat)) := ai_fr_tr hF_ (ai_fr_aI rfl)
        refine sm_T_inc (a := 7) (z := 1) (v := k_) (w := k_ + 1) rfl rfl (by omega) (by omega) (by omega) ?_ -- pc_ 232
        refine sm_T_go 1 (c1 := (193, [some (.inr (.inr (some (6, 0)))), some (.inl a1_), some (.inl a2_), some (.inl a3_), some (.inl a4_), some (.inl is_), some (.inl co_), some (.inl (k_ + 1)), none, none], [], sm_aI S_ 64 0 (3 * a1_ + k_).toNat (S_.2.2.1 65 0 (3 * a3_ + vx8_).toNat))) rfl ?_
        refine ih_.2 is_ co_ (k_ + 1) (sm_aI S_ 64 0 (3 * a1_ + k_).toNat (S_.2.2.1 65 0 (3 * a3_ + vx8_).toNat)) hIx10_ hFx11_ ⟨?_, ?_, ?_, ?_, ?_, trivial⟩ ?_
        · omega
        · exact hp_
        · (rw [rd_ne (by decide), rd_ne (by decide), rd_ne (by decide)]; exact hv_)
        · refine ⟨fun j_ hj_ => ?_, fun j_ hj_ => ?_⟩
          · rw [rd_ne (by decide), rd_ne (by decide), rd_ne (by decide)]; exact hf_.1 j_ hj_
          · rw [rd_eq, if_neg (by omega)]; exact hf_.2 j_ hj_
        · intro j_ hj_
          rw [rd_eq]
          by_cases y9_ : (j_ : Int) = k_
          · rw [if_pos (by omega), nx0_, xk9_, y9_]
          · rw [if_neg (by omega)]; exact hn_ j_ (by omega)
        · omega
set_option maxHeartbeats 3000000 in
set_option maxRecDepth 20000 in
theorem vc_108 {sc_ : Nat × (Nat → Int)} (a1_ : Int) (a2_ : Int) (a3_ : Int) (a4_ : Int) (dd_ : Nat) (ll_ : Nat) (n9_ : Int) (S0_ : sm_S) (hI_ : gi S0_) (hd_ : S0_.2.1 6 0 0 = some dd_) (hc_ : S0_.2.1 6 0 1 = some ll_) (h1_ : (a1_ = 2 * n9_ ∨ a1_ = 2 * n9_ + 1) ∧ 1 ≤ n9_ ∧ n9_ ≤ 1012) (h2_ : 0 ≤ a2_ ∧ a2_ ≤ 11) (h3_ : 0 ≤ a3_ ∧ a3_ < S0_.1 6 0 11) (his_ : ((S0_.2.2.1 55 (0 + ll_) a2_.toNat) = 2 ∧ 0 ≤ a4_ ∧ a4_ < 8) ∨ ((S0_.2.2.1 55 (0 + ll_) a2_.toNat) = 3 ∧ 0 ≤ a4_ ∧ a4_ < 48 ∧ S0_.2.2.1 65 0 (3 * a3_ + 2).toNat ≠ -1)) (hcs_ : mcs (npd n9_ (S0_.2.2.1 59 0)) S0_) (hw_ : wo3 (1 + S0_.1 3 dd_ 1 + S0_.1 3 dd_ 2) n9_ ll_ S0_ a1_.toNat) : sm_T (mt_P sc_) 2 108 (0, [some (.inr (.inr (some (6, 0)))), some (.inl a1_), some (.inl a2_), some (.inl a3_), some (.inl a4_), none, none, none, none, none], [], S0_) (fun ro9_ => ∃ u_ S1_, ro9_ = (.inl u_, S1_, 0) ∧ vq_108 a1_ a2_ a3_ a4_ dd_ ll_ n9_ S0_ u_ S1_) := by
  have hF_ : ai_fr (sx_W vw_108) S0_ S0_ := ai_fr_rf
  have ck0_ : 0 ≤ S0_.1 6 0 11 ∧ S0_.1 6 0 11 ≤ 1024 := hI_.1 6 0 11 rfl
  refine sm_T_go 1 (c1 := (1, [some (.inr (.inr (some (6, 0)))), some (.inl a1_), some (.inl a2_), some (.inl a3_), some (.inl a4_), none, none, none, none, none], [.inr (.inr (some (6, 0)))], S0_)) rfl ?_
  refine sm_T_gr rfl rfl ((hF_.2.1 6 0 1 rfl).trans hc_) ?_
  refine sm_T_go 2 (c1 := (8, [some (.inr (.inr (some (6, 0)))), some (.inl a1_), some (.inl a2_), some (.inl a3_), some (.inl a4_), none, none, none, none, none], [.inl a2_, .inr (.inr (some (55, (0 + ll_))))], S0_)) rfl ?_
  refine sm_T_iald (n := 12) rfl rfl (by omega) (by omega) ?_
  have bx1_ : 0 ≤ S0_.2.2.1 55 (0 + ll_) a2_.toNat ∧ S0_.2.2.1 55 (0 + ll_) a2_.toNat ≤ 3 := hI_.2 55 (0 + ll_) _
  refine sm_T_go 2 (c1 := (12, [some (.inr (.inr (some (6, 0)))), some (.inl a1_), some (.inl a2_), some (.inl a3_), some (.inl a4_), some (.inl (S0_.2.2.1 55 (0 + ll_) a2_.toNat)), none, none, none, none], [.inr (.inr (some (6, 0)))], S0_)) rfl ?_
  refine sm_T_gr rfl rfl ((hF_.2.1 6 0 1 rfl).trans hc_) ?_
  refine sm_T_go 2 (c1 := (19, [some (.inr (.inr (some (6, 0)))), some (.inl a1_), some (.inl a2_), some (.inl a3_), some (.inl a4_), some (.inl (S0_.2.2.1 55 (0 + ll_) a2_.toNat)), none, none, none, none], [.inl a2_, .inr (.inr (some (57, (0 + ll_))))], S0_)) rfl ?_
  refine sm_T_iald (n := 12) rfl rfl (by omega) (by omega) ?_
  have bx2_ : 0 ≤ S0_.2.2.1 57 (0 + ll_) a2_.toNat ∧ S0_.2.2.1 57 (0 + ll_) a2_.toNat ≤ 1000 := hI_.2 57 (0 + ll_) _
  refine sm_T_go 3 (c1 := (25, [some (.inr (.inr (some (6, 0)))), some (.inl a1_), some (.inl a2_), some (.inl a3_), some (.inl a4_), some (.inl (S0_.2.2.1 55 (0 + ll_) a2_.toNat)), some (.inl (S0_.2.2.1 57 (0 + ll_) a2_.toNat)), some (.inl 0), none, none], [], S0_)) rfl ?_
  refine (vl_108 a1_ a2_ a3_ a4_ dd_ ll_ n9_ S0_ hd_ hc_ h1_ h2_ h3_ his_ hcs_ hw_ _).1 (S0_.2.2.1 55 (0 + ll_) a2_.toNat) (S0_.2.2.1 57 (0 + ll_) a2_.toNat) 0 S0_ hI_ hF_ ⟨?_, ?_, ?_, trivial⟩ (Nat.lt_succ_self _)
  · omega
  · rfl
  · (intro _ j_ hj_; exfalso; omega)
end
/-! 99.zn7a -/
section
/-! ways by a cut; written by wip/p55/gen/vg -/

/-! all_ ways of_ a_ node -/
/-- only the_ two_ literals of_ node n_ have changed -/
def wfn (n_ : Nat) (S_ S'_ : sm_S) : Prop := (∀ j_, j_ ≠ 2 * n_ → j_ ≠ 2 * n_ + 1 → S'_.2.2.1 61 0 j_ = S_.2.2.1 61 0 j_ ∧ S'_.2.2.1 62 0 j_ = S_.2.2.1 62 0 j_ ∧ S'_.2.2.1 63 0 j_ = S_.2.2.1 63 0 j_) ∧ ∀ j_, (j_ < 6 * n_ ∨ 6 * n_ + 6 ≤ j_) → S'_.2.2.1 64 0 j_ = S_.2.2.1 64 0 j_
theorem wfn_rf {n_ : Nat} {S_ : sm_S} : wfn n_ S_ S_ := ⟨fun _ _ _ => ⟨rfl, rfl, rfl⟩, fun _ _ => rfl⟩
theorem wfn_tr {n_ : Nat} {S_ S'_ S2_ : sm_S} (h_ : wfn n_ S_ S'_) (g_ : wfn n_ S'_ S2_) : wfn n_ S_ S2_ := ⟨fun j_ h1_ h2_ => ⟨(g_.1 j_ h1_ h2_).1.trans (h_.1 j_ h1_ h2_).1, (g_.1 j_ h1_ h2_).2.1.trans (h_.1 j_ h1_ h2_).2.1, (g_.1 j_ h1_ h2_).2.2.trans (h_.1 j_ h1_ h2_).2.2⟩, fun j_ hj_ => (g_.2 j_ hj_).trans (h_.2 j_ hj_)⟩
theorem wfn_l {n_ l_ : Nat} {S_ S'_ : sm_S} (h_ : wfl l_ S_ S'_) (e_ : l_ = 2 * n_ ∨ l_ = 2 * n_ + 1) : wfn n_ S_ S'_ := ⟨fun j_ h1_ h2_ => h_.1 j_ (by omega), fun j_ hj_ => h_.2 j_ (by omega)⟩
theorem wfn_fr {w_ : sx_Wl} {n_ : Nat} {S_ S'_ : sm_S} (g_ : ai_fr (sx_W w_) S_ S'_) (a1_ : (sx_W w_).2.1 61 = false := by rfl) (a2_ : (sx_W w_).2.1 62 = false := by rfl) (a3_ : (sx_W w_).2.1 63 = false := by rfl) (a4_ : (sx_W w_).2.1 64 = false := by rfl) : wfn n_ S_ S'_ := ⟨fun j_ _ _ => ⟨(g_.2.2 61 a1_ 0 j_).1, (g_.2.2 62 a2_ 0 j_).1, (g_.2.2 63 a3_ 0 j_).1⟩, fun j_ _ => (g_.2.2 64 a4_ 0 j_).1⟩
/-- a_ literal's way_, whatever it_ is_ -/
def wok (F_ n_ : Int) (ll_ : Nat) (S_ : sm_S) (l_ m_ : Nat) : Prop := wo3 F_ n_ ll_ S_ l_ ∨ (S_.2.2.1 62 0 l_ = -2 ∧ S_.2.2.1 61 0 l_ < 268435456 ∧ S_.1 5 ll_ 2 ≠ -1 ∧ 0 ≤ S_.2.2.1 62 0 m_)
theorem wo3_fr {w_ : sx_Wl} {F_ n_ : Int} {ll_ l_ : Nat} {S_ S'_ : sm_S} (h_ : wo3 F_ n_ ll_ S_ l_) (g_ : ai_fr (sx_W w_) S_ S'_) (a1_ : (sx_W w_).2.1 61 = false := by rfl) (a2_ : (sx_W w_).2.1 62 = false := by rfl) (a3_ : (sx_W w_).2.1 63 = false := by rfl) (a4_ : (sx_W w_).2.1 64 = false := by rfl) (a5_ : (sx_W w_).2.1 55 = false := by rfl) (a6_ : (sx_W w_).2.1 59 = false := by rfl) (a7_ : (sx_W w_).2.1 60 = false := by rfl) (f5_ : (sx_W w_).1 5 2 = false := by rfl) : wo3 F_ n_ ll_ S'_ l_ := by
  unfold wo3
  rw [fr_arr g_ a1_, fr_arr g_ a2_, fr_arr g_ a3_, fr_arr g_ a4_, fr_arr g_ a5_, fr_arr g_ a6_, fr_arr g_ a7_, g_.1 5 ll_ 2 f5_]
  exact h_
/-! Mapper.tryCut -/
def vw_107 : sx_Wl := ([], [61, 62, 63, 64], [])
def vq_107 (a1_ : Int) (a2_ : Int) (a3_ : Int) (dd_ : Nat) (ll_ : Nat) (S0_ : sm_S) (u_ : Option sm_V) (S1_ : sm_S) : Prop := u_ = none ∧ gi S1_ ∧ ai_fr (sx_W vw_107) S0_ S1_ ∧ (wo3 (1 + S0_.1 3 dd_ 1 + S0_.1 3 dd_ 2) a1_ ll_ S1_ (2 * a1_).toNat ∧ wo3 (1 + S0_.1 3 dd_ 1 + S0_.1 3 dd_ 2) a1_ ll_ S1_ (2 * a1_ + 1).toNat ∧ wfn a1_.toNat S0_ S1_)
set_option maxHeartbeats 3000000 in
theorem vl_107 {sc_ : Nat × (Nat → Int)} (a1_ : Int) (a2_ : Int) (a3_ : Int) (dd_ : Nat) (ll_ : Nat) (S0_ : sm_S) (hd_ : S0_.2.1 6 0 0 = some dd_) (hc_ : S0_.2.1 6 0 1 = some ll_) (h1_ : 1 ≤ a1_ ∧ a1_ ≤ 1012) (h2_ : 0 ≤ a2_ ∧ a2_ ≤ 11) (h3_ : 0 ≤ a3_ ∧ a3_ < S0_.1 6 0 11) (his_ : (S0_.2.2.1 55 (0 + ll_) a2_.toNat) = 2 ∨ ((S0_.2.2.1 55 (0 + ll_) a2_.toNat) = 3 ∧ S0_.2.2.1 65 0 (3 * a3_ + 2).toNat ≠ -1)) (hcs_ : mcs (npd a1_ (S0_.2.2.1 59 0)) S0_) (hw0_ : wo3 (1 + S0_.1 3 dd_ 1 + S0_.1 3 dd_ 2) a1_ ll_ S0_ (2 * a1_).toNat) (hw1_ : wo3 (1 + S0_.1 3 dd_ 1 + S0_.1 3 dd_ 2) a1_ ll_ S0_ (2 * a1_ + 1).toNat) : ∀ nn_ : Nat, (∀ (is_ : Int) (mk_ : Int) (ct : Int) (vw_ : Int) (S_ : sm_S), gi S_ → ai_fr (sx_W vw_107) S0_ S_ → ((is_ = (S0_.2.2.1 55 (0 + ll_) a2_.toNat) ∧ 0 ≤ vw_ ∧ vw_ ≤ 48 ∧ ((is_ = 2 ∧ ct = 8) ∨ (is_ = 3 ∧ ct = 48))) ∧ (wo3 (1 + S0_.1 3 dd_ 1 + S0_.1 3 dd_ 2) a1_ ll_ S_ (2 * a1_).toNat) ∧ (wo3 (1 + S0_.1 3 dd_ 1 + S0_.1 3 dd_ 2) a1_ ll_ S_ (2 * a1_ + 1).toNat) ∧ (wfn a1_.toNat S0_ S_) ∧ True) → ((2 * (100 - vw_) + 1).toNat) < nn_ → sm_T (mt_P sc_) 3 107 (47, [some (.inr (.inr (some (6, 0)))), some (.inl a1_), some (.inl a2_), some (.inl a3_), some (.inl is_), some (.inl mk_), some (.inl ct), some (.inl vw_), none], [], S_) (fun ro9_ => ∃ u_ S1_, ro9_ = (.inl u_, S1_, 0) ∧ vq_107 a1_ a2_ a3_ dd_ ll_ S0_ u_ S1_)) ∧ (∀ (is_ : Int) (mk_ : Int) (ct : Int) (vw_ : Int) (tb_ : Int) (S_ : sm_S), gi S_ → ai_fr (sx_W vw_107) S0_ S_ → ((is_ = (S0_.2.2.1 55 (0 + ll_) a2_.toNat) ∧ 0 ≤ vw_ ∧ vw_ < 48 ∧ vw_ < ct ∧ ((is_ = 2 ∧ ct = 8) ∨ (is_ = 3 ∧ ct = 48))) ∧ (wo3 (1 + S0_.1 3 dd_ 1 + S0_.1 3 dd_ 2) a1_ ll_ S_ (2 * a1_).toNat) ∧ (wo3 (1 + S0_.1 3 dd_ 1 + S0_.1 3 dd_ 2) a1_ ll_ S_ (2 * a1_ + 1).toNat) ∧ (wfn a1_.toNat S0_ S_) ∧ True) → ((2 * (100 - vw_)).toNat) < nn_ → sm_T (mt_P sc_) 3 107 (90, [some (.inr (.inr (some (6, 0)))), some (.inl a1_), some (.inl a2_), some (.inl a3_), some (.inl is_), some (.inl mk_), some (.inl ct), some (.inl vw_), some (.inl tb_)], [], S_) (fun ro9_ => ∃ u_ S1_, ro9_ = (.inl u_, S1_, 0) ∧ vq_107 a1_ a2_ a3_ dd_ ll_ S0_ u_ S1_)) := by
  intro nn_
  induction nn_ with
  | zero => exact ⟨fun _ _ _ _ _ _ _ _ h_ => absurd h_ (Nat.not_lt_zero _), fun _ _ _ _ _ _ _ _ _ h_ => absurd h_ (Nat.not_lt_zero _)⟩
  | succ nn_ ih_ =>
    refine ⟨?_, ?_⟩
    · rintro is_ mk_ ct vw_ S_ hI_ hF_ ⟨h0_, hv0_, hv1_, hf_, -⟩ hm_
      have f55_ : S_.2.2.1 55 (0 + ll_) = S0_.2.2.1 55 (0 + ll_) := fr_arr hF_ rfl
      have f65_ : S_.2.2.1 65 0 = S0_.2.2.1 65 0 := fr_arr hF_ rfl
      have f59_ : S_.2.2.1 59 0 = S0_.2.2.1 59 0 := fr_arr hF_ rfl
      have f60_ : S_.2.2.1 60 0 = S0_.2.2.1 60 0 := fr_arr hF_ rfl
      have f1_ : S_.1 3 dd_ 1 = S0_.1 3 dd_ 1 := hF_.1 3 dd_ 1 rfl
      have f2_ : S_.1 3 dd_ 2 = S0_.1 3 dd_ 2 := hF_.1 3 dd_ 2 rfl
      have f5_ : S_.1 5 ll_ 2 = S0_.1 5 ll_ 2 := hF_.1 5 ll_ 2 rfl
      have ek_ : S_.1 6 0 11 = S0_.1 6 0 11 := hF_.1 6 0 11 rfl
      have ck_ : 0 ≤ S_.1 6 0 11 ∧ S_.1 6 0 11 ≤ 1024 := hI_.1 6 0 11 rfl
      refine sm_T_go 2 (c1 := (51, [some (.inr (.inr (some (6, 0)))), some (.inl a1_), some (.inl a2_), some (.inl a3_), some (.inl is_), some (.inl mk_), some (.inl ct), some (.inl vw_), none], [.inl ct, .inl vw_], S_)) rfl ?_
      refine sm_T_br (a := 3) (z := 72) rfl (fun cx1_ => ?_) (fun cx1_ => ?_)
      · have cx1_ : ct ≤ vw_ := of_decide_eq_true cx1_
        refine sm_T_rv rfl ⟨_, _, rfl, rfl, hI_, hF_, ?_⟩
        exact ⟨hv0_, hv1_, hf_⟩
      · have cx1_ : ¬ (ct ≤ vw_) := of_decide_eq_false cx1_
        refine sm_T_go 4 (c1 := (61, [some (.inr (.inr (some (6, 0)))), some (.inl a1_), some (.inl a2_), some (.inl a3_), some (.inl is_), some (.inl mk_), some (.inl ct), some (.inl vw_), none], [.inl 48, .inl a2_, .inr (.inr (some (69, 0)))], S_)) rfl ?_
        refine sm_T_bin (w := 48 * a2_) rfl (bi_mul (by omega) (by omega) (by omega)) ?_ -- pc_ 61
        refine sm_T_go 1 (c1 := (64, [some (.inr (.inr (some (6, 0)))), some (.inl a1_), some (.inl a2_), some (.inl a3_), some (.inl is_), some (.inl mk_), some (.inl ct), some (.inl vw_), none], [.inl vw_, .inl (48 * a2_), .inr (.inr (some (69, 0)))], S_)) rfl ?_
        refine sm_T_bin (w := 48 * a2_ + vw_) rfl (bi_add (by omega) (by omega) (by omega)) ?_ -- pc_ 64
        refine sm_T_iald (n := 576) rfl rfl (by omega) (by omega) ?_
        have bx2_ : 0 ≤ S_.2.2.1 69 0 (48 * a2_ + vw_).toNat ∧ S_.2.2.1 69 0 (48 * a2_ + vw_).toNat ≤ 255 := hI_.2 69 0 _
        refine sm_T_go 5 (c1 := (75, [some (.inr (.inr (some (6, 0)))), some (.inl a1_), some (.inl a2_), some (.inl a3_), some (.inl is_), some (.inl mk_), some (.inl ct), some (.inl vw_), some (.inl (S_.2.2.1 69 0 (48 * a2_ + vw_).toNat))], [.inl a3_, .inr (.inr (some (67, 0))), .inl (S_.2.2.1 69 0 (48 * a2_ + vw_).toNat)], S_)) rfl ?_
        refine sm_T_iald (n := 1024) rfl rfl (by omega) (by omega) ?_
        have bx3_ : 0 ≤ S_.2.2.1 67 0 a3_.toNat ∧ S_.2.2.1 67 0 a3_.toNat ≤ 255 := hI_.2 67 0 _
        refine sm_T_br (a := 1) (z := 14) rfl (fun cx4_ => ?_) (fun cx4_ => ?_)
        · have cx4_ : (S_.2.2.1 69 0 (48 * a2_ + vw_).toNat) ≠ (S_.2.2.1 67 0 a3_.toNat) := of_decide_eq_true cx4_
          refine sm_T_go 0 (c1 := (90, [some (.inr (.inr (some (6, 0)))), some (.inl a1_), some (.inl a2_), some (.inl a3_), some (.inl is_), some (.inl mk_), some (.inl ct), some (.inl vw_), some (.inl (S_.2.2.1 69 0 (48 * a2_ + vw_).toNat))], [], S_)) rfl ?_
          refine ih_.2 is_ mk_ ct vw_ (S_.2.2.1 69 0 (48 * a2_ + vw_).toNat) S_ hI_ hF_ ⟨?_, ?_, ?_, ?_, trivial⟩ ?_
          · omega
          · first | exact hv0_ | exact o87_
          · first | exact hv1_ | exact x87_
          · first | exact hf_ | exact wfn_tr hf_ (wfn_l w87_ (by omega))
          · omega
        · have cx4_ : ¬ ((S_.2.2.1 69 0 (48 * a2_ + vw_).toNat) ≠ (S_.2.2.1 67 0 a3_.toNat)) := of_decide_eq_false cx4_
          refine sm_T_go 3 (c1 := (82, [some (.inr (.inr (some (6, 0)))), some (.inl a1_), some (.inl a2_), some (.inl a3_), some (.inl is_), some (.inl mk_), some (.inl ct), some (.inl vw_), some (.inl (S_.2.2.1 69 0 (48 * a2_ + vw_).toNat))], [.inl a1_, .inl 2, .inr (.inr (some (6, 0)))], S_)) rfl ?_
          refine sm_T_bin (w := 2 * a1_) rfl (bi_mul (by omega) (by omega) (by omega)) ?_ -- pc_ 82
          refine sm_T_go 3 (c1 := (87, [some (.inr (.inr (some (6, 0)))), some (.inl a1_), some (.inl a2_), some (.inl a3_), some (.inl is_), some (.inl mk_), some (.inl ct), some (.inl vw_), some (.inl (S_.2.2.1 69 0 (48 * a2_ + vw_).toNat))], [.inl vw_, .inl a3_, .inl a2_, .inl (2 * a1_), .inr (.inr (some (6, 0)))], S_)) rfl ?_
          refine sm_T_cal (d1 := 2) (Q1 := vq_108 (2 * a1_) a2_ a3_ vw_ dd_ ll_ a1_ S_) rfl rfl (by decide) (vc_108 (2 * a1_) a2_ a3_ vw_ dd_ ll_ a1_ S_ hI_ (by exact (hF_.2.1 6 0 0 rfl).trans hd_) (by exact (hF_.2.1 6 0 1 rfl).trans hc_) (by omega) (by omega) (by (first | omega | (rw [hF_.1 6 0 11 rfl]; omega))) (by (rw [fr_arr (t := 55) (i := 0 + ll_) hF_ rfl, fr_arr (t := 65) (i := 0) hF_ rfl]; rcases his_ with w9_ | w9_; (left; omega); (right; exact ⟨w9_.1, by omega, by omega, w9_.2⟩))) (by (rw [fr_arr (t := 59) (i := 0) hF_ rfl]; exact mcs_fr hcs_ hF_)) (by (rw [hF_.1 3 dd_ 1 rfl, hF_.1 3 dd_ 2 rfl]; exact hv0_))) (fun u_ Sx5_ px8_ => ?_)
          obtain ⟨rfl, hIx6_, hFx7_, px8_⟩ := px8_
          have hFx9_ : ai_fr (sx_W vw_107) S0_ Sx5_ := ai_fr_tr hF_ (fr_le hFx7_ rfl)
          have o87_ : wo3 (1 + S0_.1 3 dd_ 1 + S0_.1 3 dd_ 2) a1_ ll_ Sx5_ (2 * a1_).toNat := by (have z9_ := px8_.1; rw [f1_, f2_] at z9_; exact z9_)
          have w87_ := px8_.2
          have x87_ : wo3 (1 + S0_.1 3 dd_ 1 + S0_.1 3 dd_ 2) a1_ ll_ Sx5_ (2 * a1_ + 1).toNat := wo3_cg hv1_ w87_ (by omega) (by omega) (hFx7_.1 5 ll_ 2 rfl) (fr_arr hFx7_ rfl) (fr_arr hFx7_ rfl) (fr_arr hFx7_ rfl) (fun k9_ => (hI_.2 55 (0 + ll_) k9_).2)
          refine sm_T_go 0 (c1 := (90, [some (.inr (.inr (some (6, 0)))), some (.inl a1_), some (.inl a2_), some (.inl a3_), some (.inl is_), some (.inl mk_), some (.inl ct), some (.inl vw_), some (.inl (S_.2.2.1 69 0 (48 * a2_ + vw_).toNat))], [], Sx5_)) rfl ?_
          refine ih_.2 is_ mk_ ct vw_ (S_.2.2.1 69 0 (48 * a2_ + vw_).toNat) Sx5_ hIx6_ hFx9_ ⟨?_, ?_, ?_, ?_, trivial⟩ ?_
          · omega
          · first | exact hv0_ | exact o87_
          · first | exact hv1_ | exact x87_
          · first | exact hf_ | exact wfn_tr hf_ (wfn_l w87_ (by omega))
          · omega
    · rintro is_ mk_ ct vw_ tb_ S_ hI_ hF_ ⟨h0_, hv0_, hv1_, hf_, -⟩ hm_
      have f55_ : S_.2.2.1 55 (0 + ll_) = S0_.2.2.1 55 (0 + ll_) := fr_arr hF_ rfl
      have f65_ : S_.2.2.1 65 0 = S0_.2.2.1 65 0 := fr_arr hF_ rfl
      have f59_ : S_.2.2.1 59 0 = S0_.2.2.1 59 0 := fr_arr hF_ rfl
      have f60_ : S_.2.2.1 60 0 = S0_.2.2.1 60 0 := fr_arr hF_ rfl
      have f1_ : S_.1 3 dd_ 1 = S0_.1 3 dd_ 1 := hF_.1 3 dd_ 1 rfl
      have f2_ : S_.1 3 dd_ 2 = S0_.1 3 dd_ 2 := hF_.1 3 dd_ 2 rfl
      have f5_ : S_.1 5 ll_ 2 = S0_.1 5 ll_ 2 := hF_.1 5 ll_ 2 rfl
      have ek_ : S_.1 6 0 11 = S0_.1 6 0 11 := hF_.1 6 0 11 rfl
      have ck_ : 0 ≤ S_.1 6 0 11 ∧ S_.1 6 0 11 ≤ 1024 := hI_.1 6 0 11 rfl
      refine sm_T_go 4 (c1 := (97, [some (.inr (.inr (some (6, 0)))), some (.inl a1_), some (.inl a2_), some (.inl a3_), some (.inl is_), some (.inl mk_), some (.inl ct), some (.inl vw_), some (.inl tb_)], [.inl a3_, .inr (.inr (some (67, 0))), .inl tb_], S_)) rfl ?_
      refine sm_T_iald (n := 1024) rfl rfl (by omega) (by omega) ?_
      have bx1_ : 0 ≤ S_.2.2.1 67 0 a3_.toNat ∧ S_.2.2.1 67 0 a3_.toNat ≤ 255 := hI_.2 67 0 _
      refine sm_T_go 1 (c1 := (100, [some (.inr (.inr (some (6, 0)))), some (.inl a1_), some (.inl a2_), some (.inl a3_), some (.inl is_), some (.inl mk_), some (.inl ct), some (.inl vw_), some (.inl tb_)], [.inl mk_, .inl (S_.2.2.1 67 0 a3_.toNat), .inl tb_], S_)) rfl ?_
      refine sm_T_bin (w := (i_xor (S_.2.2.1 67 0 a3_.toNat) mk_)) rfl rfl ?_ -- pc_ 100
      first | have bx2_ := i_xrp (x_ := (S_.2.2.1 67 0 a3_.toNat)) (y_ := mk_) (k_ := 1) (by decide) (by omega) (by omega) | have bx2_ := i_xrp (x_ := (S_.2.2.1 67 0 a3_.toNat)) (y_ := mk_) (k_ := 3) (by decide) (by omega) (by omega) | have bx2_ := i_xrp (x_ := (S_.2.2.1 67 0 a3_.toNat)) (y_ := mk_) (k_ := 4) (by decide) (by omega) (by omega) | have bx2_ := i_xrp (x_ := (S_.2.2.1 67 0 a3_.toNat)) (y_ := mk_) (k_ := 6) (by decide) (by omega) (by omega) | have bx2_ := i_xrp (x_ := (S_.2.2.1 67 0 a3_.toNat)) (y_ := mk_) (k_ := 8) (by decide) (by omega) (by omega) | have bx2_ := i_xrp (x_ := (S_.2.2.1 67 0 a3_.toNat)) (y_ := mk_) (k_ := 11) (by decide) (by omega) (by omega) | have bx2_ := i_xrp (x_ := (S_.2.2.1 67 0 a3_.toNat)) (y_ := mk_) (k_ := 12) (by decide) (by omega) (by omega) | have bx2_ := i_xrp (x_ := (S_.2.2.1 67 0 a3_.toNat)) (y_ := mk_) (k_ := 16) (by decide) (by omega) (by omega) | have bx2_ := i_xrp (x_ := (S_.2.2.1 67 0 a3_.toNat)) (y_ := mk_) (k_ := 22) (by decide) (by omega) (by omega) | have bx2_ := i_xrp (x_ := (S_.2.2.1 67 0 a3_.toNat)) (y_ := mk_) (k_ := 31) (by decide) (by omega) (by omega) | have bx2_ := i_xor_n (S_.2.2.1 67 0 a3_.toNat) mk_
      refine sm_T_br (a := 1) (z := 16) rfl (fun cx3_ => ?_) (fun cx3_ => ?_)
      · have cx3_ : tb_ ≠ (i_xor (S_.2.2.1 67 0 a3_.toNat) mk_) := of_decide_eq_true cx3_
        refine sm_T_inc (a := 7) (z := 1) (v := vw_) (w := vw_ + 1) rfl rfl (by omega) (by omega) (by omega) ?_ -- pc_ 117
        refine sm_T_go 1 (c1 := (47, [some (.inr (.inr (some (6, 0)))), some (.inl a1_), some (.inl a2_), some (.inl a3_), some (.inl is_), some (.inl mk_), some (.inl ct), some (.inl (vw_ + 1)), some (.inl tb_)], [], S_)) rfl ?_
        refine sm_T_wk [some (.inr (.inr (some (6, 0)))), some (.inl a1_), some (.inl a2_), some (.inl a3_), some (.inl is_), some (.inl mk_), some (.inl ct), some (.inl (vw_ + 1)), none] (by exact ⟨rfl, rfl, rfl, rfl, rfl, rfl, rfl, rfl, trivial⟩) ?_
        refine ih_.1 is_ mk_ ct (vw_ + 1) S_ hI_ hF_ ⟨?_, ?_, ?_, ?_, trivial⟩ ?_
        · omega
        · first | exact hv0_ | exact x114_
        · first | exact hv1_ | exact o114_
        · first | exact hf_ | exact wfn_tr hf_ (wfn_l w114_ (by omega))
        · omega
      · have cx3_ : ¬ (tb_ ≠ (i_xor (S_.2.2.1 67 0 a3_.toNat) mk_)) := of_decide_eq_false cx3_
        refine sm_T_go 3 (c1 := (107, [some (.inr (.inr (some (6, 0)))), some (.inl a1_), some (.inl a2_), some (.inl a3_), some (.inl is_), some (.inl mk_), some (.inl ct), some (.inl vw_), some (.inl tb_)], [.inl a1_, .inl 2, .inr (.inr (some (6, 0)))], S_)) rfl ?_
        refine sm_T_bin (w := 2 * a1_) rfl (bi_mul (by omega) (by omega) (by omega)) ?_ -- pc_ 107
        refine sm_T_go 1 (c1 := (109, [some (.inr (.inr (some (6, 0)))), some (.inl a1_), some (.inl a2_), some (.inl a3_), some (.inl is_), some (.inl mk_), some (.inl ct), some (.inl vw_), some (.inl tb_)], [.inl 1, .inl (2 * a1_), .inr (.inr (some (6, 0)))], S_)) rfl ?_
        refine sm_T_bin (w := 2 * a1_ + 1) rfl (bi_add (by omega) (by omega) (by omega)) ?_ -- pc_ 109
        refine sm_T_go 3 (c1 := (114, [some (.inr (.inr (some (6, 0)))), some (.inl a1_), some (.inl a2_), some (.inl a3_), some (.inl is_), some (.inl mk_), some (.inl ct), some (.inl vw_), some (.inl tb_)], [.inl vw_, .inl a3_, .inl a2_, .inl (2 * a1_ + 1), .inr (.inr (some (6, 0)))], S_)) rfl ?_
        refine sm_T_cal (d1 := 2) (Q1 := vq_108 (2 * a1_ + 1) a2_ a3_ vw_ dd_ ll_ a1_ S_) rfl rfl (by decide) (vc_108 (2 * a1_ + 1) a2_ a3_ vw_ dd_ ll_ a1_ S_ hI_ (by exact (hF_.2.1 6 0 0 rfl).trans hd_) (by exact (hF_.2.1 6 0 1 rfl).trans hc_) (by omega) (by omega) (by (first | omega | (rw [hF_.1 6 0 11 rfl]; omega))) (by (rw [fr_arr (t := 55) (i := 0 + ll_) hF_ rfl, fr_arr (t := 65) (i := 0) hF_ rfl]; rcases his_ with w9_ | w9_; (left; omega); (right; exact ⟨w9_.1, by omega, by omega, w9_.2⟩))) (by (rw [fr_arr (t := 59) (i := 0) hF_ rfl]; exact mcs_fr hcs_ hF_)) (by (rw [hF_.1 3 dd_ 1 rfl, hF_.1 3 dd_ 2 rfl]; exact hv1_))) (fun u_ Sx4_ px7_ => ?_)
        obtain ⟨rfl, hIx5_, hFx6_, px7_⟩ := px7_
        have hFx8_ : ai_fr (sx_W vw_107) S0_ Sx4_ := ai_fr_tr hF_ (fr_le hFx6_ rfl)
        have o114_ : wo3 (1 + S0_.1 3 dd_ 1 + S0_.1 3 dd_ 2) a1_ ll_ Sx4_ (2 * a1_ + 1).toNat := by (have z9_ := px7_.1; rw [f1_, f2_] at z9_; exact z9_)
        have w114_ := px7_.2
        have x114_ : wo3 (1 + S0_.1 3 dd_ 1 + S0_.1 3 dd_ 2) a1_ ll_ Sx4_ (2 * a1_).toNat := wo3_cg hv0_ w114_ (by omega) (by omega) (hFx6_.1 5 ll_ 2 rfl) (fr_arr hFx6_ rfl) (fr_arr hFx6_ rfl) (fr_arr hFx6_ rfl) (fun k9_ => (hI_.2 55 (0 + ll_) k9_).2)
        refine sm_T_inc (a := 7) (z := 1) (v := vw_) (w := vw_ + 1) rfl rfl (by omega) (by omega) (by omega) ?_ -- pc_ 117
        refine sm_T_go 1 (c1 := (47, [some (.inr (.inr (some (6, 0)))), some (.inl a1_), some (.inl a2_), some (.inl a3_), some (.inl is_), some (.inl mk_), some (.inl ct), some (.inl (vw_ + 1)), some (.inl tb_)], [], Sx4_)) rfl ?_
        refine sm_T_wk [some (.inr (.inr (some (6, 0)))), some (.inl a1_), some (.inl a2_), some (.inl a3_), some (.inl is_), some (.inl mk_), some (.inl ct), some (.inl (vw_ + 1)), none] (by exact ⟨rfl, rfl, rfl, rfl, rfl, rfl, rfl, rfl, trivial⟩) ?_
        refine ih_.1 is_ mk_ ct (vw_ + 1) Sx4_ hIx5_ hFx8_ ⟨?_, ?_, ?_, ?_, trivial⟩ ?_
        · omega
        · first | exact hv0_ | exact x114_
        · first | exact hv1_ | exact o114_
        · first | exact hf_ | exact wfn_tr hf_ (wfn_l w114_ (by omega))
        · omega
set_option maxHeartbeats 3000000 in
theorem vc_107 {sc_ : Nat × (Nat → Int)} (a1_ : Int) (a2_ : Int) (a3_ : Int) (dd_ : Nat) (ll_ : Nat) (S0_ : sm_S) (hI_ : gi S0_) (hd_ : S0_.2.1 6 0 0 = some dd_) (hc_ : S0_.2.1 6 0 1 = some ll_) (h1_ : 1 ≤ a1_ ∧ a1_ ≤ 1012) (h2_ : 0 ≤ a2_ ∧ a2_ ≤ 11) (h3_ : 0 ≤ a3_ ∧ a3_ < S0_.1 6 0 11) (his_ : (S0_.2.2.1 55 (0 + ll_) a2_.toNat) = 2 ∨ ((S0_.2.2.1 55 (0 + ll_) a2_.toNat) = 3 ∧ S0_.2.2.1 65 0 (3 * a3_ + 2).toNat ≠ -1)) (hcs_ : mcs (npd a1_ (S0_.2.2.1 59 0)) S0_) (hw0_ : wo3 (1 + S0_.1 3 dd_ 1 + S0_.1 3 dd_ 2) a1_ ll_ S0_ (2 * a1_).toNat) (hw1_ : wo3 (1 + S0_.1 3 dd_ 1 + S0_.1 3 dd_ 2) a1_ ll_ S0_ (2 * a1_ + 1).toNat) : sm_T (mt_P sc_) 3 107 (0, [some (.inr (.inr (some (6, 0)))), some (.inl a1_), some (.inl a2_), some (.inl a3_), none, none, none, none, none], [], S0_) (fun ro9_ => ∃ u_ S1_, ro9_ = (.inl u_, S1_, 0) ∧ vq_107 a1_ a2_ a3_ dd_ ll_ S0_ u_ S1_) := by
  have hF_ : ai_fr (sx_W vw_107) S0_ S0_ := ai_fr_rf
  have ck0_ : 0 ≤ S0_.1 6 0 11 ∧ S0_.1 6 0 11 ≤ 1024 := hI_.1 6 0 11 rfl
  refine sm_T_go 1 (c1 := (1, [some (.inr (.inr (some (6, 0)))), some (.inl a1_), some (.inl a2_), some (.inl a3_), none, none, none, none, none], [.inr (.inr (some (6, 0)))], S0_)) rfl ?_
  refine sm_T_gr rfl rfl ((hF_.2.1 6 0 1 rfl).trans hc_) ?_
  refine sm_T_go 2 (c1 := (8, [some (.inr (.inr (some (6, 0)))), some (.inl a1_), some (.inl a2_), some (.inl a3_), none, none, none, none, none], [.inl a2_, .inr (.inr (some (55, (0 + ll_))))], S0_)) rfl ?_
  refine sm_T_iald (n := 12) rfl rfl (by omega) (by omega) ?_
  have bx1_ : 0 ≤ S0_.2.2.1 55 (0 + ll_) a2_.toNat ∧ S0_.2.2.1 55 (0 + ll_) a2_.toNat ≤ 3 := hI_.2 55 (0 + ll_) _
  refine sm_T_go 3 (c1 := (14, [some (.inr (.inr (some (6, 0)))), some (.inl a1_), some (.inl a2_), some (.inl a3_), some (.inl (S0_.2.2.1 55 (0 + ll_) a2_.toNat)), none, none, none, none], [.inl 2, .inl (S0_.2.2.1 55 (0 + ll_) a2_.toNat)], S0_)) rfl ?_
  refine sm_T_br (a := 1) (z := 8) rfl (fun cx2_ => ?_) (fun cx2_ => ?_)
  · have cx2_ : (S0_.2.2.1 55 (0 + ll_) a2_.toNat) ≠ 2 := of_decide_eq_true cx2_
    refine sm_T_go 4 (c1 := (30, [some (.inr (.inr (some (6, 0)))), some (.inl a1_), some (.inl a2_), some (.inl a3_), some (.inl (S0_.2.2.1 55 (0 + ll_) a2_.toNat)), some (.inl 255), none, none, none], [.inl 2, .inl (S0_.2.2.1 55 (0 + ll_) a2_.toNat)], S0_)) rfl ?_
    refine sm_T_br (a := 1) (z := 7) rfl (fun cx3_ => ?_) (fun cx3_ => ?_)
    · have cx3_ : (S0_.2.2.1 55 (0 + ll_) a2_.toNat) ≠ 2 := of_decide_eq_true cx3_
      refine sm_T_go 2 (c1 := (41, [some (.inr (.inr (some (6, 0)))), some (.inl a1_), some (.inl a2_), some (.inl a3_), some (.inl (S0_.2.2.1 55 (0 + ll_) a2_.toNat)), some (.inl 255), none, none, none], [.inl (S0_.2.2.1 55 (0 + ll_) a2_.toNat), .inl 6], S0_)) rfl ?_
      refine sm_T_bin (w := (i_shl 6 (S0_.2.2.1 55 (0 + ll_) a2_.toNat))) rfl rfl ?_ -- pc_ 41
      have vp9_ := vpw (e_ := (S0_.2.2.1 55 (0 + ll_) a2_.toNat)) (by omega)
      refine sm_T_go 3 (c1 := (47, [some (.inr (.inr (some (6, 0)))), some (.inl a1_), some (.inl a2_), some (.inl a3_), some (.inl (S0_.2.2.1 55 (0 + ll_) a2_.toNat)), some (.inl 255), some (.inl (i_shl 6 (S0_.2.2.1 55 (0 + ll_) a2_.toNat))), some (.inl 0), none], [], S0_)) rfl ?_
      refine (vl_107 a1_ a2_ a3_ dd_ ll_ S0_ hd_ hc_ h1_ h2_ h3_ his_ hcs_ hw0_ hw1_ _).1 (S0_.2.2.1 55 (0 + ll_) a2_.toNat) 255 (i_shl 6 (S0_.2.2.1 55 (0 + ll_) a2_.toNat)) 0 S0_ hI_ hF_ ⟨?_, ?_, ?_, ?_, trivial⟩ (Nat.lt_succ_self _)
      · omega
      · exact hw0_
      · exact hw1_
      · exact wfn_rf
    · have cx3_ : ¬ ((S0_.2.2.1 55 (0 + ll_) a2_.toNat) ≠ 2) := of_decide_eq_false cx3_
      refine sm_T_go 3 (c1 := (41, [some (.inr (.inr (some (6, 0)))), some (.inl a1_), some (.inl a2_), some (.inl a3_), some (.inl (S0_.2.2.1 55 (0 + ll_) a2_.toNat)), some (.inl 255), none, none, none], [.inl (S0_.2.2.1 55 (0 + ll_) a2_.toNat), .inl 2], S0_)) rfl ?_
      refine sm_T_bin (w := (i_shl 2 (S0_.2.2.1 55 (0 + ll_) a2_.toNat))) rfl rfl ?_ -- pc_ 41
      have vp9_ := vpw (e_ := (S0_.2.2.1 55 (0 + ll_) a2_.toNat)) (by omega)
      refine sm_T_go 3 (c1 := (47, [some (.inr (.inr (some (6, 0)))), some (.inl a1_), some (.inl a2_), some (.inl a3_), some (.inl (S0_.2.2.1 55 (0 + ll_) a2_.toNat)), some (.inl 255), some (.inl (i_shl 2 (S0_.2.2.1 55 (0 + ll_) a2_.toNat))), some (.inl 0), none], [], S0_)) rfl ?_
      refine (vl_107 a1_ a2_ a3_ dd_ ll_ S0_ hd_ hc_ h1_ h2_ h3_ his_ hcs_ hw0_ hw1_ _).1 (S0_.2.2.1 55 (0 + ll_) a2_.toNat) 255 (i_shl 2 (S0_.2.2.1 55 (0 + ll_) a2_.toNat)) 0 S0_ hI_ hF_ ⟨?_, ?_, ?_, ?_, trivial⟩ (Nat.lt_succ_self _)
      · omega
      · exact hw0_
      · exact hw1_
      · exact wfn_rf
  · have cx2_ : ¬ ((S0_.2.2.1 55 (0 + ll_) a2_.toNat) ≠ 2) := of_decide_eq_false cx2_
    refine sm_T_go 5 (c1 := (30, [some (.inr (.inr (some (6, 0)))), some (.inl a1_), some (.inl a2_), some (.inl a3_), some (.inl (S0_.2.2.1 55 (0 + ll_) a2_.toNat)), some (.inl 15), none, none, none], [.inl 2, .inl (S0_.2.2.1 55 (0 + ll_) a2_.toNat)], S0_)) rfl ?_
    refine sm_T_br (a := 1) (z := 7) rfl (fun cx6_ => ?_) (fun cx6_ => ?_)
    · have cx6_ : (S0_.2.2.1 55 (0 + ll_) a2_.toNat) ≠ 2 := of_decide_eq_true cx6_
      exfalso; omega
    · have cx6_ : ¬ ((S0_.2.2.1 55 (0 + ll_) a2_.toNat) ≠ 2) := of_decide_eq_false cx6_
      refine sm_T_go 3 (c1 := (41, [some (.inr (.inr (some (6, 0)))), some (.inl a1_), some (.inl a2_), some (.inl a3_), some (.inl (S0_.2.2.1 55 (0 + ll_) a2_.toNat)), some (.inl 15), none, none, none], [.inl (S0_.2.2.1 55 (0 + ll_) a2_.toNat), .inl 2], S0_)) rfl ?_
      refine sm_T_bin (w := (i_shl 2 (S0_.2.2.1 55 (0 + ll_) a2_.toNat))) rfl rfl ?_ -- pc_ 41
      have vp9_ := vpw (e_ := (S0_.2.2.1 55 (0 + ll_) a2_.toNat)) (by omega)
      refine sm_T_go 3 (c1 := (47, [some (.inr (.inr (some (6, 0)))), some (.inl a1_), some (.inl a2_), some (.inl a3_), some (.inl (S0_.2.2.1 55 (0 + ll_) a2_.toNat)), some (.inl 15), some (.inl (i_shl 2 (S0_.2.2.1 55 (0 + ll_) a2_.toNat))), some (.inl 0), none], [], S0_)) rfl ?_
      refine (vl_107 a1_ a2_ a3_ dd_ ll_ S0_ hd_ hc_ h1_ h2_ h3_ his_ hcs_ hw0_ hw1_ _).1 (S0_.2.2.1 55 (0 + ll_) a2_.toNat) 15 (i_shl 2 (S0_.2.2.1 55 (0 + ll_) a2_.toNat)) 0 S0_ hI_ hF_ ⟨?_, ?_, ?_, ?_, trivial⟩ (Nat.lt_succ_self _)
      · omega
      · exact hw0_
      · exact hw1_
      · exact wfn_rf
end
