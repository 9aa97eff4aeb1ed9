/-! Mapper.isBefore -/
def vw_104 : sx_Wl := ([], [], [])
def vq_104 (a1_ : Int) (a2_ : Int) (S0_ : sm_S) (u_ : Option sm_V) (S1_ : sm_S) : Prop := S0_ = S1_ ∧ ∃ v_ : Int, u_ = some (.inl v_) ∧ (0 ≤ v_ ∧ v_ ≤ 1)
set_option maxHeartbeats 400000 in
theorem vl_104 {sc_ : Nat × (Nat → Int)} (a1_ : Int) (a2_ : Int) (S0_ : sm_S) (h1_ : 0 ≤ a1_ ∧ a1_ ≤ 1023) (h2_ : 0 ≤ a2_ ∧ a2_ ≤ 1023) : ∀ nn_ : Nat, (∀ (k_ : Int) (S_ : sm_S), gi S_ → ai_fr (sx_W vw_104) S0_ S_ → ((0 ≤ k_ ∧ k_ ≤ 3) ∧ (S_ = S0_) ∧ True) → ((10 - k_).toNat) < nn_ → sm_T (mt_P sc_) 0 104 (2, [some (.inr (.inr (some (6, 0)))), some (.inl a1_), some (.inl a2_), some (.inl k_)], [], S_) (fun ro9_ => ∃ u_ S1_, ro9_ = (.inl u_, S1_, 0) ∧ vq_104 a1_ a2_ S0_ u_ S1_)) := by
  intro nn_
  induction nn_ with
  | zero => exact fun _ _ _ _ _ h_ => absurd h_ (Nat.not_lt_zero _)
  | succ nn_ ih_ =>
    rintro k_ S_ hI_ hF_ ⟨h0_, hS_, -⟩ hm_
    refine sm_T_go 2 (c1 := (4, [some (.inr (.inr (some (6, 0)))), some (.inl a1_), some (.inl a2_), some (.inl k_)], [.inl 3, .inl k_], S_)) rfl ?_
    refine sm_T_br (a := 3) (z := 61) rfl (fun cx1_ => ?_) (fun cx1_ => ?_)
    · have cx1_ : 3 ≤ k_ := of_decide_eq_true cx1_
      refine sm_T_go 1 (c1 := (66, [some (.inr (.inr (some (6, 0)))), some (.inl a1_), some (.inl a2_), some (.inl k_)], [.inl 0], S_)) rfl ?_
      refine sm_T_rz rfl (by omega) ⟨_, _, rfl, (by first | rfl | exact hS_.symm), _, rfl, ?_⟩
      omega
    · have cx1_ : ¬ (3 ≤ k_) := of_decide_eq_false cx1_
      refine sm_T_go 4 (c1 := (13, [some (.inr (.inr (some (6, 0)))), some (.inl a1_), some (.inl a2_), some (.inl k_)], [.inl a1_, .inl 3, .inr (.inr (some (65, 0)))], S_)) rfl ?_
      refine sm_T_bin (w := 3 * a1_) rfl (bi_mul (by omega) (by omega) (by omega)) ?_ -- pc_ 13
      refine sm_T_go 1 (c1 := (15, [some (.inr (.inr (some (6, 0)))), some (.inl a1_), some (.inl a2_), some (.inl k_)], [.inl k_, .inl (3 * a1_), .inr (.inr (some (65, 0)))], S_)) rfl ?_
      refine sm_T_bin (w := 3 * a1_ + k_) rfl (bi_add (by omega) (by omega) (by omega)) ?_ -- pc_ 15
      refine sm_T_iald (n := 3072) rfl rfl (by omega) (by omega) ?_
      have bx2_ : (-1) ≤ S_.2.2.1 65 0 (3 * a1_ + k_).toNat ∧ S_.2.2.1 65 0 (3 * a1_ + k_).toNat ≤ 1012 := hI_.2 65 0 _
      refine sm_T_go 4 (c1 := (23, [some (.inr (.inr (some (6, 0)))), some (.inl a1_), some (.inl a2_), some (.inl k_)], [.inl a2_, .inl 3, .inr (.inr (some (65, 0))), .inl (S_.2.2.1 65 0 (3 * a1_ + k_).toNat)], S_)) rfl ?_
      refine sm_T_bin (w := 3 * a2_) rfl (bi_mul (by omega) (by omega) (by omega)) ?_ -- pc_ 23
      refine sm_T_go 1 (c1 := (25, [some (.inr (.inr (some (6, 0)))), some (.inl a1_), some (.inl a2_), some (.inl k_)], [.inl k_, .inl (3 * a2_), .inr (.inr (some (65, 0))), .inl (S_.2.2.1 65 0 (3 * a1_ + k_).toNat)], S_)) rfl ?_
      refine sm_T_bin (w := 3 * a2_ + k_) rfl (bi_add (by omega) (by omega) (by omega)) ?_ -- pc_ 25
      refine sm_T_iald (n := 3072) rfl rfl (by omega) (by omega) ?_
      have bx3_ : (-1) ≤ S_.2.2.1 65 0 (3 * a2_ + k_).toNat ∧ S_.2.2.1 65 0 (3 * a2_ + k_).toNat ≤ 1012 := hI_.2 65 0 _
      refine sm_T_br (a := 0) (z := 32) rfl (fun cx4_ => ?_) (fun cx4_ => ?_)
      · have cx4_ : (S_.2.2.1 65 0 (3 * a1_ + k_).toNat) = (S_.2.2.1 65 0 (3 * a2_ + k_).toNat) := of_decide_eq_true cx4_
        refine sm_T_inc (a := 3) (z := 1) (v := k_) (w := k_ + 1) rfl rfl (by omega) (by omega) (by omega) ?_ -- pc_ 59
        refine sm_T_go 1 (c1 := (2, [some (.inr (.inr (some (6, 0)))), some (.inl a1_), some (.inl a2_), some (.inl (k_ + 1))], [], S_)) rfl ?_
        refine ih_ (k_ + 1) S_ hI_ hF_ ⟨?_, ?_, trivial⟩ ?_
        · omega
        · first | rfl | exact hS_
        · omega
      · have cx4_ : ¬ ((S_.2.2.1 65 0 (3 * a1_ + k_).toNat) = (S_.2.2.1 65 0 (3 * a2_ + k_).toNat)) := of_decide_eq_false cx4_
        refine sm_T_go 4 (c1 := (36, [some (.inr (.inr (some (6, 0)))), some (.inl a1_), some (.inl a2_), some (.inl k_)], [.inl a1_, .inl 3, .inr (.inr (some (65, 0)))], S_)) rfl ?_
        refine sm_T_bin (w := 3 * a1_) rfl (bi_mul (by omega) (by omega) (by omega)) ?_ -- pc_ 36
        refine sm_T_go 1 (c1 := (38, [some (.inr (.inr (some (6, 0)))), some (.inl a1_), some (.inl a2_), some (.inl k_)], [.inl k_, .inl (3 * a1_), .inr (.inr (some (65, 0)))], S_)) rfl ?_
        refine sm_T_bin (w := 3 * a1_ + k_) rfl (bi_add (by omega) (by omega) (by omega)) ?_ -- pc_ 38
        refine sm_T_iald (n := 3072) rfl rfl (by omega) (by omega) ?_
        refine sm_T_go 4 (c1 := (46, [some (.inr (.inr (some (6, 0)))), some (.inl a1_), some (.inl a2_), some (.inl k_)], [.inl a2_, .inl 3, .inr (.inr (some (65, 0))), .inl (S_.2.2.1 65 0 (3 * a1_ + k_).toNat)], S_)) rfl ?_
        refine sm_T_bin (w := 3 * a2_) rfl (bi_mul (by omega) (by omega) (by omega)) ?_ -- pc_ 46
        refine sm_T_go 1 (c1 := (48, [some (.inr (.inr (some (6, 0)))), some (.inl a1_), some (.inl a2_), some (.inl k_)], [.inl k_, .inl (3 * a2_), .inr (.inr (some (65, 0))), .inl (S_.2.2.1 65 0 (3 * a1_ + k_).toNat)], S_)) rfl ?_
        refine sm_T_bin (w := 3 * a2_ + k_) rfl (bi_add (by omega) (by omega) (by omega)) ?_ -- pc_ 48
        refine sm_T_iald (n := 3072) rfl rfl (by omega) (by omega) ?_
        refine sm_T_br (a := 3) (z := 7) rfl (fun cx5_ => ?_) (fun cx5_ => ?_)
        · have cx5_ : (S_.2.2.1 65 0 (3 * a2_ + k_).toNat) ≤ (S_.2.2.1 65 0 (3 * a1_ + k_).toNat) := of_decide_eq_true cx5_
          refine sm_T_go 1 (c1 := (58, [some (.inr (.inr (some (6, 0)))), some (.inl a1_), some (.inl a2_), some (.inl k_)], [.inl 0], S_)) rfl ?_
          refine sm_T_rz rfl (by omega) ⟨_, _, rfl, (by first | rfl | exact hS_.symm), _, rfl, ?_⟩
          omega
        · have cx5_ : ¬ ((S_.2.2.1 65 0 (3 * a2_ + k_).toNat) ≤ (S_.2.2.1 65 0 (3 * a1_ + k_).toNat)) := of_decide_eq_false cx5_
          refine sm_T_go 2 (c1 := (58, [some (.inr (.inr (some (6, 0)))), some (.inl a1_), some (.inl a2_), some (.inl k_)], [.inl 1], S_)) rfl ?_
          refine sm_T_rz rfl (by omega) ⟨_, _, rfl, (by first | rfl | exact hS_.symm), _, rfl, ?_⟩
          omega
set_option maxHeartbeats 400000 in
theorem vc_104 {sc_ : Nat × (Nat → Int)} (a1_ : Int) (a2_ : Int) (S0_ : sm_S) (hI_ : gi S0_) (h1_ : 0 ≤ a1_ ∧ a1_ ≤ 1023) (h2_ : 0 ≤ a2_ ∧ a2_ ≤ 1023) : sm_T (mt_P sc_) 0 104 (0, [some (.inr (.inr (some (6, 0)))), some (.inl a1_), some (.inl a2_), none], [], S0_) (fun ro9_ => ∃ u_ S1_, ro9_ = (.inl u_, S1_, 0) ∧ vq_104 a1_ a2_ S0_ u_ S1_) := by
  have hF_ : ai_fr (sx_W vw_104) S0_ S0_ := ai_fr_rf
  refine sm_T_go 2 (c1 := (2, [some (.inr (.inr (some (6, 0)))), some (.inl a1_), some (.inl a2_), some (.inl 0)], [], S0_)) rfl ?_
  refine (vl_104 a1_ a2_ S0_ h1_ h2_ _) 0 S0_ hI_ hF_ ⟨?_, ?_, trivial⟩ (Nat.lt_succ_self _)
  · omega
  · first | rfl | exact hS_

/-- members and cuts: nodes of_ a_ kind -/
def mms (P_ : Int → Prop) (S_ : sm_S) (k_ h_ : Int) : Prop := ∀ i_ : Nat, (i_ : Int) ≤ k_ → (i_ : Int) ≠ h_ → P_ (S_.2.2.1 68 0 i_)
def mcs (P_ : Int → Prop) (S_ : sm_S) : Prop := ∀ c_ : Nat, (c_ : Int) < S_.1 6 0 11 → P_ (S_.2.2.1 65 0 (3 * c_)) ∧ P_ (S_.2.2.1 65 0 (3 * c_ + 1)) ∧ (S_.2.2.1 65 0 (3 * c_ + 2) = -1 ∨ P_ (S_.2.2.1 65 0 (3 * c_ + 2)))
theorem mms_mv {P_ : Int → Prop} {S_ : sm_S} {k_ h_ : Int} (g_ : mms P_ S_ k_ h_) (h0_ : 1 ≤ h_ ∧ h_ ≤ k_) : mms P_ (sm_aI S_ 68 0 h_.toNat (S_.2.2.1 68 0 (h_ - 1).toNat)) k_ (h_ - 1) := by
  intro i_ hi_ hn_
  rw [rd_eq]
  by_cases y_ : i_ = h_.toNat
  · rw [if_pos y_]; exact g_ (h_ - 1).toNat (by omega) (by omega)
  · rw [if_neg y_]; exact g_ i_ hi_ (by omega)
