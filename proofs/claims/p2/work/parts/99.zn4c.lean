/-! Mapper.wantsInverter -/
def vw_96 : sx_Wl := ([], [], [])
def vq_96 (dd_ : Nat) (S0_ : sm_S) (u_ : Option sm_V) (S1_ : sm_S) : Prop := S0_ = S1_ ∧ ∃ v_ : Int, u_ = some (.inl v_) ∧ ((v_ = 0 ∨ v_ = 1) ∧ (v_ = 0 → ∀ i_ : Int, 0 ≤ i_ → i_ < S0_.1 3 dd_ 3 + S0_.1 3 dd_ 2 → i_xor (S0_.2.2.1 44 (0 + dd_) (rtv dd_ S0_ i_ / 2).toNat) (rtv dd_ S0_ i_ % 2) ≤ 1 ∨ i_xor (S0_.2.2.1 44 (0 + dd_) (rtv dd_ S0_ i_ / 2).toNat) (rtv dd_ S0_ i_ % 2) % 2 = 0))
set_option maxHeartbeats 400000 in
theorem vl_96 {sc_ : Nat × (Nat → Int)} (dd_ : Nat) (S0_ : sm_S) (hd_ : S0_.2.1 6 0 0 = some dd_) (hr_ : drt dd_ S0_) : ∀ nn_ : Nat, (∀ (k_ : Int) (S_ : sm_S), gi S_ → ai_fr (sx_W vw_96) S0_ S_ → ((0 ≤ k_ ∧ k_ ≤ 22) ∧ (∀ i_ : Int, 0 ≤ i_ → i_ < k_ → i_xor (S0_.2.2.1 44 (0 + dd_) (rtv dd_ S0_ i_ / 2).toNat) (rtv dd_ S0_ i_ % 2) ≤ 1 ∨ i_xor (S0_.2.2.1 44 (0 + dd_) (rtv dd_ S0_ i_ / 2).toNat) (rtv dd_ S0_ i_ % 2) % 2 = 0) ∧ (S_ = S0_) ∧ True) → ((100 - k_).toNat) < nn_ → sm_T (mt_P sc_) 1 96 (2, [some (.inr (.inr (some (6, 0)))), some (.inl k_), none], [], S_) (fun ro9_ => ∃ u_ S1_, ro9_ = (.inl u_, S1_, 0) ∧ vq_96 dd_ S0_ u_ S1_)) := by
  intro nn_
  induction nn_ with
  | zero => exact fun _ _ _ _ _ h_ => absurd h_ (Nat.not_lt_zero _)
  | succ nn_ ih_ =>
    rintro k_ S_ hI_ hF_ ⟨h0_, hi_, hS_, -⟩ hm_
    have r1_ := hr_.1
    have f2_ : S_.1 3 dd_ 2 = S0_.1 3 dd_ 2 := by rw [hS_]
    have f3_ : S_.1 3 dd_ 3 = S0_.1 3 dd_ 3 := by rw [hS_]
    refine sm_T_go 2 (c1 := (4, [some (.inr (.inr (some (6, 0)))), some (.inl k_), none], [.inr (.inr (some (6, 0))), .inl k_], S_)) rfl ?_
    refine sm_T_gr rfl rfl ((hF_.2.1 6 0 0 rfl).trans hd_) ?_
    refine sm_T_cal (d1 := 0) (Q1 := vq_66 dd_ S_) rfl rfl (by decide) (vc_66 dd_ S_ hI_ (by omega)) (fun u_ Sx1_ px4_ => ?_)
    obtain ⟨rfl, vx6_, rfl, px4_⟩ := px4_
    have r7_ := px4_
    refine sm_T_br (a := 3) (z := 38) rfl (fun cx7_ => ?_) (fun cx7_ => ?_)
    · have cx7_ : vx6_ ≤ k_ := of_decide_eq_true cx7_
      refine sm_T_go 1 (c1 := (49, [some (.inr (.inr (some (6, 0)))), some (.inl k_), none], [.inl 0], S_)) rfl ?_
      refine sm_T_rz rfl (by omega) ⟨_, _, rfl, (by first | rfl | exact hS_.symm), _, rfl, ?_⟩
      exact ⟨Or.inl rfl, fun _ i_ u_ w_ => hi_ i_ u_ (by omega)⟩
    · have cx7_ : ¬ (vx6_ ≤ k_) := of_decide_eq_false cx7_
      refine sm_T_go 1 (c1 := (14, [some (.inr (.inr (some (6, 0)))), some (.inl k_), none], [.inr (.inr (some (6, 0)))], S_)) rfl ?_
      refine sm_T_gr rfl rfl ((hF_.2.1 6 0 0 rfl).trans hd_) ?_
      refine sm_T_go 1 (c1 := (18, [some (.inr (.inr (some (6, 0)))), some (.inl k_), none], [.inr (.inr (some (6, 0))), .inr (.inr (some (3, dd_)))], S_)) rfl ?_
      refine sm_T_gr rfl rfl ((hF_.2.1 6 0 0 rfl).trans hd_) ?_
      refine sm_T_go 1 (c1 := (22, [some (.inr (.inr (some (6, 0)))), some (.inl k_), none], [.inl k_, .inr (.inr (some (3, dd_))), .inr (.inr (some (3, dd_)))], S_)) rfl ?_
      refine sm_T_cal (d1 := 0) (Q1 := vq_65 k_ dd_ S_) rfl rfl (by decide) (vc_65 k_ dd_ S_ hI_ (by (rw [hS_]; exact hr_)) (by omega)) (fun u_ Sx8_ px11_ => ?_)
      obtain ⟨rfl, vx13_, rfl, px11_⟩ := px11_
      have t22_ := px11_
      have n22_ : S_.1 3 dd_ 4 ≤ 1013 := (hI_.1 3 dd_ 4 rfl).2
      refine sm_T_cal (d1 := 0) (Q1 := vq_64 vx13_ dd_ S_) rfl rfl (by decide) (vc_64 vx13_ dd_ S_ hI_ (by omega)) (fun u_ Sx14_ px17_ => ?_)
      obtain ⟨rfl, vx19_, rfl, px17_⟩ := px17_
      have e25_ := px17_
      rw [t22_.1, hS_] at e25_
      refine sm_T_go 3 (c1 := (31, [some (.inr (.inr (some (6, 0)))), some (.inl k_), some (.inl vx19_)], [.inl 1, .inl vx19_], S_)) rfl ?_
      refine sm_T_br (a := 5) (z := 11) rfl (fun cx20_ => ?_) (fun cx20_ => ?_)
      · have cx20_ : vx19_ ≤ 1 := of_decide_eq_true cx20_
        refine sm_T_inc (a := 1) (z := 1) (v := k_) (w := k_ + 1) rfl rfl (by omega) (by omega) (by omega) ?_ -- pc_ 42
        refine sm_T_go 1 (c1 := (2, [some (.inr (.inr (some (6, 0)))), some (.inl (k_ + 1)), some (.inl vx19_)], [], S_)) rfl ?_
        refine sm_T_wk [some (.inr (.inr (some (6, 0)))), some (.inl (k_ + 1)), none] (by exact ⟨rfl, rfl, trivial⟩) ?_
        refine ih_ (k_ + 1) S_ hI_ hF_ ⟨?_, ?_, ?_, trivial⟩ ?_
        · omega
        · intro i_ u_ w_
          by_cases y_ : i_ = k_
          · rw [y_, ← e25_]; omega
          · exact hi_ i_ u_ (by omega)
        · first | rfl | exact hS_
        · omega
      · have cx20_ : ¬ (vx19_ ≤ 1) := of_decide_eq_false cx20_
        refine sm_T_go 2 (c1 := (36, [some (.inr (.inr (some (6, 0)))), some (.inl k_), some (.inl vx19_)], [.inl 1, .inl vx19_], S_)) rfl ?_
        refine sm_T_bin (w := (vx19_ % 2)) rfl (bi_msk (k := 1) (by decide)) ?_ -- pc_ 36
        refine sm_T_b0 (a := 0) (z := 5) rfl (fun cx21_ => ?_) (fun cx21_ => ?_)
        · have cx21_ : (vx19_ % 2) = 0 := of_decide_eq_true cx21_
          refine sm_T_inc (a := 1) (z := 1) (v := k_) (w := k_ + 1) rfl rfl (by omega) (by omega) (by omega) ?_ -- pc_ 42
          refine sm_T_go 1 (c1 := (2, [some (.inr (.inr (some (6, 0)))), some (.inl (k_ + 1)), some (.inl vx19_)], [], S_)) rfl ?_
          refine sm_T_wk [some (.inr (.inr (some (6, 0)))), some (.inl (k_ + 1)), none] (by exact ⟨rfl, rfl, trivial⟩) ?_
          refine ih_ (k_ + 1) S_ hI_ hF_ ⟨?_, ?_, ?_, trivial⟩ ?_
          · omega
          · intro i_ u_ w_
            by_cases y_ : i_ = k_
            · rw [y_, ← e25_]; omega
            · exact hi_ i_ u_ (by omega)
          · first | rfl | exact hS_
          · omega
        · have cx21_ : ¬ ((vx19_ % 2) = 0) := of_decide_eq_false cx21_
          refine sm_T_go 1 (c1 := (41, [some (.inr (.inr (some (6, 0)))), some (.inl k_), some (.inl vx19_)], [.inl 1], S_)) rfl ?_
          refine sm_T_rz rfl (by omega) ⟨_, _, rfl, (by first | rfl | exact hS_.symm), _, rfl, ?_⟩
          exact ⟨Or.inr rfl, fun u_ => absurd u_ (by decide)⟩
set_option maxHeartbeats 400000 in
theorem vc_96 {sc_ : Nat × (Nat → Int)} (dd_ : Nat) (S0_ : sm_S) (hI_ : gi S0_) (hd_ : S0_.2.1 6 0 0 = some dd_) (hr_ : drt dd_ S0_) : sm_T (mt_P sc_) 1 96 (0, [some (.inr (.inr (some (6, 0)))), none, none], [], S0_) (fun ro9_ => ∃ u_ S1_, ro9_ = (.inl u_, S1_, 0) ∧ vq_96 dd_ S0_ u_ S1_) := by
  have hF_ : ai_fr (sx_W vw_96) S0_ S0_ := ai_fr_rf
  refine sm_T_go 2 (c1 := (2, [some (.inr (.inr (some (6, 0)))), some (.inl 0), none], [], S0_)) rfl ?_
  refine (vl_96 dd_ S0_ hd_ hr_ _) 0 S0_ hI_ hF_ ⟨?_, ?_, ?_, trivial⟩ (Nat.lt_succ_self _)
  · omega
  · (intro i_ u_ w_; exfalso; omega)
  · first | rfl | exact hS_
