/-! tasks done; written by wip/p55/gen/vg -/

/-! tasks done -/
theorem gtk_iv {f_ N_ : Int} {ll_ : Nat} {S_ : sm_S} {t_ : Int} (h_ : wal f_ N_ ll_ S_) (hf_ : 1 ≤ f_) (g_ : gtk f_ N_ (S_.1 5 ll_ 2) (S_.2.2.1 59 0) (S_.2.2.1 62 0) t_) (hi_ : ¬ (t_ / 3 < f_ ∧ t_ % 3 = 0)) (q_ : t_ % 3 = 2 ∨ S_.2.2.1 62 0 (2 * (t_ / 3) + t_ % 3).toNat < 0) : S_.1 5 ll_ 2 ≠ -1 := by
  obtain ⟨g1_, g2_, g3_, g4_⟩ := g_
  rcases g4_ with ⟨g4_, g5_, g6_⟩ | ⟨g4_, g6_⟩
  · exact g5_
  · have g7_ : f_ ≤ t_ / 3 ∧ S_.2.2.1 62 0 (2 * (t_ / 3) + t_ % 3).toNat ≠ -1 := by
      rcases g6_ with g6_ | g6_
      · exact absurd g6_ hi_
      · exact g6_
    have g8_ := wal_w h_ hf_ g7_.1 (by omega) g3_ (t_ := t_ % 3) (by omega)
    rcases g8_ with (g8_ | g8_) | g8_
    · exact absurd g8_.1 g7_.2
    · have := g8_.1; omega
    · exact g8_.2.2.1
/-! Mapper.missingPart -/
def vw_113 : sx_Wl := ([], [], [])
def vq_113 (a1_ : Int) (dd_ : Nat) (ll_ : Nat) (S0_ : sm_S) (u_ : Option sm_V) (S1_ : sm_S) : Prop := S0_ = S1_ ∧ ∃ v_ : Int, u_ = some (.inl v_) ∧ ((v_ = -1 ∧ ∀ k_ : Int, 0 ≤ k_ → k_ < pno (S0_.2.2.1 62 0) (S0_.2.2.1 55 (0 + ll_)) a1_ → S0_.2.2.1 72 0 (ptv (1 + S0_.1 3 dd_ 1 + S0_.1 3 dd_ 2) (S0_.2.2.1 60 0) (S0_.2.2.1 62 0) (S0_.2.2.1 63 0) (S0_.2.2.1 64 0) a1_ k_).toNat ≠ -1) ∨ (v_ ≠ -1 ∧ gtk (1 + S0_.1 3 dd_ 1 + S0_.1 3 dd_ 2) (S0_.1 3 dd_ 4) (S0_.1 5 ll_ 2) (S0_.2.2.1 59 0) (S0_.2.2.1 62 0) v_ ∧ grk (S0_.2.2.1 62 0) v_ < grk (S0_.2.2.1 62 0) a1_))
set_option maxHeartbeats 400000 in
theorem vl_113 {sc_ : Nat × (Nat → Int)} (a1_ : Int) (dd_ : Nat) (ll_ : Nat) (S0_ : sm_S) (hd_ : S0_.2.1 6 0 0 = some dd_) (hc_ : S0_.2.1 6 0 1 = some ll_) (hw_ : wal (1 + S0_.1 3 dd_ 1 + S0_.1 3 dd_ 2) (S0_.1 3 dd_ 4) ll_ S0_) (hgt_ : gtk (1 + S0_.1 3 dd_ 1 + S0_.1 3 dd_ 2) (S0_.1 3 dd_ 4) (S0_.1 5 ll_ 2) (S0_.2.2.1 59 0) (S0_.2.2.1 62 0) a1_) (hni_ : ¬ (a1_ / 3 < (1 + S0_.1 3 dd_ 1 + S0_.1 3 dd_ 2) ∧ a1_ % 3 = 0)) : ∀ nn_ : Nat, (∀ (k_ : Int) (S_ : sm_S), gi S_ → ai_fr (sx_W vw_113) S0_ S_ → ((0 ≤ k_ ∧ k_ ≤ 3) ∧ (∀ j_ : Int, 0 ≤ j_ → j_ < k_ → S0_.2.2.1 72 0 (ptv (1 + S0_.1 3 dd_ 1 + S0_.1 3 dd_ 2) (S0_.2.2.1 60 0) (S0_.2.2.1 62 0) (S0_.2.2.1 63 0) (S0_.2.2.1 64 0) a1_ j_).toNat ≠ -1) ∧ (S_ = S0_) ∧ True) → ((100 - k_).toNat) < nn_ → sm_T (mt_P sc_) 3 113 (2, [some (.inr (.inr (some (6, 0)))), some (.inl a1_), some (.inl k_), none], [], S_) (fun ro9_ => ∃ u_ S1_, ro9_ = (.inl u_, S1_, 0) ∧ vq_113 a1_ dd_ ll_ S0_ u_ S1_)) := by
  intro nn_
  induction nn_ with
  | zero => exact fun _ _ _ _ _ h_ => absurd h_ (Nat.not_lt_zero _)
  | succ nn_ ih_ =>
    rintro k_ S_ hI_ hF_ ⟨h0_, hk9_, hS_, -⟩ hm_
    have cI_ : 0 ≤ S_.1 3 dd_ 1 ∧ S_.1 3 dd_ 1 ≤ 320 := hI_.1 3 dd_ 1 rfl
    have cR_ : 0 ≤ S_.1 3 dd_ 2 ∧ S_.1 3 dd_ 2 ≤ 100000 := hI_.1 3 dd_ 2 rfl
    have cN_ : 0 ≤ S_.1 3 dd_ 4 ∧ S_.1 3 dd_ 4 ≤ 1013 := hI_.1 3 dd_ 4 rfl
    have f1_ : S_.1 3 dd_ 1 = S0_.1 3 dd_ 1 := by rw [hS_]
    have f2_ : S_.1 3 dd_ 2 = S0_.1 3 dd_ 2 := by rw [hS_]
    have f4_ : S_.1 3 dd_ 4 = S0_.1 3 dd_ 4 := by rw [hS_]
    have hf_ : 1 ≤ (1 + S0_.1 3 dd_ 1 + S0_.1 3 dd_ 2) := by omega
    have t1_ := hgt_.1
    have t2_ := hgt_.2.1
    refine sm_T_go 3 (c1 := (5, [some (.inr (.inr (some (6, 0)))), some (.inl a1_), some (.inl k_), none], [.inl a1_, .inr (.inr (some (6, 0))), .inl k_], S_)) rfl ?_
    refine sm_T_cal (d1 := 0) (Q1 := vq_111 a1_ ll_ S_) rfl rfl (by decide) (vc_111 a1_ ll_ S_ hI_ (by (rw [hS_]; exact hc_)) (by omega)) (fun u_ Sx1_ px4_ => ?_)
    obtain ⟨rfl, vx6_, rfl, px4_⟩ := px4_
    have a5_ := px4_
    rw [hS_] at a5_
    refine sm_T_br (a := 3) (z := 28) rfl (fun cx7_ => ?_) (fun cx7_ => ?_)
    · have cx7_ : vx6_ ≤ k_ := of_decide_eq_true cx7_
      refine sm_T_go 1 (c1 := (37, [some (.inr (.inr (some (6, 0)))), some (.inl a1_), some (.inl k_), none], [.inl (-1)], S_)) rfl ?_
      refine sm_T_ri rfl ⟨_, _, rfl, (by first | rfl | exact hS_.symm), _, rfl, ?_⟩
      left
      exact ⟨rfl, fun j_ u_ w_ => hk9_ j_ u_ (by omega)⟩
    · have cx7_ : ¬ (vx6_ ≤ k_) := of_decide_eq_false cx7_
      refine sm_T_go 3 (c1 := (14, [some (.inr (.inr (some (6, 0)))), some (.inl a1_), some (.inl k_), none], [.inl k_, .inl a1_, .inr (.inr (some (6, 0)))], S_)) rfl ?_
      refine sm_T_cal (d1 := 2) (Q1 := vq_112 a1_ k_ dd_ S_) rfl rfl (by decide) (vc_112 a1_ k_ dd_ S_ hI_ (by (rw [hS_]; exact hd_)) (by omega) (by omega)) (fun u_ Sx8_ px11_ => ?_)
      obtain ⟨rfl, vx13_, rfl, px11_⟩ := px11_
      have a14_ : vx13_ = ptv (1 + S0_.1 3 dd_ 1 + S0_.1 3 dd_ 2) (S0_.2.2.1 60 0) (S0_.2.2.1 62 0) (S0_.2.2.1 63 0) (S0_.2.2.1 64 0) a1_ k_ := by (have z9_ := px11_; rw [hS_] at z9_; exact z9_)
      have gp_ := gtk_p hw_ hf_ hgt_ hni_ (k_ := k_) (by omega)
      rw [← a14_] at gp_
      have g13_ := gp_.1.1
      have g14_ := gp_.1.2.1
      refine sm_T_go 4 (c1 := (23, [some (.inr (.inr (some (6, 0)))), some (.inl a1_), some (.inl k_), some (.inl vx13_)], [.inl vx13_, .inr (.inr (some (72, 0)))], S_)) rfl ?_
      refine sm_T_iald (n := 3039) rfl rfl (by omega) (by omega) ?_
      have bx14_ : (-1) ≤ S_.2.2.1 72 0 vx13_.toNat ∧ S_.2.2.1 72 0 vx13_.toNat ≤ 161 := hI_.2 72 0 _
      refine sm_T_go 1 (c1 := (25, [some (.inr (.inr (some (6, 0)))), some (.inl a1_), some (.inl k_), some (.inl vx13_)], [.inl (-1), .inl (S_.2.2.1 72 0 vx13_.toNat)], S_)) rfl ?_
      refine sm_T_br (a := 1) (z := 5) rfl (fun cx15_ => ?_) (fun cx15_ => ?_)
      · have cx15_ : (S_.2.2.1 72 0 vx13_.toNat) ≠ (-1) := of_decide_eq_true cx15_
        refine sm_T_inc (a := 2) (z := 1) (v := k_) (w := k_ + 1) rfl rfl (by omega) (by omega) (by omega) ?_ -- pc_ 30
        refine sm_T_go 1 (c1 := (2, [some (.inr (.inr (some (6, 0)))), some (.inl a1_), some (.inl (k_ + 1)), some (.inl vx13_)], [], S_)) rfl ?_
        refine sm_T_wk [some (.inr (.inr (some (6, 0)))), some (.inl a1_), some (.inl (k_ + 1)), none] (by exact ⟨rfl, rfl, rfl, trivial⟩) ?_
        refine ih_ (k_ + 1) S_ hI_ hF_ ⟨?_, ?_, ?_, trivial⟩ ?_
        · omega
        · intro j_ u_ w_
          by_cases y_ : j_ = k_
          · rw [y_, ← a14_, ← hS_]; omega
          · exact hk9_ j_ u_ (by omega)
        · first | rfl | exact hS_
        · omega
      · have cx15_ : ¬ ((S_.2.2.1 72 0 vx13_.toNat) ≠ (-1)) := of_decide_eq_false cx15_
        refine sm_T_go 1 (c1 := (29, [some (.inr (.inr (some (6, 0)))), some (.inl a1_), some (.inl k_), some (.inl vx13_)], [.inl vx13_], S_)) rfl ?_
        refine sm_T_ri rfl ⟨_, _, rfl, (by first | rfl | exact hS_.symm), _, rfl, ?_⟩
        right
        exact ⟨by omega, gp_.1, gp_.2⟩
set_option maxHeartbeats 400000 in
theorem vc_113 {sc_ : Nat × (Nat → Int)} (a1_ : Int) (dd_ : Nat) (ll_ : Nat) (S0_ : sm_S) (hI_ : gi S0_) (hd_ : S0_.2.1 6 0 0 = some dd_) (hc_ : S0_.2.1 6 0 1 = some ll_) (hw_ : wal (1 + S0_.1 3 dd_ 1 + S0_.1 3 dd_ 2) (S0_.1 3 dd_ 4) ll_ S0_) (hgt_ : gtk (1 + S0_.1 3 dd_ 1 + S0_.1 3 dd_ 2) (S0_.1 3 dd_ 4) (S0_.1 5 ll_ 2) (S0_.2.2.1 59 0) (S0_.2.2.1 62 0) a1_) (hni_ : ¬ (a1_ / 3 < (1 + S0_.1 3 dd_ 1 + S0_.1 3 dd_ 2) ∧ a1_ % 3 = 0)) : sm_T (mt_P sc_) 3 113 (0, [some (.inr (.inr (some (6, 0)))), some (.inl a1_), none, none], [], S0_) (fun ro9_ => ∃ u_ S1_, ro9_ = (.inl u_, S1_, 0) ∧ vq_113 a1_ dd_ ll_ S0_ u_ S1_) := by
  have hF_ : ai_fr (sx_W vw_113) S0_ S0_ := ai_fr_rf
  have cI_ : 0 ≤ S0_.1 3 dd_ 1 ∧ S0_.1 3 dd_ 1 ≤ 320 := hI_.1 3 dd_ 1 rfl
  have cR_ : 0 ≤ S0_.1 3 dd_ 2 ∧ S0_.1 3 dd_ 2 ≤ 100000 := hI_.1 3 dd_ 2 rfl
  have cN_ : 0 ≤ S0_.1 3 dd_ 4 ∧ S0_.1 3 dd_ 4 ≤ 1013 := hI_.1 3 dd_ 4 rfl
  have hf_ : 1 ≤ (1 + S0_.1 3 dd_ 1 + S0_.1 3 dd_ 2) := by omega
  have t1_ := hgt_.1
  have t2_ := hgt_.2.1
  refine sm_T_go 2 (c1 := (2, [some (.inr (.inr (some (6, 0)))), some (.inl a1_), some (.inl 0), none], [], S0_)) rfl ?_
  refine (vl_113 a1_ dd_ ll_ S0_ hd_ hc_ hw_ hgt_ hni_ _) 0 S0_ hI_ hF_ ⟨?_, ?_, ?_, trivial⟩ (Nat.lt_succ_self _)
  · omega
  · (intro j_ u_ w_; exfalso; omega)
  · first | rfl | exact hS_
