/-! 99.zm1a -/
section
/-! times and waves; written by wip/p55/gen/vg -/

/-! times and waves -/
theorem dvt {x_ y_ : Int} (hx_ : -2147483648 < x_ ∧ x_ ≤ 2147483647) (hy_ : 0 < y_ ∧ y_ ≤ 2147483647) : (Int32.ofInt x_ / Int32.ofInt y_).toInt = Int.tdiv x_ y_ := by
  have e1_ : (Int32.ofInt x_).toInt = x_ := Int32.toInt_ofInt_of_le (by omega) (by omega)
  have e2_ : (Int32.ofInt y_).toInt = y_ := Int32.toInt_ofInt_of_le (by omega) (by omega)
  rw [Int32.toInt_div, e1_, e2_]
  apply Int.bmod_eq_of_le
  · have : (Int.tdiv x_ y_).natAbs ≤ x_.natAbs := Int.natAbs_tdiv_le_natAbs x_ y_
    omega
  · have : (Int.tdiv x_ y_).natAbs ≤ x_.natAbs := Int.natAbs_tdiv_le_natAbs x_ y_
    omega
theorem tdv_b {x_ y_ M_ : Int} (hx_ : -M_ ≤ x_ ∧ x_ ≤ M_) (_hy : 0 < y_) : -M_ ≤ Int.tdiv x_ y_ ∧ Int.tdiv x_ y_ ≤ M_ := by
  have : (Int.tdiv x_ y_).natAbs ≤ x_.natAbs := Int.natAbs_tdiv_le_natAbs x_ y_
  omega
theorem bi_dvt {x_ y_ : Int} (hx_ : -2147483648 < x_ ∧ x_ ≤ 2147483647) (hy_ : 0 < y_ ∧ y_ ≤ 2147483647) : sm_bin 8 x_ y_ = some (Int.tdiv x_ y_) := by
  show (if Int32.ofInt y_ = 0 then none else some _) = some _
  rw [if_neg (bi_n0 hy_.1 hy_.2), dvt hx_ hy_]
/-! Times.measure -/
def vw_196 : sx_Wl := ([], [99], [])
def vq_196 (cc_ : Nat) (S0_ : sm_S) (u_ : Option sm_V) (S1_ : sm_S) : Prop := u_ = none ∧ gi S1_ ∧ ai_fr (sx_W vw_196) S0_ S1_ ∧ (True)
set_option maxHeartbeats 400000 in
theorem vl_196 {sc_ : Nat × (Nat → Int)} (cc_ : Nat) (S0_ : sm_S) (hs_ : S0_.1 2 cc_ 1 + S0_.1 2 cc_ 2 ≤ 12) : ∀ nn_ : Nat, (∀ (n_ : Int) (S_ : sm_S), gi S_ → ai_fr (sx_W vw_196) S0_ S_ → ((0 ≤ n_ ∧ n_ ≤ 162) ∧ True) → ((500 - n_).toNat) < nn_ → sm_T (mt_P sc_) 1 196 (2, [some (.inr (.inr (some (11, 0)))), some (.inr (.inr (some (2, cc_)))), some (.inl n_), none, none], [], S_) (fun ro9_ => ∃ u_ S1_, ro9_ = (.inl u_, S1_, 0) ∧ vq_196 cc_ S0_ u_ S1_)) := by
  intro nn_
  induction nn_ with
  | zero => exact fun _ _ _ _ _ h_ => absurd h_ (Nat.not_lt_zero _)
  | succ nn_ ih_ =>
    rintro n_ S_ hI_ hF_ ⟨h0_, -⟩ hm_
    have z1_ : S_.1 2 cc_ 1 = S0_.1 2 cc_ 1 := hF_.1 2 cc_ 1 rfl
    have z2_ : S_.1 2 cc_ 2 = S0_.1 2 cc_ 2 := hF_.1 2 cc_ 2 rfl
    have cg9_ : 0 ≤ S_.1 2 cc_ 8 ∧ S_.1 2 cc_ 8 ≤ 150 := hI_.1 2 cc_ 8 rfl
    have ci_ : 0 ≤ S_.1 2 cc_ 1 ∧ S_.1 2 cc_ 1 ≤ 12 := hI_.1 2 cc_ 1 rfl
    have cr : 0 ≤ S_.1 2 cc_ 2 ∧ S_.1 2 cc_ 2 ≤ 6 := hI_.1 2 cc_ 2 rfl
    refine sm_T_go 2 (c1 := (4, [some (.inr (.inr (some (11, 0)))), some (.inr (.inr (some (2, cc_)))), some (.inl n_), none, none], [.inr (.inr (some (2, cc_))), .inl n_], S_)) rfl ?_
    refine sm_T_cal (d1 := 0) (Q1 := vq_55 cc_ S_) rfl rfl (by decide) (vc_55 cc_ S_ hI_ ) (fun u_ Sx1_ px4_ => ?_)
    obtain ⟨rfl, vx6_, rfl, px4_⟩ := px4_
    have nt4_ := px4_.2
    refine sm_T_br (a := 3) (z := 88) rfl (fun cx7_ => ?_) (fun cx7_ => ?_)
    · have cx7_ : vx6_ ≤ n_ := of_decide_eq_true cx7_
      refine sm_T_rv rfl ⟨_, _, rfl, rfl, hI_, hF_, ?_⟩
      trivial
    · have cx7_ : ¬ (vx6_ ≤ n_) := of_decide_eq_false cx7_
      refine sm_T_go 2 (c1 := (12, [some (.inr (.inr (some (11, 0)))), some (.inr (.inr (some (2, cc_)))), some (.inl n_), none, none], [.inr (.inr (some (2, cc_))), .inl n_], S_)) rfl ?_
      refine sm_T_cal (d1 := 0) (Q1 := vq_54 cc_ S_) rfl rfl (by decide) (vc_54 cc_ S_ hI_ ) (fun u_ Sx8_ px11_ => ?_)
      obtain ⟨rfl, vx13_, rfl, px11_⟩ := px11_
      have fg12_ := px11_.2
      refine sm_T_br (a := 3) (z := 7) rfl (fun cx14_ => ?_) (fun cx14_ => ?_)
      · have cx14_ : vx13_ ≤ n_ := of_decide_eq_true cx14_
        refine sm_T_go 7 (c1 := (35, [some (.inr (.inr (some (11, 0)))), some (.inr (.inr (some (2, cc_)))), some (.inl n_), none, none], [.inr (.inr (some (2, cc_))), .inl n_, .inr (.inr (some (35, (0 + cc_)))), .inr (.inr (some (58, (0 + (3 + cc_)))))], S_)) rfl ?_
        refine sm_T_cal (d1 := 0) (Q1 := vq_54 cc_ S_) rfl rfl (by decide) (vc_54 cc_ S_ hI_ ) (fun u_ Sx15_ px18_ => ?_)
        obtain ⟨rfl, vx20_, rfl, px18_⟩ := px18_
        have fg35_ := px18_.2
        refine sm_T_bin (w := n_ - vx20_) rfl (bi_sub (by omega) (by omega) (by omega)) ?_ -- pc_ 38
        refine sm_T_iald (n := 150) rfl rfl (by omega) (by omega) ?_
        have bx21_ : 0 ≤ S_.2.2.1 35 (0 + cc_) (n_ - vx20_).toNat ∧ S_.2.2.1 35 (0 + cc_) (n_ - vx20_).toNat ≤ 11 := hI_.2 35 (0 + cc_) _
        refine sm_T_iald (n := 12) rfl rfl (by omega) (by omega) ?_
        have bx22_ : 0 ≤ S_.2.2.1 58 (0 + (3 + cc_)) (S_.2.2.1 35 (0 + cc_) (n_ - vx20_).toNat).toNat ∧ S_.2.2.1 58 (0 + (3 + cc_)) (S_.2.2.1 35 (0 + cc_) (n_ - vx20_).toNat).toNat ≤ 100 := hI_.2 58 (0 + (3 + cc_)) _
        refine sm_T_go 5 (c1 := (50, [some (.inr (.inr (some (11, 0)))), some (.inr (.inr (some (2, cc_)))), some (.inl n_), some (.inl (S_.2.2.1 58 (0 + (3 + cc_)) (S_.2.2.1 35 (0 + cc_) (n_ - vx20_).toNat).toNat)), none], [.inl n_, .inr (.inr (some (21, (0 + (0 + cc_)))))], S_)) rfl ?_
        refine sm_T_iald (n := 162) rfl rfl (by omega) (by omega) ?_
        have bx23_ : (-9999) ≤ S_.2.2.1 21 (0 + (0 + cc_)) n_.toNat ∧ S_.2.2.1 21 (0 + (0 + cc_)) n_.toNat ≤ 20000 := hI_.2 21 (0 + (0 + cc_)) _
        refine sm_T_go 1 (c1 := (52, [some (.inr (.inr (some (11, 0)))), some (.inr (.inr (some (2, cc_)))), some (.inl n_), some (.inl (S_.2.2.1 58 (0 + (3 + cc_)) (S_.2.2.1 35 (0 + cc_) (n_ - vx20_).toNat).toNat)), none], [.inl 4, .inl (S_.2.2.1 21 (0 + (0 + cc_)) n_.toNat)], S_)) rfl ?_
        refine sm_T_bin (w := (Int.tdiv (S_.2.2.1 21 (0 + (0 + cc_)) n_.toNat) 4)) rfl (bi_dvt (by omega) (by omega)) ?_ -- pc_ 52
        have bx24_ := tdv_b (x_ := (S_.2.2.1 21 (0 + (0 + cc_)) n_.toNat)) (y_ := 4) (M_ := 20000) (by omega) (by omega)
        have bx25_ : 0 ≤ S_.1 2 cc_ 1 ∧ S_.1 2 cc_ 1 ≤ 12 := hI_.1 2 cc_ 1 rfl
        refine sm_T_go 7 (c1 := (65, [some (.inr (.inr (some (11, 0)))), some (.inr (.inr (some (2, cc_)))), some (.inl n_), some (.inl (S_.2.2.1 58 (0 + (3 + cc_)) (S_.2.2.1 35 (0 + cc_) (n_ - vx20_).toNat).toNat)), some (.inl (Int.tdiv (S_.2.2.1 21 (0 + (0 + cc_)) n_.toNat) 4))], [.inl (S_.1 2 cc_ 1), .inl n_, .inl n_, .inr (.inr (some (99, 0)))], S_)) rfl ?_
        refine sm_T_br (a := 3) (z := 7) rfl (fun cx26_ => ?_) (fun cx26_ => ?_)
        · have cx26_ : (S_.1 2 cc_ 1) ≤ n_ := of_decide_eq_true cx26_
          refine sm_T_go 5 (c1 := (81, [some (.inr (.inr (some (11, 0)))), some (.inr (.inr (some (2, cc_)))), some (.inl n_), some (.inl (S_.2.2.1 58 (0 + (3 + cc_)) (S_.2.2.1 35 (0 + cc_) (n_ - vx20_).toNat).toNat)), some (.inl (Int.tdiv (S_.2.2.1 21 (0 + (0 + cc_)) n_.toNat) 4))], [.inl n_, .inr (.inr (some (20, (0 + (0 + cc_))))), .inl (S_.2.2.1 58 (0 + (3 + cc_)) (S_.2.2.1 35 (0 + cc_) (n_ - vx20_).toNat).toNat), .inl n_, .inr (.inr (some (99, 0)))], S_)) rfl ?_
          refine sm_T_iald (n := 162) rfl rfl (by omega) (by omega) ?_
          have bx27_ : 0 ≤ S_.2.2.1 20 (0 + (0 + cc_)) n_.toNat ∧ S_.2.2.1 20 (0 + (0 + cc_)) n_.toNat ≤ 652 := hI_.2 20 (0 + (0 + cc_)) _
          refine sm_T_bin (w := (S_.2.2.1 58 (0 + (3 + cc_)) (S_.2.2.1 35 (0 + cc_) (n_ - vx20_).toNat).toNat) + (S_.2.2.1 20 (0 + (0 + cc_)) n_.toNat)) rfl (bi_add (by omega) (by omega) (by omega)) ?_ -- pc_ 82
          refine sm_T_go 1 (c1 := (84, [some (.inr (.inr (some (11, 0)))), some (.inr (.inr (some (2, cc_)))), some (.inl n_), some (.inl (S_.2.2.1 58 (0 + (3 + cc_)) (S_.2.2.1 35 (0 + cc_) (n_ - vx20_).toNat).toNat)), some (.inl (Int.tdiv (S_.2.2.1 21 (0 + (0 + cc_)) n_.toNat) 4))], [.inl 1, .inl ((S_.2.2.1 58 (0 + (3 + cc_)) (S_.2.2.1 35 (0 + cc_) (n_ - vx20_).toNat).toNat) + (S_.2.2.1 20 (0 + (0 + cc_)) n_.toNat)), .inl n_, .inr (.inr (some (99, 0)))], S_)) rfl ?_
          refine sm_T_bin (w := (S_.2.2.1 58 (0 + (3 + cc_)) (S_.2.2.1 35 (0 + cc_) (n_ - vx20_).toNat).toNat) + (S_.2.2.1 20 (0 + (0 + cc_)) n_.toNat) - 1) rfl (bi_sub (by omega) (by omega) (by omega)) ?_ -- pc_ 84
          refine sm_T_go 1 (c1 := (87, [some (.inr (.inr (some (11, 0)))), some (.inr (.inr (some (2, cc_)))), some (.inl n_), some (.inl (S_.2.2.1 58 (0 + (3 + cc_)) (S_.2.2.1 35 (0 + cc_) (n_ - vx20_).toNat).toNat)), some (.inl (Int.tdiv (S_.2.2.1 21 (0 + (0 + cc_)) n_.toNat) 4))], [.inl (Int.tdiv (S_.2.2.1 21 (0 + (0 + cc_)) n_.toNat) 4), .inl ((S_.2.2.1 58 (0 + (3 + cc_)) (S_.2.2.1 35 (0 + cc_) (n_ - vx20_).toNat).toNat) + (S_.2.2.1 20 (0 + (0 + cc_)) n_.toNat) - 1), .inl n_, .inr (.inr (some (99, 0)))], S_)) rfl ?_
          refine sm_T_bin (w := (S_.2.2.1 58 (0 + (3 + cc_)) (S_.2.2.1 35 (0 + cc_) (n_ - vx20_).toNat).toNat) + (S_.2.2.1 20 (0 + (0 + cc_)) n_.toNat) + (Int.tdiv (S_.2.2.1 21 (0 + (0 + cc_)) n_.toNat) 4) - 1) rfl (bi_add (by omega) (by omega) (by omega)) ?_ -- pc_ 87
          refine sm_T_iast (n := 162) rfl rfl (by omega) (by omega) ?_
          have hIx28_ : gi (sm_aI S_ 99 0 n_.toNat ((S_.2.2.1 58 (0 + (3 + cc_)) (S_.2.2.1 35 (0 + cc_) (n_ - vx20_).toNat).toNat) + (S_.2.2.1 20 (0 + (0 + cc_)) n_.toNat) + (Int.tdiv (S_.2.2.1 21 (0 + (0 + cc_)) n_.toNat) 4) - 1)) := gi_aI hI_ (show (-2147483648) ≤ (S_.2.2.1 58 (0 + (3 + cc_)) (S_.2.2.1 35 (0 + cc_) (n_ - vx20_).toNat).toNat) + (S_.2.2.1 20 (0 + (0 + cc_)) n_.toNat) + (Int.tdiv (S_.2.2.1 21 (0 + (0 + cc_)) n_.toNat) 4) - 1 ∧ (S_.2.2.1 58 (0 + (3 + cc_)) (S_.2.2.1 35 (0 + cc_) (n_ - vx20_).toNat).toNat) + (S_.2.2.1 20 (0 + (0 + cc_)) n_.toNat) + (Int.tdiv (S_.2.2.1 21 (0 + (0 + cc_)) n_.toNat) 4) - 1 ≤ 2147483647 from ⟨by omega, by omega⟩)
          have hFx29_ : ai_fr (sx_W vw_196) S0_ (sm_aI S_ 99 0 n_.toNat ((S_.2.2.1 58 (0 + (3 + cc_)) (S_.2.2.1 35 (0 + cc_) (n_ - vx20_).toNat).toNat) + (S_.2.2.1 20 (0 + (0 + cc_)) n_.toNat) + (Int.tdiv (S_.2.2.1 21 (0 + (0 + cc_)) n_.toNat) 4) - 1)) := ai_fr_tr hF_ (ai_fr_aI rfl)
          refine sm_T_inc (a := 2) (z := 1) (v := n_) (w := n_ + 1) rfl rfl (by omega) (by omega) (by omega) ?_ -- pc_ 89
          refine sm_T_go 1 (c1 := (2, [some (.inr (.inr (some (11, 0)))), some (.inr (.inr (some (2, cc_)))), some (.inl (n_ + 1)), some (.inl (S_.2.2.1 58 (0 + (3 + cc_)) (S_.2.2.1 35 (0 + cc_) (n_ - vx20_).toNat).toNat)), some (.inl (Int.tdiv (S_.2.2.1 21 (0 + (0 + cc_)) n_.toNat) 4))], [], sm_aI S_ 99 0 n_.toNat ((S_.2.2.1 58 (0 + (3 + cc_)) (S_.2.2.1 35 (0 + cc_) (n_ - vx20_).toNat).toNat) + (S_.2.2.1 20 (0 + (0 + cc_)) n_.toNat) + (Int.tdiv (S_.2.2.1 21 (0 + (0 + cc_)) n_.toNat) 4) - 1))) rfl ?_
          refine sm_T_wk [some (.inr (.inr (some (11, 0)))), some (.inr (.inr (some (2, cc_)))), some (.inl (n_ + 1)), none, none] (by exact ⟨rfl, rfl, rfl, trivial⟩) ?_
          refine ih_ (n_ + 1) (sm_aI S_ 99 0 n_.toNat ((S_.2.2.1 58 (0 + (3 + cc_)) (S_.2.2.1 35 (0 + cc_) (n_ - vx20_).toNat).toNat) + (S_.2.2.1 20 (0 + (0 + cc_)) n_.toNat) + (Int.tdiv (S_.2.2.1 21 (0 + (0 + cc_)) n_.toNat) 4) - 1)) hIx28_ hFx29_ ⟨?_, trivial⟩ ?_
          · omega
          · omega
        · have cx26_ : ¬ ((S_.1 2 cc_ 1) ≤ n_) := of_decide_eq_false cx26_
          refine sm_T_go 2 (c1 := (88, [some (.inr (.inr (some (11, 0)))), some (.inr (.inr (some (2, cc_)))), some (.inl n_), some (.inl (S_.2.2.1 58 (0 + (3 + cc_)) (S_.2.2.1 35 (0 + cc_) (n_ - vx20_).toNat).toNat)), some (.inl (Int.tdiv (S_.2.2.1 21 (0 + (0 + cc_)) n_.toNat) 4))], [.inl 0, .inl n_, .inr (.inr (some (99, 0)))], S_)) rfl ?_
          refine sm_T_iast (n := 162) rfl rfl (by omega) (by omega) ?_
          have hIx30_ : gi (sm_aI S_ 99 0 n_.toNat 0) := gi_aI hI_ (show (-2147483648) ≤ 0 ∧ 0 ≤ 2147483647 from ⟨by omega, by omega⟩)
          have hFx31_ : ai_fr (sx_W vw_196) S0_ (sm_aI S_ 99 0 n_.toNat 0) := ai_fr_tr hF_ (ai_fr_aI rfl)
          refine sm_T_inc (a := 2) (z := 1) (v := n_) (w := n_ + 1) rfl rfl (by omega) (by omega) (by omega) ?_ -- pc_ 89
          refine sm_T_go 1 (c1 := (2, [some (.inr (.inr (some (11, 0)))), some (.inr (.inr (some (2, cc_)))), some (.inl (n_ + 1)), some (.inl (S_.2.2.1 58 (0 + (3 + cc_)) (S_.2.2.1 35 (0 + cc_) (n_ - vx20_).toNat).toNat)), some (.inl (Int.tdiv (S_.2.2.1 21 (0 + (0 + cc_)) n_.toNat) 4))], [], sm_aI S_ 99 0 n_.toNat 0)) rfl ?_
          refine sm_T_wk [some (.inr (.inr (some (11, 0)))), some (.inr (.inr (some (2, cc_)))), some (.inl (n_ + 1)), none, none] (by exact ⟨rfl, rfl, rfl, trivial⟩) ?_
          refine ih_ (n_ + 1) (sm_aI S_ 99 0 n_.toNat 0) hIx30_ hFx31_ ⟨?_, trivial⟩ ?_
          · omega
          · omega
      · have cx14_ : ¬ (vx13_ ≤ n_) := of_decide_eq_false cx14_
        refine sm_T_go 7 (c1 := (50, [some (.inr (.inr (some (11, 0)))), some (.inr (.inr (some (2, cc_)))), some (.inl n_), some (.inl 3), none], [.inl n_, .inr (.inr (some (21, (0 + (0 + cc_)))))], S_)) rfl ?_
        refine sm_T_iald (n := 162) rfl rfl (by omega) (by omega) ?_
        have bx32_ : (-9999) ≤ S_.2.2.1 21 (0 + (0 + cc_)) n_.toNat ∧ S_.2.2.1 21 (0 + (0 + cc_)) n_.toNat ≤ 20000 := hI_.2 21 (0 + (0 + cc_)) _
        refine sm_T_go 1 (c1 := (52, [some (.inr (.inr (some (11, 0)))), some (.inr (.inr (some (2, cc_)))), some (.inl n_), some (.inl 3), none], [.inl 4, .inl (S_.2.2.1 21 (0 + (0 + cc_)) n_.toNat)], S_)) rfl ?_
        refine sm_T_bin (w := (Int.tdiv (S_.2.2.1 21 (0 + (0 + cc_)) n_.toNat) 4)) rfl (bi_dvt (by omega) (by omega)) ?_ -- pc_ 52
        have bx33_ := tdv_b (x_ := (S_.2.2.1 21 (0 + (0 + cc_)) n_.toNat)) (y_ := 4) (M_ := 20000) (by omega) (by omega)
        have bx34_ : 0 ≤ S_.1 2 cc_ 1 ∧ S_.1 2 cc_ 1 ≤ 12 := hI_.1 2 cc_ 1 rfl
        refine sm_T_go 7 (c1 := (65, [some (.inr (.inr (some (11, 0)))), some (.inr (.inr (some (2, cc_)))), some (.inl n_), some (.inl 3), some (.inl (Int.tdiv (S_.2.2.1 21 (0 + (0 + cc_)) n_.toNat) 4))], [.inl (S_.1 2 cc_ 1), .inl n_, .inl n_, .inr (.inr (some (99, 0)))], S_)) rfl ?_
        refine sm_T_br (a := 3) (z := 7) rfl (fun cx35_ => ?_) (fun cx35_ => ?_)
        · have cx35_ : (S_.1 2 cc_ 1) ≤ n_ := of_decide_eq_true cx35_
          refine sm_T_go 5 (c1 := (81, [some (.inr (.inr (some (11, 0)))), some (.inr (.inr (some (2, cc_)))), some (.inl n_), some (.inl 3), some (.inl (Int.tdiv (S_.2.2.1 21 (0 + (0 + cc_)) n_.toNat) 4))], [.inl n_, .inr (.inr (some (20, (0 + (0 + cc_))))), .inl 3, .inl n_, .inr (.inr (some (99, 0)))], S_)) rfl ?_
          refine sm_T_iald (n := 162) rfl rfl (by omega) (by omega) ?_
          have bx36_ : 0 ≤ S_.2.2.1 20 (0 + (0 + cc_)) n_.toNat ∧ S_.2.2.1 20 (0 + (0 + cc_)) n_.toNat ≤ 652 := hI_.2 20 (0 + (0 + cc_)) _
          refine sm_T_bin (w := (S_.2.2.1 20 (0 + (0 + cc_)) n_.toNat) + 3) rfl (bi_add (by omega) (by omega) (by omega)) ?_ -- pc_ 82
          refine sm_T_go 1 (c1 := (84, [some (.inr (.inr (some (11, 0)))), some (.inr (.inr (some (2, cc_)))), some (.inl n_), some (.inl 3), some (.inl (Int.tdiv (S_.2.2.1 21 (0 + (0 + cc_)) n_.toNat) 4))], [.inl 1, .inl ((S_.2.2.1 20 (0 + (0 + cc_)) n_.toNat) + 3), .inl n_, .inr (.inr (some (99, 0)))], S_)) rfl ?_
          refine sm_T_bin (w := (S_.2.2.1 20 (0 + (0 + cc_)) n_.toNat) + 2) rfl (bi_sub (by omega) (by omega) (by omega)) ?_ -- pc_ 84
          refine sm_T_go 1 (c1 := (87, [some (.inr (.inr (some (11, 0)))), some (.inr (.inr (some (2, cc_)))), some (.inl n_), some (.inl 3), some (.inl (Int.tdiv (S_.2.2.1 21 (0 + (0 + cc_)) n_.toNat) 4))], [.inl (Int.tdiv (S_.2.2.1 21 (0 + (0 + cc_)) n_.toNat) 4), .inl ((S_.2.2.1 20 (0 + (0 + cc_)) n_.toNat) + 2), .inl n_, .inr (.inr (some (99, 0)))], S_)) rfl ?_
          refine sm_T_bin (w := (S_.2.2.1 20 (0 + (0 + cc_)) n_.toNat) + (Int.tdiv (S_.2.2.1 21 (0 + (0 + cc_)) n_.toNat) 4) + 2) rfl (bi_add (by omega) (by omega) (by omega)) ?_ -- pc_ 87
          refine sm_T_iast (n := 162) rfl rfl (by omega) (by omega) ?_
          have hIx37_ : gi (sm_aI S_ 99 0 n_.toNat ((S_.2.2.1 20 (0 + (0 + cc_)) n_.toNat) + (Int.tdiv (S_.2.2.1 21 (0 + (0 + cc_)) n_.toNat) 4) + 2)) := gi_aI hI_ (show (-2147483648) ≤ (S_.2.2.1 20 (0 + (0 + cc_)) n_.toNat) + (Int.tdiv (S_.2.2.1 21 (0 + (0 + cc_)) n_.toNat) 4) + 2 ∧ (S_.2.2.1 20 (0 + (0 + cc_)) n_.toNat) + (Int.tdiv (S_.2.2.1 21 (0 + (0 + cc_)) n_.toNat) 4) + 2 ≤ 2147483647 from ⟨by omega, by omega⟩)
          have hFx38_ : ai_fr (sx_W vw_196) S0_ (sm_aI S_ 99 0 n_.toNat ((S_.2.2.1 20 (0 + (0 + cc_)) n_.toNat) + (Int.tdiv (S_.2.2.1 21 (0 + (0 + cc_)) n_.toNat) 4) + 2)) := ai_fr_tr hF_ (ai_fr_aI rfl)
          refine sm_T_inc (a := 2) (z := 1) (v := n_) (w := n_ + 1) rfl rfl (by omega) (by omega) (by omega) ?_ -- pc_ 89
          refine sm_T_go 1 (c1 := (2, [some (.inr (.inr (some (11, 0)))), some (.inr (.inr (some (2, cc_)))), some (.inl (n_ + 1)), some (.inl 3), some (.inl (Int.tdiv (S_.2.2.1 21 (0 + (0 + cc_)) n_.toNat) 4))], [], sm_aI S_ 99 0 n_.toNat ((S_.2.2.1 20 (0 + (0 + cc_)) n_.toNat) + (Int.tdiv (S_.2.2.1 21 (0 + (0 + cc_)) n_.toNat) 4) + 2))) rfl ?_
          refine sm_T_wk [some (.inr (.inr (some (11, 0)))), some (.inr (.inr (some (2, cc_)))), some (.inl (n_ + 1)), none, none] (by exact ⟨rfl, rfl, rfl, trivial⟩) ?_
          refine ih_ (n_ + 1) (sm_aI S_ 99 0 n_.toNat ((S_.2.2.1 20 (0 + (0 + cc_)) n_.toNat) + (Int.tdiv (S_.2.2.1 21 (0 + (0 + cc_)) n_.toNat) 4) + 2)) hIx37_ hFx38_ ⟨?_, trivial⟩ ?_
          · omega
          · omega
        · have cx35_ : ¬ ((S_.1 2 cc_ 1) ≤ n_) := of_decide_eq_false cx35_
          refine sm_T_go 2 (c1 := (88, [some (.inr (.inr (some (11, 0)))), some (.inr (.inr (some (2, cc_)))), some (.inl n_), some (.inl 3), some (.inl (Int.tdiv (S_.2.2.1 21 (0 + (0 + cc_)) n_.toNat) 4))], [.inl 0, .inl n_, .inr (.inr (some (99, 0)))], S_)) rfl ?_
          refine sm_T_iast (n := 162) rfl rfl (by omega) (by omega) ?_
          have hIx39_ : gi (sm_aI S_ 99 0 n_.toNat 0) := gi_aI hI_ (show (-2147483648) ≤ 0 ∧ 0 ≤ 2147483647 from ⟨by omega, by omega⟩)
          have hFx40_ : ai_fr (sx_W vw_196) S0_ (sm_aI S_ 99 0 n_.toNat 0) := ai_fr_tr hF_ (ai_fr_aI rfl)
          refine sm_T_inc (a := 2) (z := 1) (v := n_) (w := n_ + 1) rfl rfl (by omega) (by omega) (by omega) ?_ -- pc_ 89
          refine sm_T_go 1 (c1 := (2, [some (.inr (.inr (some (11, 0)))), some (.inr (.inr (some (2, cc_)))), some (.inl (n_ + 1)), some (.inl 3), some (.inl (Int.tdiv (S_.2.2.1 21 (0 + (0 + cc_)) n_.toNat) 4))], [], sm_aI S_ 99 0 n_.toNat 0)) rfl ?_
          refine sm_T_wk [some (.inr (.inr (some (11, 0)))), some (.inr (.inr (some (2, cc_)))), some (.inl (n_ + 1)), none, none] (by exact ⟨rfl, rfl, rfl, trivial⟩) ?_
          refine ih_ (n_ + 1) (sm_aI S_ 99 0 n_.toNat 0) hIx39_ hFx40_ ⟨?_, trivial⟩ ?_
          · omega
          · omega
set_option maxHeartbeats 400000 in
theorem vc_196 {sc_ : Nat × (Nat → Int)} (cc_ : Nat) (S0_ : sm_S) (hI_ : gi S0_) (hs_ : S0_.1 2 cc_ 1 + S0_.1 2 cc_ 2 ≤ 12) : sm_T (mt_P sc_) 1 196 (0, [some (.inr (.inr (some (11, 0)))), some (.inr (.inr (some (2, cc_)))), none, none, none], [], S0_) (fun ro9_ => ∃ u_ S1_, ro9_ = (.inl u_, S1_, 0) ∧ vq_196 cc_ S0_ u_ S1_) := by
  have hF_ : ai_fr (sx_W vw_196) S0_ S0_ := ai_fr_rf
  refine sm_T_go 2 (c1 := (2, [some (.inr (.inr (some (11, 0)))), some (.inr (.inr (some (2, cc_)))), some (.inl 0), none, none], [], S0_)) rfl ?_
  refine (vl_196 cc_ S0_ hs_ _) 0 S0_ hI_ hF_ ⟨?_, trivial⟩ (Nat.lt_succ_self _)
  · omega
end
/-! 99.zm1b -/
section
/-! Times.arrivalOf -/
def vw_197 : sx_Wl := ([], [99, 100], [])
def vq_197 (a2_ : Int) (a3_ : Int) (cc_ : Nat) (S0_ : sm_S) (u_ : Option sm_V) (S1_ : sm_S) : Prop := ∃ v_ : Int, u_ = some (.inl v_) ∧ gi S1_ ∧ ai_fr (sx_W vw_197) S0_ S1_ ∧ (True)
set_option maxHeartbeats 400000 in
theorem vl_197 {sc_ : Nat × (Nat → Int)} (a2_ : Int) (a3_ : Int) (cc_ : Nat) (S0_ : sm_S) (hs_ : S0_.1 2 cc_ 1 + S0_.1 2 cc_ 2 ≤ 12) (h2_ : 0 ≤ a2_ ∧ a2_ < S0_.1 2 cc_ 1 + S0_.1 2 cc_ 2 + S0_.1 2 cc_ 8) : ∀ nn_ : Nat, (∀ (n_ : Int) (S_ : sm_S), gi S_ → ai_fr (sx_W vw_197) S0_ S_ → ((0 ≤ n_ ∧ n_ ≤ a2_ + 1) ∧ True) → ((100 * (500 - n_) + 90).toNat) < nn_ → sm_T (mt_P sc_) 2 197 (8, [some (.inr (.inr (some (11, 0)))), some (.inr (.inr (some (2, cc_)))), some (.inl a2_), some (.inl a3_), some (.inl n_), none, none, none, none], [], S_) (fun ro9_ => ∃ u_ S1_, ro9_ = (.inl u_, S1_, 0) ∧ vq_197 a2_ a3_ cc_ S0_ u_ S1_)) ∧ (∀ (n_ : Int) (g_ : Int) (ms_ : Int) (k_ : Int) (S_ : sm_S), gi S_ → ai_fr (sx_W vw_197) S0_ S_ → ((0 ≤ n_ ∧ n_ ≤ a2_ ∧ 0 ≤ g_ ∧ g_ ≤ 149 ∧ 1 ≤ k_ ∧ k_ ≤ 3) ∧ True) → ((100 * (500 - n_) + 80 - k_).toNat) < nn_ → sm_T (mt_P sc_) 2 197 (61, [some (.inr (.inr (some (11, 0)))), some (.inr (.inr (some (2, cc_)))), some (.inl a2_), some (.inl a3_), some (.inl n_), some (.inl g_), some (.inl ms_), some (.inl k_), none], [], S_) (fun ro9_ => ∃ u_ S1_, ro9_ = (.inl u_, S1_, 0) ∧ vq_197 a2_ a3_ cc_ S0_ u_ S1_)) := by
  intro nn_
  induction nn_ with
  | zero => exact ⟨fun _ _ _ _ _ h_ => absurd h_ (Nat.not_lt_zero _), fun _ _ _ _ _ _ _ _ h_ => absurd h_ (Nat.not_lt_zero _)⟩
  | succ nn_ ih_ =>
    refine ⟨?_, ?_⟩
    · rintro n_ S_ hI_ hF_ ⟨h0_, -⟩ hm_
      have z1_ : S_.1 2 cc_ 1 = S0_.1 2 cc_ 1 := hF_.1 2 cc_ 1 rfl
      have z2_ : S_.1 2 cc_ 2 = S0_.1 2 cc_ 2 := hF_.1 2 cc_ 2 rfl
      have cg9_ : 0 ≤ S_.1 2 cc_ 8 ∧ S_.1 2 cc_ 8 ≤ 150 := hI_.1 2 cc_ 8 rfl
      have ci_ : 0 ≤ S_.1 2 cc_ 1 ∧ S_.1 2 cc_ 1 ≤ 12 := hI_.1 2 cc_ 1 rfl
      have cr : 0 ≤ S_.1 2 cc_ 2 ∧ S_.1 2 cc_ 2 ≤ 6 := hI_.1 2 cc_ 2 rfl
      have z8_ : S_.1 2 cc_ 8 = S0_.1 2 cc_ 8 := hF_.1 2 cc_ 8 rfl
      refine sm_T_go 2 (c1 := (11, [some (.inr (.inr (some (11, 0)))), some (.inr (.inr (some (2, cc_)))), some (.inl a2_), some (.inl a3_), some (.inl n_), none, none, none, none], [.inl a2_, .inl n_], S_)) rfl ?_
      refine sm_T_br (a := 4) (z := 127) rfl (fun cx1_ => ?_) (fun cx1_ => ?_)
      · have cx1_ : a2_ < n_ := of_decide_eq_true cx1_
        refine sm_T_go 3 (c1 := (143, [some (.inr (.inr (some (11, 0)))), some (.inr (.inr (some (2, cc_)))), some (.inl a2_), some (.inl a3_), some (.inl n_), none, none, none, none], [.inl a2_, .inr (.inr (some (100, 0)))], S_)) rfl ?_
        refine sm_T_iald (n := 162) rfl rfl (by omega) (by omega) ?_
        have bx2_ : (-2147483648) ≤ S_.2.2.1 100 0 a2_.toNat ∧ S_.2.2.1 100 0 a2_.toNat ≤ 2147483647 := hI_.2 100 0 _
        refine sm_T_ri rfl ⟨_, _, rfl, _, rfl, hI_, hF_, ?_⟩
        trivial
      · have cx1_ : ¬ (a2_ < n_) := of_decide_eq_false cx1_
        refine sm_T_go 6 (c1 := (26, [some (.inr (.inr (some (11, 0)))), some (.inr (.inr (some (2, cc_)))), some (.inl a2_), some (.inl a3_), some (.inl n_), none, none, none, none], [.inl n_, .inr (.inr (some (99, 0))), .inl n_, .inr (.inr (some (100, 0)))], S_)) rfl ?_
        refine sm_T_iald (n := 162) rfl rfl (by omega) (by omega) ?_
        have bx3_ : (-2147483648) ≤ S_.2.2.1 99 0 n_.toNat ∧ S_.2.2.1 99 0 n_.toNat ≤ 2147483647 := hI_.2 99 0 _
        refine sm_T_iast (n := 162) rfl rfl (by omega) (by omega) ?_
        have hIx4_ : gi (sm_aI S_ 100 0 n_.toNat (S_.2.2.1 99 0 n_.toNat)) := gi_aI hI_ (show (-2147483648) ≤ (S_.2.2.1 99 0 n_.toNat) ∧ (S_.2.2.1 99 0 n_.toNat) ≤ 2147483647 from ⟨by omega, by omega⟩)
        have hFx5_ : ai_fr (sx_W vw_197) S0_ (sm_aI S_ 100 0 n_.toNat (S_.2.2.1 99 0 n_.toNat)) := ai_fr_tr hF_ (ai_fr_aI rfl)
        refine sm_T_go 2 (c1 := (31, [some (.inr (.inr (some (11, 0)))), some (.inr (.inr (some (2, cc_)))), some (.inl a2_), some (.inl a3_), some (.inl n_), none, none, none, none], [.inr (.inr (some (2, cc_))), .inl n_], sm_aI S_ 100 0 n_.toNat (S_.2.2.1 99 0 n_.toNat))) rfl ?_
        refine sm_T_cal (d1 := 0) (Q1 := vq_54 cc_ (sm_aI S_ 100 0 n_.toNat (S_.2.2.1 99 0 n_.toNat))) rfl rfl (by decide) (vc_54 cc_ (sm_aI S_ 100 0 n_.toNat (S_.2.2.1 99 0 n_.toNat)) hIx4_ ) (fun u_ Sx6_ px9_ => ?_)
        obtain ⟨rfl, vx11_, rfl, px9_⟩ := px9_
        have fg31_ := px9_.2
        simp only [rd_af] at fg31_
        refine sm_T_bin (w := n_ - vx11_) rfl (bi_sub (by omega) (by omega) (by omega)) ?_ -- pc_ 34
        refine sm_T_go 2 (c1 := (39, [some (.inr (.inr (some (11, 0)))), some (.inr (.inr (some (2, cc_)))), some (.inl a2_), some (.inl a3_), some (.inl n_), some (.inl (n_ - vx11_)), none, none, none], [.inl (n_ - vx11_)], sm_aI S_ 100 0 n_.toNat (S_.2.2.1 99 0 n_.toNat))) rfl ?_
        refine sm_T_b0 (a := 2) (z := 93) rfl (fun cx12_ => ?_) (fun cx12_ => ?_)
        · have cx12_ : n_ - vx11_ < 0 := of_decide_eq_true cx12_
          refine sm_T_inc (a := 4) (z := 1) (v := n_) (w := n_ + 1) rfl rfl (by omega) (by omega) (by omega) ?_ -- pc_ 132
          refine sm_T_go 1 (c1 := (8, [some (.inr (.inr (some (11, 0)))), some (.inr (.inr (some (2, cc_)))), some (.inl a2_), some (.inl a3_), some (.inl (n_ + 1)), some (.inl (n_ - vx11_)), none, none, none], [], sm_aI S_ 100 0 n_.toNat (S_.2.2.1 99 0 n_.toNat))) rfl ?_
          refine sm_T_wk [some (.inr (.inr (some (11, 0)))), some (.inr (.inr (some (2, cc_)))), some (.inl a2_), some (.inl a3_), some (.inl (n_ + 1)), none, none, none, none] (by exact ⟨rfl, rfl, rfl, rfl, rfl, trivial⟩) ?_
          refine ih_.1 (n_ + 1) (sm_aI S_ 100 0 n_.toNat (S_.2.2.1 99 0 n_.toNat)) hIx4_ hFx5_ ⟨?_, trivial⟩ ?_
          · omega
          · omega
        · have cx12_ : ¬ (n_ - vx11_ < 0) := of_decide_eq_false cx12_
          refine sm_T_go 6 (c1 := (53, [some (.inr (.inr (some (11, 0)))), some (.inr (.inr (some (2, cc_)))), some (.inl a2_), some (.inl a3_), some (.inl n_), some (.inl (n_ - vx11_)), none, none, none], [.inl (n_ - vx11_), .inl 3, .inr (.inr (some (36, (0 + cc_)))), .inr (.inr (some (100, 0)))], sm_aI S_ 100 0 n_.toNat (S_.2.2.1 99 0 n_.toNat))) rfl ?_
          refine sm_T_bin (w := 3 * n_ - 3 * vx11_) rfl (bi_mul (by omega) (by omega) (by omega)) ?_ -- pc_ 53
          refine sm_T_iald (n := 450) rfl rfl (by omega) (by omega) ?_
          have bx13_ : 0 ≤ S_.2.2.1 36 (0 + cc_) (3 * n_ - 3 * vx11_).toNat ∧ S_.2.2.1 36 (0 + cc_) (3 * n_ - 3 * vx11_).toNat ≤ 161 := hI_.2 36 (0 + cc_) _
          refine sm_T_go 0 (c1 := (55, [some (.inr (.inr (some (11, 0)))), some (.inr (.inr (some (2, cc_)))), some (.inl a2_), some (.inl a3_), some (.inl n_), some (.inl (n_ - vx11_)), none, none, none], [.inl (S_.2.2.1 36 (0 + cc_) (3 * n_ - 3 * vx11_).toNat), .inr (.inr (some (100, 0)))], sm_aI S_ 100 0 n_.toNat (S_.2.2.1 99 0 n_.toNat))) rfl ?_
          refine sm_T_iald (n := 162) rfl rfl (by omega) (by omega) ?_
          have bx14_ : (-2147483648) ≤ (sm_aI S_ 100 0 n_.toNat (S_.2.2.1 99 0 n_.toNat)).2.2.1 100 0 (S_.2.2.1 36 (0 + cc_) (3 * n_ - 3 * vx11_).toNat).toNat ∧ (sm_aI S_ 100 0 n_.toNat (S_.2.2.1 99 0 n_.toNat)).2.2.1 100 0 (S_.2.2.1 36 (0 + cc_) (3 * n_ - 3 * vx11_).toNat).toNat ≤ 2147483647 := hIx4_.2 100 0 _
          refine sm_T_go 3 (c1 := (61, [some (.inr (.inr (some (11, 0)))), some (.inr (.inr (some (2, cc_)))), some (.inl a2_), some (.inl a3_), some (.inl n_), some (.inl (n_ - vx11_)), some (.inl ((sm_aI S_ 100 0 n_.toNat (S_.2.2.1 99 0 n_.toNat)).2.2.1 100 0 (S_.2.2.1 36 (0 + cc_) (3 * n_ - 3 * vx11_).toNat).toNat)), some (.inl 1), none], [], sm_aI S_ 100 0 n_.toNat (S_.2.2.1 99 0 n_.toNat))) rfl ?_
          refine ih_.2 n_ (n_ - vx11_) ((sm_aI S_ 100 0 n_.toNat (S_.2.2.1 99 0 n_.toNat)).2.2.1 100 0 (S_.2.2.1 36 (0 + cc_) (3 * n_ - 3 * vx11_).toNat).toNat) 1 (sm_aI S_ 100 0 n_.toNat (S_.2.2.1 99 0 n_.toNat)) hIx4_ hFx5_ ⟨?_, trivial⟩ ?_
          · omega
          · omega
    · rintro n_ g_ ms_ k_ S_ hI_ hF_ ⟨h0_, -⟩ hm_
      have z1_ : S_.1 2 cc_ 1 = S0_.1 2 cc_ 1 := hF_.1 2 cc_ 1 rfl
      have z2_ : S_.1 2 cc_ 2 = S0_.1 2 cc_ 2 := hF_.1 2 cc_ 2 rfl
      have cg9_ : 0 ≤ S_.1 2 cc_ 8 ∧ S_.1 2 cc_ 8 ≤ 150 := hI_.1 2 cc_ 8 rfl
      have ci_ : 0 ≤ S_.1 2 cc_ 1 ∧ S_.1 2 cc_ 1 ≤ 12 := hI_.1 2 cc_ 1 rfl
      have cr : 0 ≤ S_.1 2 cc_ 2 ∧ S_.1 2 cc_ 2 ≤ 6 := hI_.1 2 cc_ 2 rfl
      have z8_ : S_.1 2 cc_ 8 = S0_.1 2 cc_ 8 := hF_.1 2 cc_ 8 rfl
      refine sm_T_go 3 (c1 := (66, [some (.inr (.inr (some (11, 0)))), some (.inr (.inr (some (2, cc_)))), some (.inl a2_), some (.inl a3_), some (.inl n_), some (.inl g_), some (.inl ms_), some (.inl k_), none], [.inl g_, .inr (.inr (some (2, cc_))), .inl k_], S_)) rfl ?_
      refine sm_T_cal (d1 := 0) (Q1 := vq_59 g_ cc_ S_) rfl rfl (by decide) (vc_59 g_ cc_ S_ hI_ (by omega)) (fun u_ Sx1_ px4_ => ?_)
      obtain ⟨rfl, vx6_, rfl, px4_⟩ := px4_
      have gi66_ := px4_.1
      refine sm_T_br (a := 3) (z := 51) rfl (fun cx7_ => ?_) (fun cx7_ => ?_)
      · have cx7_ : vx6_ ≤ k_ := of_decide_eq_true cx7_
        refine sm_T_go 4 (c1 := (127, [some (.inr (.inr (some (11, 0)))), some (.inr (.inr (some (2, cc_)))), some (.inl a2_), some (.inl a3_), some (.inl n_), some (.inl g_), some (.inl ms_), some (.inl k_), none], [.inl n_, .inr (.inr (some (100, 0))), .inl n_, .inr (.inr (some (100, 0)))], S_)) rfl ?_
        refine sm_T_iald (n := 162) rfl rfl (by omega) (by omega) ?_
        have bx8_ : (-2147483648) ≤ S_.2.2.1 100 0 n_.toNat ∧ S_.2.2.1 100 0 n_.toNat ≤ 2147483647 := hI_.2 100 0 _
        refine sm_T_go 1 (c1 := (130, [some (.inr (.inr (some (11, 0)))), some (.inr (.inr (some (2, cc_)))), some (.inl a2_), some (.inl a3_), some (.inl n_), some (.inl g_), some (.inl ms_), some (.inl k_), none], [.inl ms_, .inl (S_.2.2.1 100 0 n_.toNat), .inl n_, .inr (.inr (some (100, 0)))], S_)) rfl ?_
        refine sm_T_bin (w := (i_add (S_.2.2.1 100 0 n_.toNat) ms_)) rfl rfl ?_ -- pc_ 130
        have bx9_ := i_add_r (S_.2.2.1 100 0 n_.toNat) ms_
        refine sm_T_iast (n := 162) rfl rfl (by omega) (by omega) ?_
        have hIx10_ : gi (sm_aI S_ 100 0 n_.toNat (i_add (S_.2.2.1 100 0 n_.toNat) ms_)) := gi_aI hI_ (show (-2147483648) ≤ (i_add (S_.2.2.1 100 0 n_.toNat) ms_) ∧ (i_add (S_.2.2.1 100 0 n_.toNat) ms_) ≤ 2147483647 from ⟨by omega, by omega⟩)
        have hFx11_ : ai_fr (sx_W vw_197) S0_ (sm_aI S_ 100 0 n_.toNat (i_add (S_.2.2.1 100 0 n_.toNat) ms_)) := ai_fr_tr hF_ (ai_fr_aI rfl)
        refine sm_T_inc (a := 4) (z := 1) (v := n_) (w := n_ + 1) rfl rfl (by omega) (by omega) (by omega) ?_ -- pc_ 132
        refine sm_T_go 1 (c1 := (8, [some (.inr (.inr (some (11, 0)))), some (.inr (.inr (some (2, cc_)))), some (.inl a2_), some (.inl a3_), some (.inl (n_ + 1)), some (.inl g_), some (.inl ms_), some (.inl k_), none], [], sm_aI S_ 100 0 n_.toNat (i_add (S_.2.2.1 100 0 n_.toNat) ms_))) rfl ?_
        refine sm_T_wk [some (.inr (.inr (some (11, 0)))), some (.inr (.inr (some (2, cc_)))), some (.inl a2_), some (.inl a3_), some (.inl (n_ + 1)), none, none, none, none] (by exact ⟨rfl, rfl, rfl, rfl, rfl, trivial⟩) ?_
        refine ih_.1 (n_ + 1) (sm_aI S_ 100 0 n_.toNat (i_add (S_.2.2.1 100 0 n_.toNat) ms_)) hIx10_ hFx11_ ⟨?_, trivial⟩ ?_
        · omega
        · omega
      · have cx7_ : ¬ (vx6_ ≤ k_) := of_decide_eq_false cx7_
        refine sm_T_go 6 (c1 := (83, [some (.inr (.inr (some (11, 0)))), some (.inr (.inr (some (2, cc_)))), some (.inl a2_), some (.inl a3_), some (.inl n_), some (.inl g_), some (.inl ms_), some (.inl k_), none], [.inl g_, .inl 3, .inr (.inr (some (36, (0 + cc_)))), .inr (.inr (some (100, 0)))], S_)) rfl ?_
        refine sm_T_bin (w := 3 * g_) rfl (bi_mul (by omega) (by omega) (by omega)) ?_ -- pc_ 83
        refine sm_T_go 1 (c1 := (86, [some (.inr (.inr (some (11, 0)))), some (.inr (.inr (some (2, cc_)))), some (.inl a2_), some (.inl a3_), some (.inl n_), some (.inl g_), some (.inl ms_), some (.inl k_), none], [.inl k_, .inl (3 * g_), .inr (.inr (some (36, (0 + cc_)))), .inr (.inr (some (100, 0)))], S_)) rfl ?_
        refine sm_T_bin (w := 3 * g_ + k_) rfl (bi_add (by omega) (by omega) (by omega)) ?_ -- pc_ 86
        refine sm_T_iald (n := 450) rfl rfl (by omega) (by omega) ?_
        have bx12_ : 0 ≤ S_.2.2.1 36 (0 + cc_) (3 * g_ + k_).toNat ∧ S_.2.2.1 36 (0 + cc_) (3 * g_ + k_).toNat ≤ 161 := hI_.2 36 (0 + cc_) _
        refine sm_T_iald (n := 162) rfl rfl (by omega) (by omega) ?_
        have bx13_ : (-2147483648) ≤ S_.2.2.1 100 0 (S_.2.2.1 36 (0 + cc_) (3 * g_ + k_).toNat).toNat ∧ S_.2.2.1 100 0 (S_.2.2.1 36 (0 + cc_) (3 * g_ + k_).toNat).toNat ≤ 2147483647 := hI_.2 100 0 _
        refine sm_T_go 2 (c1 := (92, [some (.inr (.inr (some (11, 0)))), some (.inr (.inr (some (2, cc_)))), some (.inl a2_), some (.inl a3_), some (.inl n_), some (.inl g_), some (.inl ms_), some (.inl k_), some (.inl (S_.2.2.1 100 0 (S_.2.2.1 36 (0 + cc_) (3 * g_ + k_).toNat).toNat))], [.inl a3_], S_)) rfl ?_
        refine sm_T_b0 (a := 0) (z := 13) rfl (fun cx14_ => ?_) (fun cx14_ => ?_)
        · have cx14_ : a3_ = 0 := of_decide_eq_true cx14_
          refine sm_T_go 2 (c1 := (109, [some (.inr (.inr (some (11, 0)))), some (.inr (.inr (some (2, cc_)))), some (.inl a2_), some (.inl a3_), some (.inl n_), some (.inl g_), some (.inl ms_), some (.inl k_), some (.inl (S_.2.2.1 100 0 (S_.2.2.1 36 (0 + cc_) (3 * g_ + k_).toNat).toNat))], [.inl (S_.2.2.1 100 0 (S_.2.2.1 36 (0 + cc_) (3 * g_ + k_).toNat).toNat), .inl ms_], S_)) rfl ?_
          refine sm_T_nt (u := some (.inl (sm_mn ms_ (S_.2.2.1 100 0 (S_.2.2.1 36 (0 + cc_) (3 * g_ + k_).toNat).toNat)))) (S1 := S_) rfl rfl rfl ?_
          have bx15_ := sm_mn_d ms_ (S_.2.2.1 100 0 (S_.2.2.1 36 (0 + cc_) (3 * g_ + k_).toNat).toNat)
          refine sm_T_go 1 (c1 := (114, [some (.inr (.inr (some (11, 0)))), some (.inr (.inr (some (2, cc_)))), some (.inl a2_), some (.inl a3_), some (.inl n_), some (.inl g_), some (.inl (sm_mn ms_ (S_.2.2.1 100 0 (S_.2.2.1 36 (0 + cc_) (3 * g_ + k_).toNat).toNat))), some (.inl k_), some (.inl (S_.2.2.1 100 0 (S_.2.2.1 36 (0 + cc_) (3 * g_ + k_).toNat).toNat))], [], S_)) rfl ?_
          refine sm_T_inc (a := 7) (z := 1) (v := k_) (w := k_ + 1) rfl rfl (by omega) (by omega) (by omega) ?_ -- pc_ 114
          refine sm_T_go 1 (c1 := (61, [some (.inr (.inr (some (11, 0)))), some (.inr (.inr (some (2, cc_)))), some (.inl a2_), some (.inl a3_), some (.inl n_), some (.inl g_), some (.inl (sm_mn ms_ (S_.2.2.1 100 0 (S_.2.2.1 36 (0 + cc_) (3 * g_ + k_).toNat).toNat))), some (.inl (k_ + 1)), some (.inl (S_.2.2.1 100 0 (S_.2.2.1 36 (0 + cc_) (3 * g_ + k_).toNat).toNat))], [], S_)) rfl ?_
          refine sm_T_wk [some (.inr (.inr (some (11, 0)))), some (.inr (.inr (some (2, cc_)))), some (.inl a2_), some (.inl a3_), some (.inl n_), some (.inl g_), some (.inl (sm_mn ms_ (S_.2.2.1 100 0 (S_.2.2.1 36 (0 + cc_) (3 * g_ + k_).toNat).toNat))), some (.inl (k_ + 1)), none] (by exact ⟨rfl, rfl, rfl, rfl, rfl, rfl, rfl, rfl, trivial⟩) ?_
          refine ih_.2 n_ g_ (sm_mn ms_ (S_.2.2.1 100 0 (S_.2.2.1 36 (0 + cc_) (3 * g_ + k_).toNat).toNat)) (k_ + 1) S_ hI_ hF_ ⟨?_, trivial⟩ ?_
          · omega
          · omega
        · have cx14_ : ¬ (a3_ = 0) := of_decide_eq_false cx14_
          refine sm_T_go 2 (c1 := (99, [some (.inr (.inr (some (11, 0)))), some (.inr (.inr (some (2, cc_)))), some (.inl a2_), some (.inl a3_), some (.inl n_), some (.inl g_), some (.inl ms_), some (.inl k_), some (.inl (S_.2.2.1 100 0 (S_.2.2.1 36 (0 + cc_) (3 * g_ + k_).toNat).toNat))], [.inl (S_.2.2.1 100 0 (S_.2.2.1 36 (0 + cc_) (3 * g_ + k_).toNat).toNat), .inl ms_], S_)) rfl ?_
          refine sm_T_nt (u := some (.inl (sm_mx ms_ (S_.2.2.1 100 0 (S_.2.2.1 36 (0 + cc_) (3 * g_ + k_).toNat).toNat)))) (S1 := S_) rfl rfl rfl ?_
          have bx16_ := sm_mx_d ms_ (S_.2.2.1 100 0 (S_.2.2.1 36 (0 + cc_) (3 * g_ + k_).toNat).toNat)
          refine sm_T_go 2 (c1 := (114, [some (.inr (.inr (some (11, 0)))), some (.inr (.inr (some (2, cc_)))), some (.inl a2_), some (.inl a3_), some (.inl n_), some (.inl g_), some (.inl (sm_mx ms_ (S_.2.2.1 100 0 (S_.2.2.1 36 (0 + cc_) (3 * g_ + k_).toNat).toNat))), some (.inl k_), some (.inl (S_.2.2.1 100 0 (S_.2.2.1 36 (0 + cc_) (3 * g_ + k_).toNat).toNat))], [], S_)) rfl ?_
          refine sm_T_inc (a := 7) (z := 1) (v := k_) (w := k_ + 1) rfl rfl (by omega) (by omega) (by omega) ?_ -- pc_ 114
          refine sm_T_go 1 (c1 := (61, [some (.inr (.inr (some (11, 0)))), some (.inr (.inr (some (2, cc_)))), some (.inl a2_), some (.inl a3_), some (.inl n_), some (.inl g_), some (.inl (sm_mx ms_ (S_.2.2.1 100 0 (S_.2.2.1 36 (0 + cc_) (3 * g_ + k_).toNat).toNat))), some (.inl (k_ + 1)), some (.inl (S_.2.2.1 100 0 (S_.2.2.1 36 (0 + cc_) (3 * g_ + k_).toNat).toNat))], [], S_)) rfl ?_
          refine sm_T_wk [some (.inr (.inr (some (11, 0)))), some (.inr (.inr (some (2, cc_)))), some (.inl a2_), some (.inl a3_), some (.inl n_), some (.inl g_), some (.inl (sm_mx ms_ (S_.2.2.1 100 0 (S_.2.2.1 36 (0 + cc_) (3 * g_ + k_).toNat).toNat))), some (.inl (k_ + 1)), none] (by exact ⟨rfl, rfl, rfl, rfl, rfl, rfl, rfl, rfl, trivial⟩) ?_
          refine ih_.2 n_ g_ (sm_mx ms_ (S_.2.2.1 100 0 (S_.2.2.1 36 (0 + cc_) (3 * g_ + k_).toNat).toNat)) (k_ + 1) S_ hI_ hF_ ⟨?_, trivial⟩ ?_
          · omega
          · omega
set_option maxHeartbeats 400000 in
theorem vc_197 {sc_ : Nat × (Nat → Int)} (a2_ : Int) (a3_ : Int) (cc_ : Nat) (S0_ : sm_S) (hI_ : gi S0_) (hs_ : S0_.1 2 cc_ 1 + S0_.1 2 cc_ 2 ≤ 12) (h2_ : 0 ≤ a2_ ∧ a2_ < S0_.1 2 cc_ 1 + S0_.1 2 cc_ 2 + S0_.1 2 cc_ 8) : sm_T (mt_P sc_) 2 197 (0, [some (.inr (.inr (some (11, 0)))), some (.inr (.inr (some (2, cc_)))), some (.inl a2_), some (.inl a3_), none, none, none, none, none], [], S0_) (fun ro9_ => ∃ u_ S1_, ro9_ = (.inl u_, S1_, 0) ∧ vq_197 a2_ a3_ cc_ S0_ u_ S1_) := by
  have hF_ : ai_fr (sx_W vw_197) S0_ S0_ := ai_fr_rf
  have ki_ : 0 ≤ S0_.1 2 cc_ 1 ∧ S0_.1 2 cc_ 1 ≤ 12 := hI_.1 2 cc_ 1 rfl
  have kr_ : 0 ≤ S0_.1 2 cc_ 2 ∧ S0_.1 2 cc_ 2 ≤ 6 := hI_.1 2 cc_ 2 rfl
  have kg_ : 0 ≤ S0_.1 2 cc_ 8 ∧ S0_.1 2 cc_ 8 ≤ 150 := hI_.1 2 cc_ 8 rfl
  refine sm_T_go 2 (c1 := (2, [some (.inr (.inr (some (11, 0)))), some (.inr (.inr (some (2, cc_)))), some (.inl a2_), some (.inl a3_), none, none, none, none, none], [.inr (.inr (some (2, cc_))), .inr (.inr (some (11, 0)))], S0_)) rfl ?_
  refine sm_T_cal (d1 := 1) (Q1 := vq_196 cc_ S0_) rfl rfl (by decide) (vc_196 cc_ S0_ hI_ (by omega)) (fun u_ Sx1_ px4_ => ?_)
  obtain ⟨rfl, hIx2_, hFx3_, px4_⟩ := px4_
  have hFx5_ : ai_fr (sx_W vw_197) S0_ Sx1_ := ai_fr_tr hF_ (fr_le hFx3_ rfl)
  refine sm_T_go 2 (c1 := (8, [some (.inr (.inr (some (11, 0)))), some (.inr (.inr (some (2, cc_)))), some (.inl a2_), some (.inl a3_), some (.inl 0), none, none, none, none], [], Sx1_)) rfl ?_
  refine (vl_197 a2_ a3_ cc_ S0_ hs_ h2_ _).1 0 Sx1_ hIx2_ hFx5_ ⟨?_, trivial⟩ (Nat.lt_succ_self _)
  · omega
end
/-! 99.zm1c -/
section
/-! java/util/Arrays.fill -/
def vw_2r1 : sx_Wl := ([], [101], [])
def vq_2r1 (v0_ : Int) (S0_ : sm_S) (u_ : Option sm_V) (S1_ : sm_S) : Prop := u_ = none ∧ gi S1_ ∧ ai_fr (sx_W vw_2r1) S0_ S1_ ∧ (∀ j_, j_ < 1944 → S1_.2.2.1 101 0 j_ = v0_)
set_option maxHeartbeats 400000 in
theorem vl_2r1 {sc_ : Nat × (Nat → Int)} (v0_ : Int) (S0_ : sm_S) (hv_ : (-2147483648) ≤ v0_ ∧ v0_ ≤ 2147483647) : ∀ nn_ : Nat, (∀ (k_ : Int) (S_ : sm_S), gi S_ → ai_fr (sx_W vw_2r1) S0_ S_ → ((0 ≤ k_ ∧ k_ ≤ 1944) ∧ (∀ j_, j_ < k_.toNat → S_.2.2.1 101 0 j_ = v0_) ∧ True) → ((1944 - k_).toNat) < nn_ → sm_T (mt_P sc_) 0 2 (5, [some (.inr (.inr (some (101, 0)))), some (.inl v0_), some (.inl k_), some (.inl 1944)], [], S_) (fun ro9_ => ∃ u_ S1_, ro9_ = (.inl u_, S1_, 0) ∧ vq_2r1 v0_ S0_ u_ S1_)) := by
  intro nn_
  induction nn_ with
  | zero => exact fun _ _ _ _ _ h_ => absurd h_ (Nat.not_lt_zero _)
  | succ nn_ ih_ =>
    rintro k_ S_ hI_ hF_ ⟨h0_, h1_, -⟩ hm_
    refine sm_T_go 2 (c1 := (7, [some (.inr (.inr (some (101, 0)))), some (.inl v0_), some (.inl k_), some (.inl 1944)], [.inl 1944, .inl k_], S_)) rfl ?_
    refine sm_T_br (a := 3) (z := 13) rfl (fun cx1_ => ?_) (fun cx1_ => ?_)
    · have cx1_ : 1944 ≤ k_ := of_decide_eq_true cx1_
      refine sm_T_rv rfl ⟨_, _, rfl, rfl, hI_, hF_, ?_⟩
      exact fun j_ hj_ => h1_ j_ (by omega)
    · have cx1_ : ¬ (1944 ≤ k_) := of_decide_eq_false cx1_
      refine sm_T_go 3 (c1 := (13, [some (.inr (.inr (some (101, 0)))), some (.inl v0_), some (.inl k_), some (.inl 1944)], [.inl v0_, .inl k_, .inr (.inr (some (101, 0)))], S_)) rfl ?_
      refine sm_T_iast (n := 1944) rfl rfl (by omega) (by omega) ?_
      have hIx2_ : gi (sm_aI S_ 101 0 k_.toNat v0_) := gi_aI hI_ (show (-2147483648) ≤ v0_ ∧ v0_ ≤ 2147483647 from ⟨by omega, by omega⟩)
      have hFx3_ : ai_fr (sx_W vw_2r1) S0_ (sm_aI S_ 101 0 k_.toNat v0_) := ai_fr_tr hF_ (ai_fr_aI rfl)
      refine sm_T_inc (a := 2) (z := 1) (v := k_) (w := k_ + 1) rfl rfl (by omega) (by omega) (by omega) ?_ -- pc_ 14
      refine sm_T_go 1 (c1 := (5, [some (.inr (.inr (some (101, 0)))), some (.inl v0_), some (.inl (k_ + 1)), some (.inl 1944)], [], sm_aI S_ 101 0 k_.toNat v0_)) rfl ?_
      refine ih_ (k_ + 1) (sm_aI S_ 101 0 k_.toNat v0_) hIx2_ hFx3_ ⟨?_, ?_, trivial⟩ ?_
      · omega
      · intro j_ hj_
        rw [rd_eq]
        by_cases z_ : j_ = k_.toNat
        · rw [if_pos z_]
        · rw [if_neg z_]; exact h1_ j_ (by omega)
      · omega
set_option maxHeartbeats 400000 in
theorem vc_2r1 {sc_ : Nat × (Nat → Int)} (v0_ : Int) (S0_ : sm_S) (hI_ : gi S0_) (hv_ : (-2147483648) ≤ v0_ ∧ v0_ ≤ 2147483647) : sm_T (mt_P sc_) 0 2 (0, [some (.inr (.inr (some (101, 0)))), some (.inl v0_), none, none], [], S0_) (fun ro9_ => ∃ u_ S1_, ro9_ = (.inl u_, S1_, 0) ∧ vq_2r1 v0_ S0_ u_ S1_) := by
  have hF_ : ai_fr (sx_W vw_2r1) S0_ S0_ := ai_fr_rf
  refine sm_T_go 5 (c1 := (5, [some (.inr (.inr (some (101, 0)))), some (.inl v0_), some (.inl 0), some (.inl 1944)], [], S0_)) rfl ?_
  refine (vl_2r1 v0_ S0_ hv_ _) 0 S0_ hI_ hF_ ⟨?_, ?_, trivial⟩ (Nat.lt_succ_self _)
  · omega
  · (intro j_ hj_; exact absurd hj_ (Nat.not_lt_zero _))
end
/-! 99.zm1d -/
section
/-! Times.findRest -/
def vw_200 : sx_Wl := ([], [101], [])
def vq_200 (cc_ : Nat) (S0_ : sm_S) (u_ : Option sm_V) (S1_ : sm_S) : Prop := u_ = none ∧ gi S1_ ∧ ai_fr (sx_W vw_200) S0_ S1_ ∧ (True)
set_option maxHeartbeats 400000 in
set_option maxRecDepth 20000 in
theorem vl_200 {sc_ : Nat × (Nat → Int)} (cc_ : Nat) (S0_ : sm_S) (hs_ : S0_.1 2 cc_ 1 + S0_.1 2 cc_ 2 ≤ 12) : ∀ nn_ : Nat, (∀ (n_ : Int) (S_ : sm_S), gi S_ → ai_fr (sx_W vw_200) S0_ S_ → ((0 ≤ n_ ∧ n_ ≤ 12) ∧ True) → ((100000 * (20 - n_) + 90000).toNat) < nn_ → sm_T (mt_P sc_) 1 200 (10, [some (.inr (.inr (some (11, 0)))), some (.inr (.inr (some (2, cc_)))), some (.inl n_), none, none, none, none, none], [], S_) (fun ro9_ => ∃ u_ S1_, ro9_ = (.inl u_, S1_, 0) ∧ vq_200 cc_ S0_ u_ S1_)) ∧ (∀ (n_ : Int) (bs_ : Int) (e_ : Int) (S_ : sm_S), gi S_ → ai_fr (sx_W vw_200) S0_ S_ → ((0 ≤ n_ ∧ n_ < 12 ∧ bs_ = 162 * n_ ∧ 0 ≤ e_ ∧ e_ ≤ 22) ∧ True) → ((100000 * (20 - n_) + 80000 - e_).toNat) < nn_ → sm_T (mt_P sc_) 1 200 (27, [some (.inr (.inr (some (11, 0)))), some (.inr (.inr (some (2, cc_)))), some (.inl n_), some (.inl bs_), some (.inl e_), none, none, none], [], S_) (fun ro9_ => ∃ u_ S1_, ro9_ = (.inl u_, S1_, 0) ∧ vq_200 cc_ S0_ u_ S1_)) ∧ (∀ (n_ : Int) (bs_ : Int) (g_ : Int) (S_ : sm_S), gi S_ → ai_fr (sx_W vw_200) S0_ S_ → ((0 ≤ n_ ∧ n_ < 12 ∧ bs_ = 162 * n_ ∧ -1 ≤ g_ ∧ g_ ≤ 149) ∧ True) → ((100000 * (20 - n_) + 10 * g_ + 20).toNat) < nn_ → sm_T (mt_P sc_) 1 200 (112, [some (.inr (.inr (some (11, 0)))), some (.inr (.inr (some (2, cc_)))), some (.inl n_), some (.inl bs_), some (.inl g_), none, none, none], [], S_) (fun ro9_ => ∃ u_ S1_, ro9_ = (.inl u_, S1_, 0) ∧ vq_200 cc_ S0_ u_ S1_)) ∧ (∀ (n_ : Int) (bs_ : Int) (g_ : Int) (nt_ : Int) (k_ : Int) (S_ : sm_S), gi S_ → ai_fr (sx_W vw_200) S0_ S_ → ((0 ≤ n_ ∧ n_ < 12 ∧ bs_ = 162 * n_ ∧ 0 ≤ g_ ∧ g_ ≤ 149 ∧ 0 ≤ nt_ ∧ nt_ ≤ 161 ∧ 0 ≤ k_ ∧ k_ ≤ 3) ∧ True) → ((100000 * (20 - n_) + 10 * g_ + 19 - k_).toNat) < nn_ → sm_T (mt_P sc_) 1 200 (129, [some (.inr (.inr (some (11, 0)))), some (.inr (.inr (some (2, cc_)))), some (.inl n_), some (.inl bs_), some (.inl g_), some (.inl nt_), some (.inl k_), none], [], S_) (fun ro9_ => ∃ u_ S1_, ro9_ = (.inl u_, S1_, 0) ∧ vq_200 cc_ S0_ u_ S1_)) := by
  intro nn_
  induction nn_ with
  | zero => exact ⟨fun _ _ _ _ _ h_ => absurd h_ (Nat.not_lt_zero _), fun _ _ _ _ _ _ _ h_ => absurd h_ (Nat.not_lt_zero _), fun _ _ _ _ _ _ _ h_ => absurd h_ (Nat.not_lt_zero _), fun _ _ _ _ _ _ _ _ _ h_ => absurd h_ (Nat.not_lt_zero _)⟩
  | succ nn_ ih_ =>
    refine ⟨?_, ?_, ?_, ?_⟩
    · rintro n_ S_ hI_ hF_ ⟨h0_, -⟩ hm_
      have z1_ : S_.1 2 cc_ 1 = S0_.1 2 cc_ 1 := hF_.1 2 cc_ 1 rfl
      have z2_ : S_.1 2 cc_ 2 = S0_.1 2 cc_ 2 := hF_.1 2 cc_ 2 rfl
      have cg9_ : 0 ≤ S_.1 2 cc_ 8 ∧ S_.1 2 cc_ 8 ≤ 150 := hI_.1 2 cc_ 8 rfl
      have ci_ : 0 ≤ S_.1 2 cc_ 1 ∧ S_.1 2 cc_ 1 ≤ 12 := hI_.1 2 cc_ 1 rfl
      have cr : 0 ≤ S_.1 2 cc_ 2 ∧ S_.1 2 cc_ 2 ≤ 6 := hI_.1 2 cc_ 2 rfl
      have co_ : 0 ≤ S_.1 2 cc_ 3 ∧ S_.1 2 cc_ 3 ≤ 16 := hI_.1 2 cc_ 3 rfl
      refine sm_T_go 2 (c1 := (12, [some (.inr (.inr (some (11, 0)))), some (.inr (.inr (some (2, cc_)))), some (.inl n_), none, none, none, none, none], [.inr (.inr (some (2, cc_))), .inl n_], S_)) rfl ?_
      refine sm_T_cal (d1 := 0) (Q1 := vq_54 cc_ S_) rfl rfl (by decide) (vc_54 cc_ S_ hI_ ) (fun u_ Sx1_ px4_ => ?_)
      obtain ⟨rfl, vx6_, rfl, px4_⟩ := px4_
      have fg12_ := px4_.2
      refine sm_T_br (a := 3) (z := 206) rfl (fun cx7_ => ?_) (fun cx7_ => ?_)
      · have cx7_ : vx6_ ≤ n_ := of_decide_eq_true cx7_
        refine sm_T_rv rfl ⟨_, _, rfl, rfl, hI_, hF_, ?_⟩
        trivial
      · have cx7_ : ¬ (vx6_ ≤ n_) := of_decide_eq_false cx7_
        refine sm_T_go 2 (c1 := (22, [some (.inr (.inr (some (11, 0)))), some (.inr (.inr (some (2, cc_)))), some (.inl n_), none, none, none, none, none], [.inl 162, .inl n_], S_)) rfl ?_
        refine sm_T_bin (w := 162 * n_) rfl (bi_mul (by omega) (by omega) (by omega)) ?_ -- pc_ 22
        refine sm_T_go 3 (c1 := (27, [some (.inr (.inr (some (11, 0)))), some (.inr (.inr (some (2, cc_)))), some (.inl n_), some (.inl (162 * n_)), some (.inl 0), none, none, none], [], S_)) rfl ?_
        refine ih_.2.1 n_ (162 * n_) 0 S_ hI_ hF_ ⟨?_, trivial⟩ ?_
        · omega
        · omega
    · rintro n_ bs_ e_ S_ hI_ hF_ ⟨h0_, -⟩ hm_
      have z1_ : S_.1 2 cc_ 1 = S0_.1 2 cc_ 1 := hF_.1 2 cc_ 1 rfl
      have z2_ : S_.1 2 cc_ 2 = S0_.1 2 cc_ 2 := hF_.1 2 cc_ 2 rfl
      have cg9_ : 0 ≤ S_.1 2 cc_ 8 ∧ S_.1 2 cc_ 8 ≤ 150 := hI_.1 2 cc_ 8 rfl
      have ci_ : 0 ≤ S_.1 2 cc_ 1 ∧ S_.1 2 cc_ 1 ≤ 12 := hI_.1 2 cc_ 1 rfl
      have cr : 0 ≤ S_.1 2 cc_ 2 ∧ S_.1 2 cc_ 2 ≤ 6 := hI_.1 2 cc_ 2 rfl
      have co_ : 0 ≤ S_.1 2 cc_ 3 ∧ S_.1 2 cc_ 3 ≤ 16 := hI_.1 2 cc_ 3 rfl
      refine sm_T_go 2 (c1 := (30, [some (.inr (.inr (some (11, 0)))), some (.inr (.inr (some (2, cc_)))), some (.inl n_), some (.inl bs_), some (.inl e_), none, none, none], [.inr (.inr (some (2, cc_))), .inl e_], S_)) rfl ?_
      refine sm_T_cal (d1 := 0) (Q1 := vq_57 cc_ S_) rfl rfl (by decide) (vc_57 cc_ S_ hI_ ) (fun u_ Sx1_ px4_ => ?_)
      obtain ⟨rfl, vx6_, rfl, px4_⟩ := px4_
      have nt30_ := px4_.2
      refine sm_T_br (a := 3) (z := 71) rfl (fun cx7_ => ?_) (fun cx7_ => ?_)
      · have cx7_ : vx6_ ≤ e_ := of_decide_eq_true cx7_
        have bx8_ : 0 ≤ S_.1 2 cc_ 8 ∧ S_.1 2 cc_ 8 ≤ 150 := hI_.1 2 cc_ 8 rfl
        refine sm_T_go 3 (c1 := (109, [some (.inr (.inr (some (11, 0)))), some (.inr (.inr (some (2, cc_)))), some (.inl n_), some (.inl bs_), some (.inl e_), none, none, none], [.inl 1, .inl (S_.1 2 cc_ 8)], S_)) rfl ?_
        refine sm_T_bin (w := (S_.1 2 cc_ 8) - 1) rfl (bi_sub (by omega) (by omega) (by omega)) ?_ -- pc_ 109
        refine sm_T_go 1 (c1 := (112, [some (.inr (.inr (some (11, 0)))), some (.inr (.inr (some (2, cc_)))), some (.inl n_), some (.inl bs_), some (.inl ((S_.1 2 cc_ 8) - 1)), none, none, none], [], S_)) rfl ?_
        refine ih_.2.2.1 n_ bs_ ((S_.1 2 cc_ 8) - 1) S_ hI_ hF_ ⟨?_, trivial⟩ ?_
        · omega
        · omega
      · have cx7_ : ¬ (vx6_ ≤ e_) := of_decide_eq_false cx7_
        refine sm_T_go 2 (c1 := (39, [some (.inr (.inr (some (11, 0)))), some (.inr (.inr (some (2, cc_)))), some (.inl n_), some (.inl bs_), some (.inl e_), none, none, none], [.inl e_, .inr (.inr (some (2, cc_)))], S_)) rfl ?_
        refine sm_T_cal (d1 := 0) (Q1 := vq_58 e_ cc_ S_) rfl rfl (by decide) (vc_58 e_ cc_ S_ hI_ (by omega)) (fun u_ Sx9_ px12_ => ?_)
        obtain ⟨rfl, vx14_, rfl, px12_⟩ := px12_
        have en39_ := px12_
        refine sm_T_go 2 (c1 := (46, [some (.inr (.inr (some (11, 0)))), some (.inr (.inr (some (2, cc_)))), some (.inl n_), some (.inl bs_), some (.inl e_), some (.inl vx14_), none, none], [.inl vx14_], S_)) rfl ?_
        refine sm_T_b0 (a := 2) (z := 52) rfl (fun cx15_ => ?_) (fun cx15_ => ?_)
        · have cx15_ : vx14_ < 0 := of_decide_eq_true cx15_
          refine sm_T_inc (a := 4) (z := 1) (v := e_) (w := e_ + 1) rfl rfl (by omega) (by omega) (by omega) ?_ -- pc_ 98
          refine sm_T_go 1 (c1 := (27, [some (.inr (.inr (some (11, 0)))), some (.inr (.inr (some (2, cc_)))), some (.inl n_), some (.inl bs_), some (.inl (e_ + 1)), some (.inl vx14_), none, none], [], S_)) rfl ?_
          refine sm_T_wk [some (.inr (.inr (some (11, 0)))), some (.inr (.inr (some (2, cc_)))), some (.inl n_), some (.inl bs_), some (.inl (e_ + 1)), none, none, none] (by exact ⟨rfl, rfl, rfl, rfl, rfl, trivial⟩) ?_
          refine ih_.2.1 n_ bs_ (e_ + 1) S_ hI_ hF_ ⟨?_, trivial⟩ ?_
          · omega
          · omega
        · have cx15_ : ¬ (vx14_ < 0) := of_decide_eq_false cx15_
          refine sm_T_go 3 (c1 := (54, [some (.inr (.inr (some (11, 0)))), some (.inr (.inr (some (2, cc_)))), some (.inl n_), some (.inl bs_), some (.inl e_), some (.inl vx14_), none, none], [.inl n_, .inr (.inr (some (39, (0 + cc_))))], S_)) rfl ?_
          refine sm_T_iald (n := 12) rfl rfl (by omega) (by omega) ?_
          have bx16_ : 0 ≤ S_.2.2.1 39 (0 + cc_) n_.toNat ∧ S_.2.2.1 39 (0 + cc_) n_.toNat ≤ 4194303 := hI_.2 39 (0 + cc_) _
          refine sm_T_go 1 (c1 := (57, [some (.inr (.inr (some (11, 0)))), some (.inr (.inr (some (2, cc_)))), some (.inl n_), some (.inl bs_), some (.inl e_), some (.inl vx14_), none, none], [.inl e_, .inl (S_.2.2.1 39 (0 + cc_) n_.toNat)], S_)) rfl ?_
          refine sm_T_bin (w := (i_shr (S_.2.2.1 39 (0 + cc_) n_.toNat) e_)) rfl rfl ?_ -- pc_ 57
          first | have bx17_ := i_shr_p (x_ := (S_.2.2.1 39 (0 + cc_) n_.toNat)) (e_ := e_) (by omega) (by omega) (by omega) | have bx17_ := i_shr_n (S_.2.2.1 39 (0 + cc_) n_.toNat) e_
          refine sm_T_go 1 (c1 := (59, [some (.inr (.inr (some (11, 0)))), some (.inr (.inr (some (2, cc_)))), some (.inl n_), some (.inl bs_), some (.inl e_), some (.inl vx14_), none, none], [.inl 1, .inl (i_shr (S_.2.2.1 39 (0 + cc_) n_.toNat) e_)], S_)) rfl ?_
          refine sm_T_bin (w := ((i_shr (S_.2.2.1 39 (0 + cc_) n_.toNat) e_) % 2)) rfl (bi_msk (k := 1) (by decide)) ?_ -- pc_ 59
          refine sm_T_b0 (a := 1) (z := 38) rfl (fun cx18_ => ?_) (fun cx18_ => ?_)
          · have cx18_ : ((i_shr (S_.2.2.1 39 (0 + cc_) n_.toNat) e_) % 2) ≠ 0 := of_decide_eq_true cx18_
            refine sm_T_inc (a := 4) (z := 1) (v := e_) (w := e_ + 1) rfl rfl (by omega) (by omega) (by omega) ?_ -- pc_ 98
            refine sm_T_go 1 (c1 := (27, [some (.inr (.inr (some (11, 0)))), some (.inr (.inr (some (2, cc_)))), some (.inl n_), some (.inl bs_), some (.inl (e_ + 1)), some (.inl vx14_), none, none], [], S_)) rfl ?_
            refine sm_T_wk [some (.inr (.inr (some (11, 0)))), some (.inr (.inr (some (2, cc_)))), some (.inl n_), some (.inl bs_), some (.inl (e_ + 1)), none, none, none] (by exact ⟨rfl, rfl, rfl, rfl, rfl, trivial⟩) ?_
            refine ih_.2.1 n_ bs_ (e_ + 1) S_ hI_ hF_ ⟨?_, trivial⟩ ?_
            · omega
            · omega
          · have cx18_ : ¬ (((i_shr (S_.2.2.1 39 (0 + cc_) n_.toNat) e_) % 2) ≠ 0) := of_decide_eq_false cx18_
            refine sm_T_go 4 (c1 := (70, [some (.inr (.inr (some (11, 0)))), some (.inr (.inr (some (2, cc_)))), some (.inl n_), some (.inl bs_), some (.inl e_), some (.inl vx14_), none, none], [.inl vx14_, .inl bs_, .inr (.inr (some (101, 0)))], S_)) rfl ?_
            refine sm_T_bin (w := bs_ + vx14_) rfl (bi_add (by omega) (by omega) (by omega)) ?_ -- pc_ 70
            refine sm_T_go 4 (c1 := (78, [some (.inr (.inr (some (11, 0)))), some (.inr (.inr (some (2, cc_)))), some (.inl n_), some (.inl bs_), some (.inl e_), some (.inl vx14_), none, none], [.inl vx14_, .inl bs_, .inr (.inr (some (101, 0))), .inl (bs_ + vx14_), .inr (.inr (some (101, 0)))], S_)) rfl ?_
            refine sm_T_bin (w := bs_ + vx14_) rfl (bi_add (by omega) (by omega) (by omega)) ?_ -- pc_ 78
            refine sm_T_iald (n := 1944) rfl rfl (by omega) (by omega) ?_
            have bx19_ : (-2147483648) ≤ S_.2.2.1 101 0 (bs_ + vx14_).toNat ∧ S_.2.2.1 101 0 (bs_ + vx14_).toNat ≤ 2147483647 := hI_.2 101 0 _
            have bx20_ : 0 ≤ S_.1 2 cc_ 3 ∧ S_.1 2 cc_ 3 ≤ 16 := hI_.1 2 cc_ 3 rfl
            refine sm_T_go 3 (c1 := (86, [some (.inr (.inr (some (11, 0)))), some (.inr (.inr (some (2, cc_)))), some (.inl n_), some (.inl bs_), some (.inl e_), some (.inl vx14_), none, none], [.inl (S_.1 2 cc_ 3), .inl e_, .inl (S_.2.2.1 101 0 (bs_ + vx14_).toNat), .inl (bs_ + vx14_), .inr (.inr (some (101, 0)))], S_)) rfl ?_
            refine sm_T_br (a := 3) (z := 7) rfl (fun cx21_ => ?_) (fun cx21_ => ?_)
            · have cx21_ : (S_.1 2 cc_ 3) ≤ e_ := of_decide_eq_true cx21_
              refine sm_T_go 1 (c1 := (94, [some (.inr (.inr (some (11, 0)))), some (.inr (.inr (some (2, cc_)))), some (.inl n_), some (.inl bs_), some (.inl e_), some (.inl vx14_), none, none], [.inl 2, .inl (S_.2.2.1 101 0 (bs_ + vx14_).toNat), .inl (bs_ + vx14_), .inr (.inr (some (101, 0)))], S_)) rfl ?_
              refine sm_T_nt (u := some (.inl (sm_mx (S_.2.2.1 101 0 (bs_ + vx14_).toNat) 2))) (S1 := S_) rfl rfl rfl ?_
              have bx22_ := sm_mx_d (S_.2.2.1 101 0 (bs_ + vx14_).toNat) 2
              refine sm_T_iast (n := 1944) rfl rfl (by omega) (by omega) ?_
              have hIx23_ : gi (sm_aI S_ 101 0 (bs_ + vx14_).toNat (sm_mx (S_.2.2.1 101 0 (bs_ + vx14_).toNat) 2)) := gi_aI hI_ (show (-2147483648) ≤ (sm_mx (S_.2.2.1 101 0 (bs_ + vx14_).toNat) 2) ∧ (sm_mx (S_.2.2.1 101 0 (bs_ + vx14_).toNat) 2) ≤ 2147483647 from ⟨by omega, by omega⟩)
              have hFx24_ : ai_fr (sx_W vw_200) S0_ (sm_aI S_ 101 0 (bs_ + vx14_).toNat (sm_mx (S_.2.2.1 101 0 (bs_ + vx14_).toNat) 2)) := ai_fr_tr hF_ (ai_fr_aI rfl)
              refine sm_T_inc (a := 4) (z := 1) (v := e_) (w := e_ + 1) rfl rfl (by omega) (by omega) (by omega) ?_ -- pc_ 98
              refine sm_T_go 1 (c1 := (27, [some (.inr (.inr (some (11, 0)))), some (.inr (.inr (some (2, cc_)))), some (.inl n_), some (.inl bs_), some (.inl (e_ + 1)), some (.inl vx14_), none, none], [], sm_aI S_ 101 0 (bs_ + vx14_).toNat (sm_mx (S_.2.2.1 101 0 (bs_ + vx14_).toNat) 2))) rfl ?_
              refine sm_T_wk [some (.inr (.inr (some (11, 0)))), some (.inr (.inr (some (2, cc_)))), some (.inl n_), some (.inl bs_), some (.inl (e_ + 1)), none, none, none] (by exact ⟨rfl, rfl, rfl, rfl, rfl, trivial⟩) ?_
              refine ih_.2.1 n_ bs_ (e_ + 1) (sm_aI S_ 101 0 (bs_ + vx14_).toNat (sm_mx (S_.2.2.1 101 0 (bs_ + vx14_).toNat) 2)) hIx23_ hFx24_ ⟨?_, trivial⟩ ?_
              · omega
              · omega
            · have cx21_ : ¬ ((S_.1 2 cc_ 3) ≤ e_) := of_decide_eq_false cx21_
              refine sm_T_go 2 (c1 := (94, [some (.inr (.inr (some (11, 0)))), some (.inr (.inr (some (2, cc_)))), some (.inl n_), some (.inl bs_), some (.inl e_), some (.inl vx14_), none, none], [.inl 0, .inl (S_.2.2.1 101 0 (bs_ + vx14_).toNat), .inl (bs_ + vx14_), .inr (.inr (some (101, 0)))], S_)) rfl ?_
              refine sm_T_nt (u := some (.inl (sm_mx (S_.2.2.1 101 0 (bs_ + vx14_).toNat) 0))) (S1 := S_) rfl rfl rfl ?_
              have bx25_ := sm_mx_d (S_.2.2.1 101 0 (bs_ + vx14_).toNat) 0
              refine sm_T_iast (n := 1944) rfl rfl (by omega) (by omega) ?_
              have hIx26_ : gi (sm_aI S_ 101 0 (bs_ + vx14_).toNat (sm_mx (S_.2.2.1 101 0 (bs_ + vx14_).toNat) 0)) := gi_aI hI_ (show (-2147483648) ≤ (sm_mx (S_.2.2.1 101 0 (bs_ + vx14_).toNat) 0) ∧ (sm_mx (S_.2.2.1 101 0 (bs_ + vx14_).toNat) 0) ≤ 2147483647 from ⟨by omega, by omega⟩)
              have hFx27_ : ai_fr (sx_W vw_200) S0_ (sm_aI S_ 101 0 (bs_ + vx14_).toNat (sm_mx (S_.2.2.1 101 0 (bs_ + vx14_).toNat) 0)) := ai_fr_tr hF_ (ai_fr_aI rfl)
              refine sm_T_inc (a := 4) (z := 1) (v := e_) (w := e_ + 1) rfl rfl (by omega) (by omega) (by omega) ?_ -- pc_ 98
              refine sm_T_go 1 (c1 := (27, [some (.inr (.inr (some (11, 0)))), some (.inr (.inr (some (2, cc_)))), some (.inl n_), some (.inl bs_), some (.inl (e_ + 1)), some (.inl vx14_), none, none], [], sm_aI S_ 101 0 (bs_ + vx14_).toNat (sm_mx (S_.2.2.1 101 0 (bs_ + vx14_).toNat) 0))) rfl ?_
              refine sm_T_wk [some (.inr (.inr (some (11, 0)))), some (.inr (.inr (some (2, cc_)))), some (.inl n_), some (.inl bs_), some (.inl (e_ + 1)), none, none, none] (by exact ⟨rfl, rfl, rfl, rfl, rfl, trivial⟩) ?_
              refine ih_.2.1 n_ bs_ (e_ + 1) (sm_aI S_ 101 0 (bs_ + vx14_).toNat (sm_mx (S_.2.2.1 101 0 (bs_ + vx14_).toNat) 0)) hIx26_ hFx27_ ⟨?_, trivial⟩ ?_
              · omega
              · omega
    · rintro n_ bs_ g_ S_ hI_ hF_ ⟨h0_, -⟩ hm_
      have z1_ : S_.1 2 cc_ 1 = S0_.1 2 cc_ 1 := hF_.1 2 cc_ 1 rfl
      have z2_ : S_.1 2 cc_ 2 = S0_.1 2 cc_ 2 := hF_.1 2 cc_ 2 rfl
      have cg9_ : 0 ≤ S_.1 2 cc_ 8 ∧ S_.1 2 cc_ 8 ≤ 150 := hI_.1 2 cc_ 8 rfl
      have ci_ : 0 ≤ S_.1 2 cc_ 1 ∧ S_.1 2 cc_ 1 ≤ 12 := hI_.1 2 cc_ 1 rfl
      have cr : 0 ≤ S_.1 2 cc_ 2 ∧ S_.1 2 cc_ 2 ≤ 6 := hI_.1 2 cc_ 2 rfl
      have co_ : 0 ≤ S_.1 2 cc_ 3 ∧ S_.1 2 cc_ 3 ≤ 16 := hI_.1 2 cc_ 3 rfl
      refine sm_T_go 1 (c1 := (114, [some (.inr (.inr (some (11, 0)))), some (.inr (.inr (some (2, cc_)))), some (.inl n_), some (.inl bs_), some (.inl g_), none, none, none], [.inl g_], S_)) rfl ?_
      refine sm_T_b0 (a := 2) (z := 101) rfl (fun cx1_ => ?_) (fun cx1_ => ?_)
      · have cx1_ : g_ < 0 := of_decide_eq_true cx1_
        refine sm_T_inc (a := 2) (z := 1) (v := n_) (w := n_ + 1) rfl rfl (by omega) (by omega) (by omega) ?_ -- pc_ 215
        refine sm_T_go 1 (c1 := (10, [some (.inr (.inr (some (11, 0)))), some (.inr (.inr (some (2, cc_)))), some (.inl (n_ + 1)), some (.inl bs_), some (.inl g_), none, none, none], [], S_)) rfl ?_
        refine sm_T_wk [some (.inr (.inr (some (11, 0)))), some (.inr (.inr (some (2, cc_)))), some (.inl (n_ + 1)), none, none, none, none, none] (by exact ⟨rfl, rfl, rfl, trivial⟩) ?_
        refine ih_.1 (n_ + 1) S_ hI_ hF_ ⟨?_, trivial⟩ ?_
        · omega
        · omega
      · have cx1_ : ¬ (g_ < 0) := of_decide_eq_false cx1_
        refine sm_T_go 1 (c1 := (118, [some (.inr (.inr (some (11, 0)))), some (.inr (.inr (some (2, cc_)))), some (.inl n_), some (.inl bs_), some (.inl g_), none, none, none], [.inr (.inr (some (2, cc_)))], S_)) rfl ?_
        refine sm_T_cal (d1 := 0) (Q1 := vq_54 cc_ S_) rfl rfl (by decide) (vc_54 cc_ S_ hI_ ) (fun u_ Sx2_ px5_ => ?_)
        obtain ⟨rfl, vx7_, rfl, px5_⟩ := px5_
        have fg118_ := px5_.2
        refine sm_T_go 1 (c1 := (123, [some (.inr (.inr (some (11, 0)))), some (.inr (.inr (some (2, cc_)))), some (.inl n_), some (.inl bs_), some (.inl g_), none, none, none], [.inl g_, .inl vx7_], S_)) rfl ?_
        refine sm_T_bin (w := vx7_ + g_) rfl (bi_add (by omega) (by omega) (by omega)) ?_ -- pc_ 123
        refine sm_T_go 3 (c1 := (129, [some (.inr (.inr (some (11, 0)))), some (.inr (.inr (some (2, cc_)))), some (.inl n_), some (.inl bs_), some (.inl g_), some (.inl (vx7_ + g_)), some (.inl 0), none], [], S_)) rfl ?_
        refine ih_.2.2.2 n_ bs_ g_ (vx7_ + g_) 0 S_ hI_ hF_ ⟨?_, trivial⟩ ?_
        · omega
        · omega
    · rintro n_ bs_ g_ nt_ k_ S_ hI_ hF_ ⟨h0_, -⟩ hm_
      have z1_ : S_.1 2 cc_ 1 = S0_.1 2 cc_ 1 := hF_.1 2 cc_ 1 rfl
      have z2_ : S_.1 2 cc_ 2 = S0_.1 2 cc_ 2 := hF_.1 2 cc_ 2 rfl
      have cg9_ : 0 ≤ S_.1 2 cc_ 8 ∧ S_.1 2 cc_ 8 ≤ 150 := hI_.1 2 cc_ 8 rfl
      have ci_ : 0 ≤ S_.1 2 cc_ 1 ∧ S_.1 2 cc_ 1 ≤ 12 := hI_.1 2 cc_ 1 rfl
      have cr : 0 ≤ S_.1 2 cc_ 2 ∧ S_.1 2 cc_ 2 ≤ 6 := hI_.1 2 cc_ 2 rfl
      have co_ : 0 ≤ S_.1 2 cc_ 3 ∧ S_.1 2 cc_ 3 ≤ 16 := hI_.1 2 cc_ 3 rfl
      refine sm_T_go 4 (c1 := (136, [some (.inr (.inr (some (11, 0)))), some (.inr (.inr (some (2, cc_)))), some (.inl n_), some (.inl bs_), some (.inl g_), some (.inl nt_), some (.inl k_), none], [.inl nt_, .inl bs_, .inr (.inr (some (101, 0)))], S_)) rfl ?_
      refine sm_T_bin (w := bs_ + nt_) rfl (bi_add (by omega) (by omega) (by omega)) ?_ -- pc_ 136
      refine sm_T_iald (n := 1944) rfl rfl (by omega) (by omega) ?_
      have bx1_ : (-2147483648) ≤ S_.2.2.1 101 0 (bs_ + nt_).toNat ∧ S_.2.2.1 101 0 (bs_ + nt_).toNat ≤ 2147483647 := hI_.2 101 0 _
      refine sm_T_go 1 (c1 := (139, [some (.inr (.inr (some (11, 0)))), some (.inr (.inr (some (2, cc_)))), some (.inl n_), some (.inl bs_), some (.inl g_), some (.inl nt_), some (.inl k_), none], [.inl (-1), .inl (S_.2.2.1 101 0 (bs_ + nt_).toNat)], S_)) rfl ?_
      refine sm_T_br (a := 0) (z := 70) rfl (fun cx2_ => ?_) (fun cx2_ => ?_)
      · have cx2_ : (S_.2.2.1 101 0 (bs_ + nt_).toNat) = (-1) := of_decide_eq_true cx2_
        refine sm_T_inc (a := 4) (z := (-1)) (v := g_) (w := g_ - 1) rfl rfl (by omega) (by omega) (by omega) ?_ -- pc_ 209
        refine sm_T_go 1 (c1 := (112, [some (.inr (.inr (some (11, 0)))), some (.inr (.inr (some (2, cc_)))), some (.inl n_), some (.inl bs_), some (.inl (g_ - 1)), some (.inl nt_), some (.inl k_), none], [], S_)) rfl ?_
        refine sm_T_wk [some (.inr (.inr (some (11, 0)))), some (.inr (.inr (some (2, cc_)))), some (.inl n_), some (.inl bs_), some (.inl (g_ - 1)), none, none, none] (by exact ⟨rfl, rfl, rfl, rfl, rfl, trivial⟩) ?_
        refine ih_.2.2.1 n_ bs_ (g_ - 1) S_ hI_ hF_ ⟨?_, trivial⟩ ?_
        · omega
        · omega
      · have cx2_ : ¬ ((S_.2.2.1 101 0 (bs_ + nt_).toNat) = (-1)) := of_decide_eq_false cx2_
        refine sm_T_go 3 (c1 := (147, [some (.inr (.inr (some (11, 0)))), some (.inr (.inr (some (2, cc_)))), some (.inl n_), some (.inl bs_), some (.inl g_), some (.inl nt_), some (.inl k_), none], [.inl g_, .inr (.inr (some (2, cc_))), .inl k_], S_)) rfl ?_
        refine sm_T_cal (d1 := 0) (Q1 := vq_59 g_ cc_ S_) rfl rfl (by decide) (vc_59 g_ cc_ S_ hI_ (by omega)) (fun u_ Sx3_ px6_ => ?_)
        obtain ⟨rfl, vx8_, rfl, px6_⟩ := px6_
        have gi147_ := px6_.1
        refine sm_T_br (a := 3) (z := 59) rfl (fun cx9_ => ?_) (fun cx9_ => ?_)
        · have cx9_ : vx8_ ≤ k_ := of_decide_eq_true cx9_
          refine sm_T_inc (a := 4) (z := (-1)) (v := g_) (w := g_ - 1) rfl rfl (by omega) (by omega) (by omega) ?_ -- pc_ 209
          refine sm_T_go 1 (c1 := (112, [some (.inr (.inr (some (11, 0)))), some (.inr (.inr (some (2, cc_)))), some (.inl n_), some (.inl bs_), some (.inl (g_ - 1)), some (.inl nt_), some (.inl k_), none], [], S_)) rfl ?_
          refine sm_T_wk [some (.inr (.inr (some (11, 0)))), some (.inr (.inr (some (2, cc_)))), some (.inl n_), some (.inl bs_), some (.inl (g_ - 1)), none, none, none] (by exact ⟨rfl, rfl, rfl, rfl, rfl, trivial⟩) ?_
          refine ih_.2.2.1 n_ bs_ (g_ - 1) S_ hI_ hF_ ⟨?_, trivial⟩ ?_
          · omega
          · omega
        · have cx9_ : ¬ (vx8_ ≤ k_) := of_decide_eq_false cx9_
          refine sm_T_go 5 (c1 := (161, [some (.inr (.inr (some (11, 0)))), some (.inr (.inr (some (2, cc_)))), some (.inl n_), some (.inl bs_), some (.inl g_), some (.inl nt_), some (.inl k_), none], [.inl g_, .inl 3, .inr (.inr (some (36, (0 + cc_)))), .inl bs_], S_)) rfl ?_
          refine sm_T_bin (w := 3 * g_) rfl (bi_mul (by omega) (by omega) (by omega)) ?_ -- pc_ 161
          refine sm_T_go 1 (c1 := (164, [some (.inr (.inr (some (11, 0)))), some (.inr (.inr (some (2, cc_)))), some (.inl n_), some (.inl bs_), some (.inl g_), some (.inl nt_), some (.inl k_), none], [.inl k_, .inl (3 * g_), .inr (.inr (some (36, (0 + cc_)))), .inl bs_], S_)) rfl ?_
          refine sm_T_bin (w := 3 * g_ + k_) rfl (bi_add (by omega) (by omega) (by omega)) ?_ -- pc_ 164
          refine sm_T_iald (n := 450) rfl rfl (by omega) (by omega) ?_
          have bx10_ : 0 ≤ S_.2.2.1 36 (0 + cc_) (3 * g_ + k_).toNat ∧ S_.2.2.1 36 (0 + cc_) (3 * g_ + k_).toNat ≤ 161 := hI_.2 36 (0 + cc_) _
          refine sm_T_bin (w := bs_ + (S_.2.2.1 36 (0 + cc_) (3 * g_ + k_).toNat)) rfl (bi_add (by omega) (by omega) (by omega)) ?_ -- pc_ 166
          refine sm_T_go 7 (c1 := (181, [some (.inr (.inr (some (11, 0)))), some (.inr (.inr (some (2, cc_)))), some (.inl n_), some (.inl bs_), some (.inl g_), some (.inl nt_), some (.inl k_), some (.inl (bs_ + (S_.2.2.1 36 (0 + cc_) (3 * g_ + k_).toNat)))], [.inl (bs_ + (S_.2.2.1 36 (0 + cc_) (3 * g_ + k_).toNat)), .inr (.inr (some (101, 0))), .inl (bs_ + (S_.2.2.1 36 (0 + cc_) (3 * g_ + k_).toNat)), .inr (.inr (some (101, 0)))], S_)) rfl ?_
          refine sm_T_iald (n := 1944) rfl rfl (by omega) (by omega) ?_
          have bx11_ : (-2147483648) ≤ S_.2.2.1 101 0 (bs_ + (S_.2.2.1 36 (0 + cc_) (3 * g_ + k_).toNat)).toNat ∧ S_.2.2.1 101 0 (bs_ + (S_.2.2.1 36 (0 + cc_) (3 * g_ + k_).toNat)).toNat ≤ 2147483647 := hI_.2 101 0 _
          refine sm_T_go 3 (c1 := (188, [some (.inr (.inr (some (11, 0)))), some (.inr (.inr (some (2, cc_)))), some (.inl n_), some (.inl bs_), some (.inl g_), some (.inl nt_), some (.inl k_), some (.inl (bs_ + (S_.2.2.1 36 (0 + cc_) (3 * g_ + k_).toNat)))], [.inl nt_, .inr (.inr (some (99, 0))), .inl (S_.2.2.1 101 0 (bs_ + (S_.2.2.1 36 (0 + cc_) (3 * g_ + k_).toNat)).toNat), .inl (bs_ + (S_.2.2.1 36 (0 + cc_) (3 * g_ + k_).toNat)), .inr (.inr (some (101, 0)))], S_)) rfl ?_
          refine sm_T_iald (n := 162) rfl rfl (by omega) (by omega) ?_
          have bx12_ : (-2147483648) ≤ S_.2.2.1 99 0 nt_.toNat ∧ S_.2.2.1 99 0 nt_.toNat ≤ 2147483647 := hI_.2 99 0 _
          refine sm_T_go 4 (c1 := (196, [some (.inr (.inr (some (11, 0)))), some (.inr (.inr (some (2, cc_)))), some (.inl n_), some (.inl bs_), some (.inl g_), some (.inl nt_), some (.inl k_), some (.inl (bs_ + (S_.2.2.1 36 (0 + cc_) (3 * g_ + k_).toNat)))], [.inl nt_, .inl bs_, .inr (.inr (some (101, 0))), .inl (S_.2.2.1 99 0 nt_.toNat), .inl (S_.2.2.1 101 0 (bs_ + (S_.2.2.1 36 (0 + cc_) (3 * g_ + k_).toNat)).toNat), .inl (bs_ + (S_.2.2.1 36 (0 + cc_) (3 * g_ + k_).toNat)), .inr (.inr (some (101, 0)))], S_)) rfl ?_
          refine sm_T_bin (w := bs_ + nt_) rfl (bi_add (by omega) (by omega) (by omega)) ?_ -- pc_ 196
          refine sm_T_iald (n := 1944) rfl rfl (by omega) (by omega) ?_
          refine sm_T_bin (w := (i_add (S_.2.2.1 99 0 nt_.toNat) (S_.2.2.1 101 0 (bs_ + nt_).toNat))) rfl rfl ?_ -- pc_ 198
          have bx13_ := i_add_r (S_.2.2.1 99 0 nt_.toNat) (S_.2.2.1 101 0 (bs_ + nt_).toNat)
          refine sm_T_nt (u := some (.inl (sm_mx (S_.2.2.1 101 0 (bs_ + (S_.2.2.1 36 (0 + cc_) (3 * g_ + k_).toNat)).toNat) (i_add (S_.2.2.1 99 0 nt_.toNat) (S_.2.2.1 101 0 (bs_ + nt_).toNat))))) (S1 := S_) rfl rfl rfl ?_
          have bx14_ := sm_mx_d (S_.2.2.1 101 0 (bs_ + (S_.2.2.1 36 (0 + cc_) (3 * g_ + k_).toNat)).toNat) (i_add (S_.2.2.1 99 0 nt_.toNat) (S_.2.2.1 101 0 (bs_ + nt_).toNat))
          refine sm_T_iast (n := 1944) rfl rfl (by omega) (by omega) ?_
          have hIx15_ : gi (sm_aI S_ 101 0 (bs_ + (S_.2.2.1 36 (0 + cc_) (3 * g_ + k_).toNat)).toNat (sm_mx (S_.2.2.1 101 0 (bs_ + (S_.2.2.1 36 (0 + cc_) (3 * g_ + k_).toNat)).toNat) (i_add (S_.2.2.1 99 0 nt_.toNat) (S_.2.2.1 101 0 (bs_ + nt_).toNat)))) := gi_aI hI_ (show (-2147483648) ≤ (sm_mx (S_.2.2.1 101 0 (bs_ + (S_.2.2.1 36 (0 + cc_) (3 * g_ + k_).toNat)).toNat) (i_add (S_.2.2.1 99 0 nt_.toNat) (S_.2.2.1 101 0 (bs_ + nt_).toNat))) ∧ (sm_mx (S_.2.2.1 101 0 (bs_ + (S_.2.2.1 36 (0 + cc_) (3 * g_ + k_).toNat)).toNat) (i_add (S_.2.2.1 99 0 nt_.toNat) (S_.2.2.1 101 0 (bs_ + nt_).toNat))) ≤ 2147483647 from ⟨by omega, by omega⟩)
          have hFx16_ : ai_fr (sx_W vw_200) S0_ (sm_aI S_ 101 0 (bs_ + (S_.2.2.1 36 (0 + cc_) (3 * g_ + k_).toNat)).toNat (sm_mx (S_.2.2.1 101 0 (bs_ + (S_.2.2.1 36 (0 + cc_) (3 * g_ + k_).toNat)).toNat) (i_add (S_.2.2.1 99 0 nt_.toNat) (S_.2.2.1 101 0 (bs_ + nt_).toNat)))) := ai_fr_tr hF_ (ai_fr_aI rfl)
          refine sm_T_inc (a := 6) (z := 1) (v := k_) (w := k_ + 1) rfl rfl (by omega) (by omega) (by omega) ?_ -- pc_ 203
          refine sm_T_go 1 (c1 := (129, [some (.inr (.inr (some (11, 0)))), some (.inr (.inr (some (2, cc_)))), some (.inl n_), some (.inl bs_), some (.inl g_), some (.inl nt_), some (.inl (k_ + 1)), some (.inl (bs_ + (S_.2.2.1 36 (0 + cc_) (3 * g_ + k_).toNat)))], [], sm_aI S_ 101 0 (bs_ + (S_.2.2.1 36 (0 + cc_) (3 * g_ + k_).toNat)).toNat (sm_mx (S_.2.2.1 101 0 (bs_ + (S_.2.2.1 36 (0 + cc_) (3 * g_ + k_).toNat)).toNat) (i_add (S_.2.2.1 99 0 nt_.toNat) (S_.2.2.1 101 0 (bs_ + nt_).toNat))))) rfl ?_
          refine sm_T_wk [some (.inr (.inr (some (11, 0)))), some (.inr (.inr (some (2, cc_)))), some (.inl n_), some (.inl bs_), some (.inl g_), some (.inl nt_), some (.inl (k_ + 1)), none] (by exact ⟨rfl, rfl, rfl, rfl, rfl, rfl, rfl, trivial⟩) ?_
          refine ih_.2.2.2 n_ bs_ g_ nt_ (k_ + 1) (sm_aI S_ 101 0 (bs_ + (S_.2.2.1 36 (0 + cc_) (3 * g_ + k_).toNat)).toNat (sm_mx (S_.2.2.1 101 0 (bs_ + (S_.2.2.1 36 (0 + cc_) (3 * g_ + k_).toNat)).toNat) (i_add (S_.2.2.1 99 0 nt_.toNat) (S_.2.2.1 101 0 (bs_ + nt_).toNat)))) hIx15_ hFx16_ ⟨?_, trivial⟩ ?_
          · omega
          · omega
set_option maxHeartbeats 400000 in
set_option maxRecDepth 20000 in
theorem vc_200 {sc_ : Nat × (Nat → Int)} (cc_ : Nat) (S0_ : sm_S) (hI_ : gi S0_) (hs_ : S0_.1 2 cc_ 1 + S0_.1 2 cc_ 2 ≤ 12) : sm_T (mt_P sc_) 1 200 (0, [some (.inr (.inr (some (11, 0)))), some (.inr (.inr (some (2, cc_)))), none, none, none, none, none, none], [], S0_) (fun ro9_ => ∃ u_ S1_, ro9_ = (.inl u_, S1_, 0) ∧ vq_200 cc_ S0_ u_ S1_) := by
  have hF_ : ai_fr (sx_W vw_200) S0_ S0_ := ai_fr_rf
  refine sm_T_go 3 (c1 := (5, [some (.inr (.inr (some (11, 0)))), some (.inr (.inr (some (2, cc_)))), none, none, none, none, none, none], [.inl (-1), .inr (.inr (some (101, 0)))], S0_)) rfl ?_
  refine sm_T_cal (d1 := 0) (Q1 := vq_2r1 (-1) S0_) rfl rfl (by decide) (vc_2r1 (-1) S0_ hI_ (by decide)) (fun u_ Sx1_ px4_ => ?_)
  obtain ⟨rfl, hIx2_, hFx3_, px4_⟩ := px4_
  have hFx5_ : ai_fr (sx_W vw_200) S0_ Sx1_ := ai_fr_tr hF_ (fr_le hFx3_ rfl)
  refine sm_T_go 2 (c1 := (10, [some (.inr (.inr (some (11, 0)))), some (.inr (.inr (some (2, cc_)))), some (.inl 0), none, none, none, none, none], [], Sx1_)) rfl ?_
  refine (vl_200 cc_ S0_ hs_ _).1 0 Sx1_ hIx2_ hFx5_ ⟨?_, trivial⟩ (Nat.lt_succ_self _)
  · omega
end
/-! 99.zm1e -/
section
/-! Times.putChange -/
def vw_206 : sx_Wl := ([(11, 16)], [108, 109], [])
def vq_206 (a1_ : Int) (a2_ : Int) (S0_ : sm_S) (u_ : Option sm_V) (S1_ : sm_S) : Prop := u_ = none ∧ gi S1_ ∧ ai_fr (sx_W vw_206) S0_ S1_ ∧ (True)
set_option maxHeartbeats 400000 in
theorem vc_206 {sc_ : Nat × (Nat → Int)} (a1_ : Int) (a2_ : Int) (S0_ : sm_S) (hI_ : gi S0_) (h1_ : 0 ≤ a1_ ∧ a1_ ≤ 161) (h2_ : -2147483648 ≤ a2_ ∧ a2_ ≤ 2147483647) : sm_T (mt_P sc_) 0 206 (0, [some (.inr (.inr (some (11, 0)))), some (.inl a1_), some (.inl a2_), none], [], S0_) (fun ro9_ => ∃ u_ S1_, ro9_ = (.inl u_, S1_, 0) ∧ vq_206 a1_ a2_ S0_ u_ S1_) := by
  have hF_ : ai_fr (sx_W vw_206) S0_ S0_ := ai_fr_rf
  refine sm_T_go 4 (c1 := (6, [some (.inr (.inr (some (11, 0)))), some (.inl a1_), some (.inl a2_), none], [.inl 1, .inl a1_, .inr (.inr (some (108, 0)))], S0_)) rfl ?_
  refine sm_T_bin (w := a1_ + 1) rfl (bi_add (by omega) (by omega) (by omega)) ?_ -- pc_ 6
  refine sm_T_iald (n := 163) rfl rfl (by omega) (by omega) ?_
  have bx1_ : 0 ≤ S0_.2.2.1 108 0 (a1_ + 1).toNat ∧ S0_.2.2.1 108 0 (a1_ + 1).toNat ≤ 20000 := hI_.2 108 0 _
  refine sm_T_go 3 (c1 := (13, [some (.inr (.inr (some (11, 0)))), some (.inl a1_), some (.inl a2_), some (.inl (S0_.2.2.1 108 0 (a1_ + 1).toNat))], [.inl 20000, .inl (S0_.2.2.1 108 0 (a1_ + 1).toNat)], S0_)) rfl ?_
  refine sm_T_br (a := 1) (z := 11) rfl (fun cx2_ => ?_) (fun cx2_ => ?_)
  · have cx2_ : (S0_.2.2.1 108 0 (a1_ + 1).toNat) ≠ 20000 := of_decide_eq_true cx2_
    refine sm_T_go 4 (c1 := (30, [some (.inr (.inr (some (11, 0)))), some (.inl a1_), some (.inl a2_), some (.inl (S0_.2.2.1 108 0 (a1_ + 1).toNat))], [.inl a2_, .inl (S0_.2.2.1 108 0 (a1_ + 1).toNat), .inr (.inr (some (109, 0)))], S0_)) rfl ?_
    refine sm_T_iast (n := 20000) rfl rfl (by omega) (by omega) ?_
    have hIx3_ : gi (sm_aI S0_ 109 0 (S0_.2.2.1 108 0 (a1_ + 1).toNat).toNat a2_) := gi_aI hI_ (show (-2147483648) ≤ a2_ ∧ a2_ ≤ 2147483647 from ⟨by omega, by omega⟩)
    have hFx4_ : ai_fr (sx_W vw_206) S0_ (sm_aI S0_ 109 0 (S0_.2.2.1 108 0 (a1_ + 1).toNat).toNat a2_) := ai_fr_tr hF_ (ai_fr_aI rfl)
    refine sm_T_go 4 (c1 := (37, [some (.inr (.inr (some (11, 0)))), some (.inl a1_), some (.inl a2_), some (.inl (S0_.2.2.1 108 0 (a1_ + 1).toNat))], [.inl 1, .inl a1_, .inr (.inr (some (108, 0)))], sm_aI S0_ 109 0 (S0_.2.2.1 108 0 (a1_ + 1).toNat).toNat a2_)) rfl ?_
    refine sm_T_bin (w := a1_ + 1) rfl (bi_add (by omega) (by omega) (by omega)) ?_ -- pc_ 37
    refine sm_T_go 1 (c1 := (39, [some (.inr (.inr (some (11, 0)))), some (.inl a1_), some (.inl a2_), some (.inl (S0_.2.2.1 108 0 (a1_ + 1).toNat))], [.inl (a1_ + 1), .inr (.inr (some (108, 0))), .inl (a1_ + 1), .inr (.inr (some (108, 0)))], sm_aI S0_ 109 0 (S0_.2.2.1 108 0 (a1_ + 1).toNat).toNat a2_)) rfl ?_
    refine sm_T_iald (n := 163) rfl rfl (by omega) (by omega) ?_
    refine sm_T_go 1 (c1 := (41, [some (.inr (.inr (some (11, 0)))), some (.inl a1_), some (.inl a2_), some (.inl (S0_.2.2.1 108 0 (a1_ + 1).toNat))], [.inl 1, .inl (S0_.2.2.1 108 0 (a1_ + 1).toNat), .inl (a1_ + 1), .inr (.inr (some (108, 0)))], sm_aI S0_ 109 0 (S0_.2.2.1 108 0 (a1_ + 1).toNat).toNat a2_)) rfl ?_
    refine sm_T_bin (w := (S0_.2.2.1 108 0 (a1_ + 1).toNat) + 1) rfl (bi_add (by omega) (by omega) (by omega)) ?_ -- pc_ 41
    refine sm_T_iast (n := 163) rfl rfl (by omega) (by omega) ?_
    have hIx5_ : gi (sm_aI (sm_aI S0_ 109 0 (S0_.2.2.1 108 0 (a1_ + 1).toNat).toNat a2_) 108 0 (a1_ + 1).toNat ((S0_.2.2.1 108 0 (a1_ + 1).toNat) + 1)) := gi_aI hIx3_ (show 0 ≤ (S0_.2.2.1 108 0 (a1_ + 1).toNat) + 1 ∧ (S0_.2.2.1 108 0 (a1_ + 1).toNat) + 1 ≤ 20000 from ⟨by omega, by omega⟩)
    have hFx6_ : ai_fr (sx_W vw_206) S0_ (sm_aI (sm_aI S0_ 109 0 (S0_.2.2.1 108 0 (a1_ + 1).toNat).toNat a2_) 108 0 (a1_ + 1).toNat ((S0_.2.2.1 108 0 (a1_ + 1).toNat) + 1)) := ai_fr_tr hFx4_ (ai_fr_aI rfl)
    refine sm_T_rv rfl ⟨_, _, rfl, rfl, hIx5_, hFx6_, ?_⟩
    trivial
  · have cx2_ : ¬ ((S0_.2.2.1 108 0 (a1_ + 1).toNat) ≠ 20000) := of_decide_eq_false cx2_
    have hIx7_ : gi (sm_pI S0_ 11 0 16 1) := gi_pI hI_ (show 0 ≤ 1 ∧ 1 ≤ 1 from ⟨by omega, by omega⟩)
    have hFx8_ : ai_fr (sx_W vw_206) S0_ (sm_pI S0_ 11 0 16 1) := ai_fr_tr hF_ (ai_fr_pI rfl)
    refine sm_T_go 4 (c1 := (43, [some (.inr (.inr (some (11, 0)))), some (.inl a1_), some (.inl a2_), some (.inl (S0_.2.2.1 108 0 (a1_ + 1).toNat))], [], sm_pI S0_ 11 0 16 1)) rfl ?_
    refine sm_T_rv rfl ⟨_, _, rfl, rfl, hIx7_, hFx8_, ?_⟩
    trivial
end
/-! 99.zm1f -/
section
/-! Times.ripple -/
def vw_207 : sx_Wl := ([(11, 16)], [107, 108, 109], [])
def vq_207 (a2_ : Int) (cc_ : Nat) (S0_ : sm_S) (u_ : Option sm_V) (S1_ : sm_S) : Prop := u_ = none ∧ gi S1_ ∧ ai_fr (sx_W vw_207) S0_ S1_ ∧ (True)
set_option maxHeartbeats 4000000 in
set_option maxRecDepth 20000 in
theorem vl_207 {sc_ : Nat × (Nat → Int)} (a2_ : Int) (cc_ : Nat) (S0_ : sm_S) (hs_ : S0_.1 2 cc_ 1 + S0_.1 2 cc_ 2 ≤ 12) (h2_ : S0_.1 2 cc_ 1 + S0_.1 2 cc_ 2 ≤ a2_ ∧ a2_ < S0_.1 2 cc_ 1 + S0_.1 2 cc_ 2 + S0_.1 2 cc_ 8) : ∀ nn_ : Nat, (∀ (g_ : Int) (ip_ : Int) (tb_ : Int) (st_ : Int) (kk_ : Int) (S_ : sm_S), gi S_ → ai_fr (sx_W vw_207) S0_ S_ → ((0 ≤ a2_ ∧ a2_ ≤ 161 ∧ 0 ≤ g_ ∧ g_ ≤ 149 ∧ 0 ≤ ip_ ∧ ip_ ≤ 3 ∧ 0 ≤ tb_ ∧ tb_ ≤ 255 ∧ 0 ≤ st_ ∧ st_ ≤ 7 ∧ 0 ≤ kk_ ∧ kk_ ≤ ip_) ∧ True) → ((20000000 - kk_).toNat) < nn_ → sm_T (mt_P sc_) 1 207 (36, [some (.inr (.inr (some (11, 0)))), some (.inr (.inr (some (2, cc_)))), some (.inl a2_), some (.inl g_), some (.inl ip_), some (.inl tb_), some (.inl st_), some (.inl kk_), none, none, none, none, none, none, none, none, none, none, none], [], S_) (fun ro9_ => ∃ u_ S1_, ro9_ = (.inl u_, S1_, 0) ∧ vq_207 a2_ cc_ S0_ u_ S1_)) ∧ (∀ (g_ : Int) (ip_ : Int) (tb_ : Int) (st_ : Int) (vl_ : Int) (n0_ : Int) (n1_ : Int) (n2_ : Int) (S_ : sm_S), gi S_ → ai_fr (sx_W vw_207) S0_ S_ → ((0 ≤ a2_ ∧ a2_ ≤ 161 ∧ 0 ≤ g_ ∧ g_ ≤ 149 ∧ 0 ≤ ip_ ∧ ip_ ≤ 3 ∧ 0 ≤ tb_ ∧ tb_ ≤ 255 ∧ 0 ≤ st_ ∧ st_ ≤ 7 ∧ 0 ≤ vl_ ∧ vl_ ≤ 1 ∧ 0 ≤ n0_ ∧ n0_ ≤ 161 ∧ 0 ≤ n1_ ∧ n1_ ≤ 161 ∧ 0 ≤ n2_ ∧ n2_ ≤ 161) ∧ True) → ((10000000 + 0 * a2_).toNat) < nn_ → sm_T (mt_P sc_) 1 207 (146, [some (.inr (.inr (some (11, 0)))), some (.inr (.inr (some (2, cc_)))), some (.inl a2_), some (.inl g_), some (.inl ip_), some (.inl tb_), some (.inl st_), some (.inl vl_), some (.inl n0_), some (.inl n1_), some (.inl n2_), none, none, none, none, none, none, none, none], [], S_) (fun ro9_ => ∃ u_ S1_, ro9_ = (.inl u_, S1_, 0) ∧ vq_207 a2_ cc_ S0_ u_ S1_)) ∧ (∀ (g_ : Int) (ip_ : Int) (tb_ : Int) (st_ : Int) (vl_ : Int) (n0_ : Int) (n1_ : Int) (n2_ : Int) (p0_ : Int) (p1_ : Int) (p2_ : Int) (gd_ : Int) (S_ : sm_S), gi S_ → ai_fr (sx_W vw_207) S0_ S_ → ((0 ≤ a2_ ∧ a2_ ≤ 161 ∧ 0 ≤ g_ ∧ g_ ≤ 149 ∧ 0 ≤ ip_ ∧ ip_ ≤ 3 ∧ 0 ≤ tb_ ∧ tb_ ≤ 255 ∧ 0 ≤ st_ ∧ st_ ≤ 7 ∧ 0 ≤ vl_ ∧ vl_ ≤ 1 ∧ 0 ≤ n0_ ∧ n0_ ≤ 161 ∧ 0 ≤ n1_ ∧ n1_ ≤ 161 ∧ 0 ≤ n2_ ∧ n2_ ≤ 161 ∧ 0 ≤ p0_ ∧ p0_ ≤ 20000 ∧ 0 ≤ p1_ ∧ p1_ ≤ 20000 ∧ 0 ≤ p2_ ∧ p2_ ≤ 20000 ∧ 0 ≤ gd_ ∧ gd_ ≤ 60000) ∧ True) → ((100 * (70000 - gd_) + 90).toNat) < nn_ → sm_T (mt_P sc_) 1 207 (212, [some (.inr (.inr (some (11, 0)))), some (.inr (.inr (some (2, cc_)))), some (.inl a2_), some (.inl g_), some (.inl ip_), some (.inl tb_), some (.inl st_), some (.inl vl_), some (.inl n0_), some (.inl n1_), some (.inl n2_), some (.inl p0_), some (.inl p1_), some (.inl p2_), some (.inl gd_), none, none, none, none], [], S_) (fun ro9_ => ∃ u_ S1_, ro9_ = (.inl u_, S1_, 0) ∧ vq_207 a2_ cc_ S0_ u_ S1_)) ∧ (∀ (g_ : Int) (ip_ : Int) (tb_ : Int) (st_ : Int) (vl_ : Int) (n0_ : Int) (n1_ : Int) (n2_ : Int) (p0_ : Int) (p1_ : Int) (p2_ : Int) (gd_ : Int) (w0_ : Int) (S_ : sm_S), gi S_ → ai_fr (sx_W vw_207) S0_ S_ → ((0 ≤ a2_ ∧ a2_ ≤ 161 ∧ 0 ≤ g_ ∧ g_ ≤ 149 ∧ 0 ≤ ip_ ∧ ip_ ≤ 3 ∧ 0 ≤ tb_ ∧ tb_ ≤ 255 ∧ 0 ≤ st_ ∧ st_ ≤ 7 ∧ 0 ≤ vl_ ∧ vl_ ≤ 1 ∧ 0 ≤ n0_ ∧ n0_ ≤ 161 ∧ 0 ≤ n1_ ∧ n1_ ≤ 161 ∧ 0 ≤ n2_ ∧ n2_ ≤ 161 ∧ 0 ≤ p0_ ∧ p0_ ≤ 20000 ∧ 0 ≤ p1_ ∧ p1_ ≤ 20000 ∧ 0 ≤ p2_ ∧ p2_ ≤ 20000 ∧ 0 ≤ gd_ ∧ gd_ < 60000) ∧ ((w0_ = 2147483647 ∨ p0_ ≤ 19999)) ∧ True) → ((100 * (70000 - gd_) + 80).toNat) < nn_ → sm_T (mt_P sc_) 1 207 (254, [some (.inr (.inr (some (11, 0)))), some (.inr (.inr (some (2, cc_)))), some (.inl a2_), some (.inl g_), some (.inl ip_), some (.inl tb_), some (.inl st_), some (.inl vl_), some (.inl n0_), some (.inl n1_), some (.inl n2_), some (.inl p0_), some (.inl p1_), some (.inl p2_), some (.inl gd_), some (.inl w0_), none, none, none], [], S_) (fun ro9_ => ∃ u_ S1_, ro9_ = (.inl u_, S1_, 0) ∧ vq_207 a2_ cc_ S0_ u_ S1_)) ∧ (∀ (g_ : Int) (ip_ : Int) (tb_ : Int) (st_ : Int) (vl_ : Int) (n0_ : Int) (n1_ : Int) (n2_ : Int) (p0_ : Int) (p1_ : Int) (p2_ : Int) (gd_ : Int) (w0_ : Int) (w1_ : Int) (S_ : sm_S), gi S_ → ai_fr (sx_W vw_207) S0_ S_ → ((0 ≤ a2_ ∧ a2_ ≤ 161 ∧ 0 ≤ g_ ∧ g_ ≤ 149 ∧ 0 ≤ ip_ ∧ ip_ ≤ 3 ∧ 0 ≤ tb_ ∧ tb_ ≤ 255 ∧ 0 ≤ st_ ∧ st_ ≤ 7 ∧ 0 ≤ vl_ ∧ vl_ ≤ 1 ∧ 0 ≤ n0_ ∧ n0_ ≤ 161 ∧ 0 ≤ n1_ ∧ n1_ ≤ 161 ∧ 0 ≤ n2_ ∧ n2_ ≤ 161 ∧ 0 ≤ p0_ ∧ p0_ ≤ 20000 ∧ 0 ≤ p1_ ∧ p1_ ≤ 20000 ∧ 0 ≤ p2_ ∧ p2_ ≤ 20000 ∧ 0 ≤ gd_ ∧ gd_ < 60000) ∧ ((w0_ = 2147483647 ∨ p0_ ≤ 19999)) ∧ ((w1_ = 2147483647 ∨ p1_ ≤ 19999)) ∧ True) → ((100 * (70000 - gd_) + 70).toNat) < nn_ → sm_T (mt_P sc_) 1 207 (282, [some (.inr (.inr (some (11, 0)))), some (.inr (.inr (some (2, cc_)))), some (.inl a2_), some (.inl g_), some (.inl ip_), some (.inl tb_), some (.inl st_), some (.inl vl_), some (.inl n0_), some (.inl n1_), some (.inl n2_), some (.inl p0_), some (.inl p1_), some (.inl p2_), some (.inl gd_), some (.inl w0_), some (.inl w1_), none, none], [], S_) (fun ro9_ => ∃ u_ S1_, ro9_ = (.inl u_, S1_, 0) ∧ vq_207 a2_ cc_ S0_ u_ S1_)) ∧ (∀ (g_ : Int) (ip_ : Int) (tb_ : Int) (st_ : Int) (vl_ : Int) (n0_ : Int) (n1_ : Int) (n2_ : Int) (p0_ : Int) (p1_ : Int) (p2_ : Int) (gd_ : Int) (w0_ : Int) (w1_ : Int) (w2_ : Int) (S_ : sm_S), gi S_ → ai_fr (sx_W vw_207) S0_ S_ → ((0 ≤ a2_ ∧ a2_ ≤ 161 ∧ 0 ≤ g_ ∧ g_ ≤ 149 ∧ 0 ≤ ip_ ∧ ip_ ≤ 3 ∧ 0 ≤ tb_ ∧ tb_ ≤ 255 ∧ 0 ≤ st_ ∧ st_ ≤ 7 ∧ 0 ≤ vl_ ∧ vl_ ≤ 1 ∧ 0 ≤ n0_ ∧ n0_ ≤ 161 ∧ 0 ≤ n1_ ∧ n1_ ≤ 161 ∧ 0 ≤ n2_ ∧ n2_ ≤ 161 ∧ 0 ≤ p0_ ∧ p0_ ≤ 20000 ∧ 0 ≤ p1_ ∧ p1_ ≤ 20000 ∧ 0 ≤ p2_ ∧ p2_ ≤ 20000 ∧ 0 ≤ gd_ ∧ gd_ < 60000) ∧ ((w0_ = 2147483647 ∨ p0_ ≤ 19999)) ∧ ((w1_ = 2147483647 ∨ p1_ ≤ 19999)) ∧ ((w2_ = 2147483647 ∨ p2_ ≤ 19999)) ∧ True) → ((100 * (70000 - gd_) + 60).toNat) < nn_ → sm_T (mt_P sc_) 1 207 (310, [some (.inr (.inr (some (11, 0)))), some (.inr (.inr (some (2, cc_)))), some (.inl a2_), some (.inl g_), some (.inl ip_), some (.inl tb_), some (.inl st_), some (.inl vl_), some (.inl n0_), some (.inl n1_), some (.inl n2_), some (.inl p0_), some (.inl p1_), some (.inl p2_), some (.inl gd_), some (.inl w0_), some (.inl w1_), some (.inl w2_), none], [], S_) (fun ro9_ => ∃ u_ S1_, ro9_ = (.inl u_, S1_, 0) ∧ vq_207 a2_ cc_ S0_ u_ S1_)) ∧ (∀ (g_ : Int) (ip_ : Int) (tb_ : Int) (st_ : Int) (vl_ : Int) (n0_ : Int) (n1_ : Int) (n2_ : Int) (p0_ : Int) (p1_ : Int) (p2_ : Int) (gd_ : Int) (w0_ : Int) (w1_ : Int) (w2_ : Int) (wn_ : Int) (S_ : sm_S), gi S_ → ai_fr (sx_W vw_207) S0_ S_ → ((0 ≤ a2_ ∧ a2_ ≤ 161 ∧ 0 ≤ g_ ∧ g_ ≤ 149 ∧ 0 ≤ ip_ ∧ ip_ ≤ 3 ∧ 0 ≤ tb_ ∧ tb_ ≤ 255 ∧ 0 ≤ st_ ∧ st_ ≤ 7 ∧ 0 ≤ vl_ ∧ vl_ ≤ 1 ∧ 0 ≤ n0_ ∧ n0_ ≤ 161 ∧ 0 ≤ n1_ ∧ n1_ ≤ 161 ∧ 0 ≤ n2_ ∧ n2_ ≤ 161 ∧ 0 ≤ p0_ ∧ p0_ ≤ 20000 ∧ 0 ≤ p1_ ∧ p1_ ≤ 20000 ∧ 0 ≤ p2_ ∧ p2_ ≤ 20000 ∧ 0 ≤ gd_ ∧ gd_ < 60000) ∧ ((w0_ = 2147483647 ∨ p0_ ≤ 19999)) ∧ ((w1_ = 2147483647 ∨ p1_ ≤ 19999)) ∧ ((w2_ = 2147483647 ∨ p2_ ≤ 19999)) ∧ (wn_ ≠ 2147483647) ∧ True) → ((100 * (70000 - gd_) + 50).toNat) < nn_ → sm_T (mt_P sc_) 1 207 (375, [some (.inr (.inr (some (11, 0)))), some (.inr (.inr (some (2, cc_)))), some (.inl a2_), some (.inl g_), some (.inl ip_), some (.inl tb_), some (.inl st_), some (.inl vl_), some (.inl n0_), some (.inl n1_), some (.inl n2_), some (.inl p0_), some (.inl p1_), some (.inl p2_), some (.inl gd_), some (.inl w0_), some (.inl w1_), some (.inl w2_), some (.inl wn_)], [], S_) (fun ro9_ => ∃ u_ S1_, ro9_ = (.inl u_, S1_, 0) ∧ vq_207 a2_ cc_ S0_ u_ S1_)) ∧ (∀ (g_ : Int) (ip_ : Int) (tb_ : Int) (st_ : Int) (vl_ : Int) (n0_ : Int) (n1_ : Int) (n2_ : Int) (p0_ : Int) (p1_ : Int) (p2_ : Int) (gd_ : Int) (w0_ : Int) (w1_ : Int) (w2_ : Int) (wn_ : Int) (S_ : sm_S), gi S_ → ai_fr (sx_W vw_207) S0_ S_ → ((0 ≤ a2_ ∧ a2_ ≤ 161 ∧ 0 ≤ g_ ∧ g_ ≤ 149 ∧ 0 ≤ ip_ ∧ ip_ ≤ 3 ∧ 0 ≤ tb_ ∧ tb_ ≤ 255 ∧ 0 ≤ st_ ∧ st_ ≤ 7 ∧ 0 ≤ vl_ ∧ vl_ ≤ 1 ∧ 0 ≤ n0_ ∧ n0_ ≤ 161 ∧ 0 ≤ n1_ ∧ n1_ ≤ 161 ∧ 0 ≤ n2_ ∧ n2_ ≤ 161 ∧ 0 ≤ p0_ ∧ p0_ ≤ 20000 ∧ 0 ≤ p1_ ∧ p1_ ≤ 20000 ∧ 0 ≤ p2_ ∧ p2_ ≤ 20000 ∧ 0 ≤ gd_ ∧ gd_ < 60000) ∧ ((w1_ = 2147483647 ∨ p1_ ≤ 19999)) ∧ ((w2_ = 2147483647 ∨ p2_ ≤ 19999)) ∧ (wn_ ≠ 2147483647) ∧ True) → ((100 * (70000 - gd_) + 40).toNat) < nn_ → sm_T (mt_P sc_) 1 207 (392, [some (.inr (.inr (some (11, 0)))), some (.inr (.inr (some (2, cc_)))), some (.inl a2_), some (.inl g_), some (.inl ip_), some (.inl tb_), some (.inl st_), some (.inl vl_), some (.inl n0_), some (.inl n1_), some (.inl n2_), some (.inl p0_), some (.inl p1_), some (.inl p2_), some (.inl gd_), some (.inl w0_), some (.inl w1_), some (.inl w2_), some (.inl wn_)], [], S_) (fun ro9_ => ∃ u_ S1_, ro9_ = (.inl u_, S1_, 0) ∧ vq_207 a2_ cc_ S0_ u_ S1_)) ∧ (∀ (g_ : Int) (ip_ : Int) (tb_ : Int) (st_ : Int) (vl_ : Int) (n0_ : Int) (n1_ : Int) (n2_ : Int) (p0_ : Int) (p1_ : Int) (p2_ : Int) (gd_ : Int) (w0_ : Int) (w1_ : Int) (w2_ : Int) (wn_ : Int) (S_ : sm_S), gi S_ → ai_fr (sx_W vw_207) S0_ S_ → ((0 ≤ a2_ ∧ a2_ ≤ 161 ∧ 0 ≤ g_ ∧ g_ ≤ 149 ∧ 0 ≤ ip_ ∧ ip_ ≤ 3 ∧ 0 ≤ tb_ ∧ tb_ ≤ 255 ∧ 0 ≤ st_ ∧ st_ ≤ 7 ∧ 0 ≤ vl_ ∧ vl_ ≤ 1 ∧ 0 ≤ n0_ ∧ n0_ ≤ 161 ∧ 0 ≤ n1_ ∧ n1_ ≤ 161 ∧ 0 ≤ n2_ ∧ n2_ ≤ 161 ∧ 0 ≤ p0_ ∧ p0_ ≤ 20000 ∧ 0 ≤ p1_ ∧ p1_ ≤ 20000 ∧ 0 ≤ p2_ ∧ p2_ ≤ 20000 ∧ 0 ≤ gd_ ∧ gd_ < 60000) ∧ ((w2_ = 2147483647 ∨ p2_ ≤ 19999)) ∧ (wn_ ≠ 2147483647) ∧ True) → ((100 * (70000 - gd_) + 30).toNat) < nn_ → sm_T (mt_P sc_) 1 207 (409, [some (.inr (.inr (some (11, 0)))), some (.inr (.inr (some (2, cc_)))), some (.inl a2_), some (.inl g_), some (.inl ip_), some (.inl tb_), some (.inl st_), some (.inl vl_), some (.inl n0_), some (.inl n1_), some (.inl n2_), some (.inl p0_), some (.inl p1_), some (.inl p2_), some (.inl gd_), some (.inl w0_), some (.inl w1_), some (.inl w2_), some (.inl wn_)], [], S_) (fun ro9_ => ∃ u_ S1_, ro9_ = (.inl u_, S1_, 0) ∧ vq_207 a2_ cc_ S0_ u_ S1_)) ∧ (∀ (g_ : Int) (ip_ : Int) (tb_ : Int) (st_ : Int) (vl_ : Int) (n0_ : Int) (n1_ : Int) (n2_ : Int) (p0_ : Int) (p1_ : Int) (p2_ : Int) (gd_ : Int) (w0_ : Int) (w1_ : Int) (w2_ : Int) (wn_ : Int) (S_ : sm_S), gi S_ → ai_fr (sx_W vw_207) S0_ S_ → ((0 ≤ a2_ ∧ a2_ ≤ 161 ∧ 0 ≤ g_ ∧ g_ ≤ 149 ∧ 0 ≤ ip_ ∧ ip_ ≤ 3 ∧ 0 ≤ tb_ ∧ tb_ ≤ 255 ∧ 0 ≤ st_ ∧ st_ ≤ 7 ∧ 0 ≤ vl_ ∧ vl_ ≤ 1 ∧ 0 ≤ n0_ ∧ n0_ ≤ 161 ∧ 0 ≤ n1_ ∧ n1_ ≤ 161 ∧ 0 ≤ n2_ ∧ n2_ ≤ 161 ∧ 0 ≤ p0_ ∧ p0_ ≤ 20000 ∧ 0 ≤ p1_ ∧ p1_ ≤ 20000 ∧ 0 ≤ p2_ ∧ p2_ ≤ 20000 ∧ 0 ≤ gd_ ∧ gd_ < 60000) ∧ (wn_ ≠ 2147483647) ∧ True) → ((100 * (70000 - gd_) + 20).toNat) < nn_ → sm_T (mt_P sc_) 1 207 (426, [some (.inr (.inr (some (11, 0)))), some (.inr (.inr (some (2, cc_)))), some (.inl a2_), some (.inl g_), some (.inl ip_), some (.inl tb_), some (.inl st_), some (.inl vl_), some (.inl n0_), some (.inl n1_), some (.inl n2_), some (.inl p0_), some (.inl p1_), some (.inl p2_), some (.inl gd_), some (.inl w0_), some (.inl w1_), some (.inl w2_), some (.inl wn_)], [], S_) (fun ro9_ => ∃ u_ S1_, ro9_ = (.inl u_, S1_, 0) ∧ vq_207 a2_ cc_ S0_ u_ S1_)) ∧ (∀ (g_ : Int) (ip_ : Int) (tb_ : Int) (st_ : Int) (vl_ : Int) (n0_ : Int) (n1_ : Int) (n2_ : Int) (p0_ : Int) (p1_ : Int) (p2_ : Int) (gd_ : Int) (S_ : sm_S), gi S_ → ai_fr (sx_W vw_207) S0_ S_ → ((0 ≤ a2_ ∧ a2_ ≤ 161 ∧ 0 ≤ g_ ∧ g_ ≤ 149 ∧ 0 ≤ ip_ ∧ ip_ ≤ 3 ∧ 0 ≤ tb_ ∧ tb_ ≤ 255 ∧ 0 ≤ st_ ∧ st_ ≤ 7 ∧ 0 ≤ vl_ ∧ vl_ ≤ 1 ∧ 0 ≤ n0_ ∧ n0_ ≤ 161 ∧ 0 ≤ n1_ ∧ n1_ ≤ 161 ∧ 0 ≤ n2_ ∧ n2_ ≤ 161 ∧ 0 ≤ p0_ ∧ p0_ ≤ 20000 ∧ 0 ≤ p1_ ∧ p1_ ≤ 20000 ∧ 0 ≤ p2_ ∧ p2_ ≤ 20000 ∧ 0 ≤ gd_ ∧ gd_ < 60000) ∧ True) → ((100 * (70000 - gd_) + 10).toNat) < nn_ → sm_T (mt_P sc_) 1 207 (458, [some (.inr (.inr (some (11, 0)))), some (.inr (.inr (some (2, cc_)))), some (.inl a2_), some (.inl g_), some (.inl ip_), some (.inl tb_), some (.inl st_), some (.inl vl_), some (.inl n0_), some (.inl n1_), some (.inl n2_), some (.inl p0_), some (.inl p1_), some (.inl p2_), some (.inl gd_), none, none, none, none], [], S_) (fun ro9_ => ∃ u_ S1_, ro9_ = (.inl u_, S1_, 0) ∧ vq_207 a2_ cc_ S0_ u_ S1_)) := by
  intro nn_
  induction nn_ with
  | zero => exact ⟨fun _ _ _ _ _ _ _ _ _ h_ => absurd h_ (Nat.not_lt_zero _), fun _ _ _ _ _ _ _ _ _ _ _ _ h_ => absurd h_ (Nat.not_lt_zero _), fun _ _ _ _ _ _ _ _ _ _ _ _ _ _ _ _ h_ => absurd h_ (Nat.not_lt_zero _), fun _ _ _ _ _ _ _ _ _ _ _ _ _ _ _ _ _ h_ => absurd h_ (Nat.not_lt_zero _), fun _ _ _ _ _ _ _ _ _ _ _ _ _ _ _ _ _ _ h_ => absurd h_ (Nat.not_lt_zero _), fun _ _ _ _ _ _ _ _ _ _ _ _ _ _ _ _ _ _ _ h_ => absurd h_ (Nat.not_lt_zero _), fun _ _ _ _ _ _ _ _ _ _ _ _ _ _ _ _ _ _ _ _ h_ => absurd h_ (Nat.not_lt_zero _), fun _ _ _ _ _ _ _ _ _ _ _ _ _ _ _ _ _ _ _ _ h_ => absurd h_ (Nat.not_lt_zero _), fun _ _ _ _ _ _ _ _ _ _ _ _ _ _ _ _ _ _ _ _ h_ => absurd h_ (Nat.not_lt_zero _), fun _ _ _ _ _ _ _ _ _ _ _ _ _ _ _ _ _ _ _ _ h_ => absurd h_ (Nat.not_lt_zero _), fun _ _ _ _ _ _ _ _ _ _ _ _ _ _ _ _ h_ => absurd h_ (Nat.not_lt_zero _)⟩
  | succ nn_ ih_ =>
    refine ⟨?_, ?_, ?_, ?_, ?_, ?_, ?_, ?_, ?_, ?_, ?_⟩
    · rintro g_ ip_ tb_ st_ kk_ S_ hI_ hF_ ⟨h0_, -⟩ hm_
      refine sm_T_go 2 (c1 := (40, [some (.inr (.inr (some (11, 0)))), some (.inr (.inr (some (2, cc_)))), some (.inl a2_), some (.inl g_), some (.inl ip_), some (.inl tb_), some (.inl st_), some (.inl kk_), none, none, none, none, none, none, none, none, none, none, none], [.inl ip_, .inl kk_], S_)) rfl ?_
      refine sm_T_br (a := 3) (z := 33) rfl (fun cx1_ => ?_) (fun cx1_ => ?_)
      · have cx1_ : ip_ ≤ kk_ := of_decide_eq_true cx1_
        refine sm_T_go 2 (c1 := (77, [some (.inr (.inr (some (11, 0)))), some (.inr (.inr (some (2, cc_)))), some (.inl a2_), some (.inl g_), some (.inl ip_), some (.inl tb_), some (.inl st_), some (.inl kk_), none, none, none, none, none, none, none, none, none, none, none], [.inl st_, .inl tb_], S_)) rfl ?_
        refine sm_T_bin (w := (i_shr tb_ st_)) rfl rfl ?_ -- pc_ 77
        first | have bx2_ := i_shr_p (x_ := tb_) (e_ := st_) (by omega) (by omega) (by omega) | have bx2_ := i_shr_n tb_ st_
        refine sm_T_go 1 (c1 := (79, [some (.inr (.inr (some (11, 0)))), some (.inr (.inr (some (2, cc_)))), some (.inl a2_), some (.inl g_), some (.inl ip_), some (.inl tb_), some (.inl st_), some (.inl kk_), none, none, none, none, none, none, none, none, none, none, none], [.inl 1, .inl (i_shr tb_ st_)], S_)) rfl ?_
        refine sm_T_bin (w := ((i_shr tb_ st_) % 2)) rfl (bi_msk (k := 1) (by decide)) ?_ -- pc_ 79
        refine sm_T_go 5 (c1 := (89, [some (.inr (.inr (some (11, 0)))), some (.inr (.inr (some (2, cc_)))), some (.inl a2_), some (.inl g_), some (.inl ip_), some (.inl tb_), some (.inl st_), some (.inl ((i_shr tb_ st_) % 2)), none, none, none, none, none, none, none, none, none, none, none], [.inl ((i_shr tb_ st_) % 2), .inl a2_, .inr (.inr (some (107, 0)))], S_)) rfl ?_
        refine sm_T_iast (n := 162) rfl rfl (by omega) (by omega) ?_
        have hIx3_ : gi (sm_aI S_ 107 0 a2_.toNat ((i_shr tb_ st_) % 2)) := gi_aI hI_ (show 0 ≤ ((i_shr tb_ st_) % 2) ∧ ((i_shr tb_ st_) % 2) ≤ 1 from ⟨by omega, by omega⟩)
        have hFx4_ : ai_fr (sx_W vw_207) S0_ (sm_aI S_ 107 0 a2_.toNat ((i_shr tb_ st_) % 2)) := ai_fr_tr hF_ (ai_fr_aI rfl)
        refine sm_T_go 4 (c1 := (96, [some (.inr (.inr (some (11, 0)))), some (.inr (.inr (some (2, cc_)))), some (.inl a2_), some (.inl g_), some (.inl ip_), some (.inl tb_), some (.inl st_), some (.inl ((i_shr tb_ st_) % 2)), none, none, none, none, none, none, none, none, none, none, none], [.inl g_, .inl 3, .inr (.inr (some (36, (0 + cc_))))], sm_aI S_ 107 0 a2_.toNat ((i_shr tb_ st_) % 2))) rfl ?_
        refine sm_T_bin (w := 3 * g_) rfl (bi_mul (by omega) (by omega) (by omega)) ?_ -- pc_ 96
        refine sm_T_iald (n := 450) rfl rfl (by omega) (by omega) ?_
        have bx5_ : 0 ≤ S_.2.2.1 36 (0 + cc_) (3 * g_).toNat ∧ S_.2.2.1 36 (0 + cc_) (3 * g_).toNat ≤ 161 := hI_.2 36 (0 + cc_) _
        refine sm_T_go 3 (c1 := (103, [some (.inr (.inr (some (11, 0)))), some (.inr (.inr (some (2, cc_)))), some (.inl a2_), some (.inl g_), some (.inl ip_), some (.inl tb_), some (.inl st_), some (.inl ((i_shr tb_ st_) % 2)), some (.inl (S_.2.2.1 36 (0 + cc_) (3 * g_).toNat)), none, none, none, none, none, none, none, none, none, none], [.inl 1, .inl ip_], sm_aI S_ 107 0 a2_.toNat ((i_shr tb_ st_) % 2))) rfl ?_
        refine sm_T_br (a := 5) (z := 16) rfl (fun cx6_ => ?_) (fun cx6_ => ?_)
        · have cx6_ : ip_ ≤ 1 := of_decide_eq_true cx6_
          refine sm_T_go 4 (c1 := (126, [some (.inr (.inr (some (11, 0)))), some (.inr (.inr (some (2, cc_)))), some (.inl a2_), some (.inl g_), some (.inl ip_), some (.inl tb_), some (.inl st_), some (.inl ((i_shr tb_ st_) % 2)), some (.inl (S_.2.2.1 36 (0 + cc_) (3 * g_).toNat)), some (.inl (S_.2.2.1 36 (0 + cc_) (3 * g_).toNat)), none, none, none, none, none, none, none, none, none], [.inl 2, .inl ip_], sm_aI S_ 107 0 a2_.toNat ((i_shr tb_ st_) % 2))) rfl ?_
          refine sm_T_br (a := 5) (z := 16) rfl (fun cx7_ => ?_) (fun cx7_ => ?_)
          · have cx7_ : ip_ ≤ 2 := of_decide_eq_true cx7_
            refine sm_T_go 2 (c1 := (146, [some (.inr (.inr (some (11, 0)))), some (.inr (.inr (some (2, cc_)))), some (.inl a2_), some (.inl g_), some (.inl ip_), some (.inl tb_), some (.inl st_), some (.inl ((i_shr tb_ st_) % 2)), some (.inl (S_.2.2.1 36 (0 + cc_) (3 * g_).toNat)), some (.inl (S_.2.2.1 36 (0 + cc_) (3 * g_).toNat)), some (.inl (S_.2.2.1 36 (0 + cc_) (3 * g_).toNat)), none, none, none, none, none, none, none, none], [], sm_aI S_ 107 0 a2_.toNat ((i_shr tb_ st_) % 2))) rfl ?_
            refine ih_.2.1 g_ ip_ tb_ st_ ((i_shr tb_ st_) % 2) (S_.2.2.1 36 (0 + cc_) (3 * g_).toNat) (S_.2.2.1 36 (0 + cc_) (3 * g_).toNat) (S_.2.2.1 36 (0 + cc_) (3 * g_).toNat) (sm_aI S_ 107 0 a2_.toNat ((i_shr tb_ st_) % 2)) hIx3_ hFx4_ ⟨?_, trivial⟩ ?_
            · omega
            · omega
          · have cx7_ : ¬ (ip_ ≤ 2) := of_decide_eq_false cx7_
            exfalso; omega
        · have cx6_ : ¬ (ip_ ≤ 1) := of_decide_eq_false cx6_
          refine sm_T_go 4 (c1 := (112, [some (.inr (.inr (some (11, 0)))), some (.inr (.inr (some (2, cc_)))), some (.inl a2_), some (.inl g_), some (.inl ip_), some (.inl tb_), some (.inl st_), some (.inl ((i_shr tb_ st_) % 2)), some (.inl (S_.2.2.1 36 (0 + cc_) (3 * g_).toNat)), none, none, none, none, none, none, none, none, none, none], [.inl g_, .inl 3, .inr (.inr (some (36, (0 + cc_))))], sm_aI S_ 107 0 a2_.toNat ((i_shr tb_ st_) % 2))) rfl ?_
          refine sm_T_bin (w := 3 * g_) rfl (bi_mul (by omega) (by omega) (by omega)) ?_ -- pc_ 112
          refine sm_T_go 1 (c1 := (114, [some (.inr (.inr (some (11, 0)))), some (.inr (.inr (some (2, cc_)))), some (.inl a2_), some (.inl g_), some (.inl ip_), some (.inl tb_), some (.inl st_), some (.inl ((i_shr tb_ st_) % 2)), some (.inl (S_.2.2.1 36 (0 + cc_) (3 * g_).toNat)), none, none, none, none, none, none, none, none, none, none], [.inl 1, .inl (3 * g_), .inr (.inr (some (36, (0 + cc_))))], sm_aI S_ 107 0 a2_.toNat ((i_shr tb_ st_) % 2))) rfl ?_
          refine sm_T_bin (w := 3 * g_ + 1) rfl (bi_add (by omega) (by omega) (by omega)) ?_ -- pc_ 114
          refine sm_T_iald (n := 450) rfl rfl (by omega) (by omega) ?_
          have bx8_ : 0 ≤ S_.2.2.1 36 (0 + cc_) (3 * g_ + 1).toNat ∧ S_.2.2.1 36 (0 + cc_) (3 * g_ + 1).toNat ≤ 161 := hI_.2 36 (0 + cc_) _
          refine sm_T_go 4 (c1 := (126, [some (.inr (.inr (some (11, 0)))), some (.inr (.inr (some (2, cc_)))), some (.inl a2_), some (.inl g_), some (.inl ip_), some (.inl tb_), some (.inl st_), some (.inl ((i_shr tb_ st_) % 2)), some (.inl (S_.2.2.1 36 (0 + cc_) (3 * g_).toNat)), some (.inl (S_.2.2.1 36 (0 + cc_) (3 * g_ + 1).toNat)), none, none, none, none, none, none, none, none, none], [.inl 2, .inl ip_], sm_aI S_ 107 0 a2_.toNat ((i_shr tb_ st_) % 2))) rfl ?_
          refine sm_T_br (a := 5) (z := 16) rfl (fun cx9_ => ?_) (fun cx9_ => ?_)
          · have cx9_ : ip_ ≤ 2 := of_decide_eq_true cx9_
            refine sm_T_go 2 (c1 := (146, [some (.inr (.inr (some (11, 0)))), some (.inr (.inr (some (2, cc_)))), some (.inl a2_), some (.inl g_), some (.inl ip_), some (.inl tb_), some (.inl st_), some (.inl ((i_shr tb_ st_) % 2)), some (.inl (S_.2.2.1 36 (0 + cc_) (3 * g_).toNat)), some (.inl (S_.2.2.1 36 (0 + cc_) (3 * g_ + 1).toNat)), some (.inl (S_.2.2.1 36 (0 + cc_) (3 * g_).toNat)), none, none, none, none, none, none, none, none], [], sm_aI S_ 107 0 a2_.toNat ((i_shr tb_ st_) % 2))) rfl ?_
            refine ih_.2.1 g_ ip_ tb_ st_ ((i_shr tb_ st_) % 2) (S_.2.2.1 36 (0 + cc_) (3 * g_).toNat) (S_.2.2.1 36 (0 + cc_) (3 * g_ + 1).toNat) (S_.2.2.1 36 (0 + cc_) (3 * g_).toNat) (sm_aI S_ 107 0 a2_.toNat ((i_shr tb_ st_) % 2)) hIx3_ hFx4_ ⟨?_, trivial⟩ ?_
            · omega
            · omega
          · have cx9_ : ¬ (ip_ ≤ 2) := of_decide_eq_false cx9_
            refine sm_T_go 4 (c1 := (135, [some (.inr (.inr (some (11, 0)))), some (.inr (.inr (some (2, cc_)))), some (.inl a2_), some (.inl g_), some (.inl ip_), some (.inl tb_), some (.inl st_), some (.inl ((i_shr tb_ st_) % 2)), some (.inl (S_.2.2.1 36 (0 + cc_) (3 * g_).toNat)), some (.inl (S_.2.2.1 36 (0 + cc_) (3 * g_ + 1).toNat)), none, none, none, none, none, none, none, none, none], [.inl g_, .inl 3, .inr (.inr (some (36, (0 + cc_))))], sm_aI S_ 107 0 a2_.toNat ((i_shr tb_ st_) % 2))) rfl ?_
            refine sm_T_bin (w := 3 * g_) rfl (bi_mul (by omega) (by omega) (by omega)) ?_ -- pc_ 135
            refine sm_T_go 1 (c1 := (137, [some (.inr (.inr (some (11, 0)))), some (.inr (.inr (some (2, cc_)))), some (.inl a2_), some (.inl g_), some (.inl ip_), some (.inl tb_), some (.inl st_), some (.inl ((i_shr tb_ st_) % 2)), some (.inl (S_.2.2.1 36 (0 + cc_) (3 * g_).toNat)), some (.inl (S_.2.2.1 36 (0 + cc_) (3 * g_ + 1).toNat)), none, none, none, none, none, none, none, none, none], [.inl 2, .inl (3 * g_), .inr (.inr (some (36, (0 + cc_))))], sm_aI S_ 107 0 a2_.toNat ((i_shr tb_ st_) % 2))) rfl ?_
            refine sm_T_bin (w := 3 * g_ + 2) rfl (bi_add (by omega) (by omega) (by omega)) ?_ -- pc_ 137
            refine sm_T_iald (n := 450) rfl rfl (by omega) (by omega) ?_
            have bx10_ : 0 ≤ S_.2.2.1 36 (0 + cc_) (3 * g_ + 2).toNat ∧ S_.2.2.1 36 (0 + cc_) (3 * g_ + 2).toNat ≤ 161 := hI_.2 36 (0 + cc_) _
            refine sm_T_go 2 (c1 := (146, [some (.inr (.inr (some (11, 0)))), some (.inr (.inr (some (2, cc_)))), some (.inl a2_), some (.inl g_), some (.inl ip_), some (.inl tb_), some (.inl st_), some (.inl ((i_shr tb_ st_) % 2)), some (.inl (S_.2.2.1 36 (0 + cc_) (3 * g_).toNat)), some (.inl (S_.2.2.1 36 (0 + cc_) (3 * g_ + 1).toNat)), some (.inl (S_.2.2.1 36 (0 + cc_) (3 * g_ + 2).toNat)), none, none, none, none, none, none, none, none], [], sm_aI S_ 107 0 a2_.toNat ((i_shr tb_ st_) % 2))) rfl ?_
            refine ih_.2.1 g_ ip_ tb_ st_ ((i_shr tb_ st_) % 2) (S_.2.2.1 36 (0 + cc_) (3 * g_).toNat) (S_.2.2.1 36 (0 + cc_) (3 * g_ + 1).toNat) (S_.2.2.1 36 (0 + cc_) (3 * g_ + 2).toNat) (sm_aI S_ 107 0 a2_.toNat ((i_shr tb_ st_) % 2)) hIx3_ hFx4_ ⟨?_, trivial⟩ ?_
            · omega
            · omega
      · have cx1_ : ¬ (ip_ ≤ kk_) := of_decide_eq_false cx1_
        have kc9_ : kk_ = 0 ∨ kk_ = 1 ∨ kk_ = 2 := by omega
        refine sm_T_go 7 (c1 := (55, [some (.inr (.inr (some (11, 0)))), some (.inr (.inr (some (2, cc_)))), some (.inl a2_), some (.inl g_), some (.inl ip_), some (.inl tb_), some (.inl st_), some (.inl kk_), none, none, none, none, none, none, none, none, none, none, none], [.inl g_, .inl 3, .inr (.inr (some (36, (0 + cc_)))), .inr (.inr (some (107, 0))), .inl st_], S_)) rfl ?_
        refine sm_T_bin (w := 3 * g_) rfl (bi_mul (by omega) (by omega) (by omega)) ?_ -- pc_ 55
        refine sm_T_go 1 (c1 := (58, [some (.inr (.inr (some (11, 0)))), some (.inr (.inr (some (2, cc_)))), some (.inl a2_), some (.inl g_), some (.inl ip_), some (.inl tb_), some (.inl st_), some (.inl kk_), none, none, none, none, none, none, none, none, none, none, none], [.inl kk_, .inl (3 * g_), .inr (.inr (some (36, (0 + cc_)))), .inr (.inr (some (107, 0))), .inl st_], S_)) rfl ?_
        refine sm_T_bin (w := 3 * g_ + kk_) rfl (bi_add (by omega) (by omega) (by omega)) ?_ -- pc_ 58
        refine sm_T_iald (n := 450) rfl rfl (by omega) (by omega) ?_
        have bx11_ : 0 ≤ S_.2.2.1 36 (0 + cc_) (3 * g_ + kk_).toNat ∧ S_.2.2.1 36 (0 + cc_) (3 * g_ + kk_).toNat ≤ 161 := hI_.2 36 (0 + cc_) _
        refine sm_T_iald (n := 162) rfl rfl (by omega) (by omega) ?_
        have bx12_ : 0 ≤ S_.2.2.1 107 0 (S_.2.2.1 36 (0 + cc_) (3 * g_ + kk_).toNat).toNat ∧ S_.2.2.1 107 0 (S_.2.2.1 36 (0 + cc_) (3 * g_ + kk_).toNat).toNat ≤ 1 := hI_.2 107 0 _
        refine sm_T_go 1 (c1 := (63, [some (.inr (.inr (some (11, 0)))), some (.inr (.inr (some (2, cc_)))), some (.inl a2_), some (.inl g_), some (.inl ip_), some (.inl tb_), some (.inl st_), some (.inl kk_), none, none, none, none, none, none, none, none, none, none, none], [.inl kk_, .inl (S_.2.2.1 107 0 (S_.2.2.1 36 (0 + cc_) (3 * g_ + kk_).toNat).toNat), .inl st_], S_)) rfl ?_
        refine sm_T_bin (w := (i_shl (S_.2.2.1 107 0 (S_.2.2.1 36 (0 + cc_) (3 * g_ + kk_).toNat).toNat) kk_)) rfl rfl ?_ -- pc_ 63
        have bx13_ : 0 ≤ i_shl (S_.2.2.1 107 0 (S_.2.2.1 36 (0 + cc_) (3 * g_ + kk_).toNat).toNat) kk_ ∧ i_shl (S_.2.2.1 107 0 (S_.2.2.1 36 (0 + cc_) (3 * g_ + kk_).toNat).toNat) kk_ ≤ 7 := by (have bq9_ : (S_.2.2.1 107 0 (S_.2.2.1 36 (0 + cc_) (3 * g_ + kk_).toNat).toNat) = 0 ∨ (S_.2.2.1 107 0 (S_.2.2.1 36 (0 + cc_) (3 * g_ + kk_).toNat).toNat) = 1 := (by omega); rcases bq9_ with u9_ | u9_ <;> rcases kc9_ with v9_ | v9_ | v9_ <;> rw [u9_, v9_] <;> decide)
        refine sm_T_bin (w := (i_or st_ (i_shl (S_.2.2.1 107 0 (S_.2.2.1 36 (0 + cc_) (3 * g_ + kk_).toNat).toNat) kk_))) rfl rfl ?_ -- pc_ 64
        first | have bx14_ := i_orp (x_ := st_) (y_ := (i_shl (S_.2.2.1 107 0 (S_.2.2.1 36 (0 + cc_) (3 * g_ + kk_).toNat).toNat) kk_)) (k_ := 1) (by decide) (by omega) (by omega) | have bx14_ := i_orp (x_ := st_) (y_ := (i_shl (S_.2.2.1 107 0 (S_.2.2.1 36 (0 + cc_) (3 * g_ + kk_).toNat).toNat) kk_)) (k_ := 3) (by decide) (by omega) (by omega) | have bx14_ := i_orp (x_ := st_) (y_ := (i_shl (S_.2.2.1 107 0 (S_.2.2.1 36 (0 + cc_) (3 * g_ + kk_).toNat).toNat) kk_)) (k_ := 4) (by decide) (by omega) (by omega) | have bx14_ := i_orp (x_ := st_) (y_ := (i_shl (S_.2.2.1 107 0 (S_.2.2.1 36 (0 + cc_) (3 * g_ + kk_).toNat).toNat) kk_)) (k_ := 6) (by decide) (by omega) (by omega) | have bx14_ := i_orp (x_ := st_) (y_ := (i_shl (S_.2.2.1 107 0 (S_.2.2.1 36 (0 + cc_) (3 * g_ + kk_).toNat).toNat) kk_)) (k_ := 8) (by decide) (by omega) (by omega) | have bx14_ := i_orp (x_ := st_) (y_ := (i_shl (S_.2.2.1 107 0 (S_.2.2.1 36 (0 + cc_) (3 * g_ + kk_).toNat).toNat) kk_)) (k_ := 12) (by decide) (by omega) (by omega) | have bx14_ := i_orp (x_ := st_) (y_ := (i_shl (S_.2.2.1 107 0 (S_.2.2.1 36 (0 + cc_) (3 * g_ + kk_).toNat).toNat) kk_)) (k_ := 16) (by decide) (by omega) (by omega) | have bx14_ := i_orp (x_ := st_) (y_ := (i_shl (S_.2.2.1 107 0 (S_.2.2.1 36 (0 + cc_) (3 * g_ + kk_).toNat).toNat) kk_)) (k_ := 22) (by decide) (by omega) (by omega) | have bx14_ := i_orp (x_ := st_) (y_ := (i_shl (S_.2.2.1 107 0 (S_.2.2.1 36 (0 + cc_) (3 * g_ + kk_).toNat).toNat) kk_)) (k_ := 31) (by decide) (by omega) (by omega) | have bx14_ := i_or_n st_ (i_shl (S_.2.2.1 107 0 (S_.2.2.1 36 (0 + cc_) (3 * g_ + kk_).toNat).toNat) kk_)
        refine sm_T_go 1 (c1 := (67, [some (.inr (.inr (some (11, 0)))), some (.inr (.inr (some (2, cc_)))), some (.inl a2_), some (.inl g_), some (.inl ip_), some (.inl tb_), some (.inl (i_or st_ (i_shl (S_.2.2.1 107 0 (S_.2.2.1 36 (0 + cc_) (3 * g_ + kk_).toNat).toNat) kk_))), some (.inl kk_), none, none, none, none, none, none, none, none, none, none, none], [], S_)) rfl ?_
        refine sm_T_inc (a := 7) (z := 1) (v := kk_) (w := kk_ + 1) rfl rfl (by omega) (by omega) (by omega) ?_ -- pc_ 67
        refine sm_T_go 1 (c1 := (36, [some (.inr (.inr (some (11, 0)))), some (.inr (.inr (some (2, cc_)))), some (.inl a2_), some (.inl g_), some (.inl ip_), some (.inl tb_), some (.inl (i_or st_ (i_shl (S_.2.2.1 107 0 (S_.2.2.1 36 (0 + cc_) (3 * g_ + kk_).toNat).toNat) kk_))), some (.inl (kk_ + 1)), none, none, none, none, none, none, none, none, none, none, none], [], S_)) rfl ?_
        refine ih_.1 g_ ip_ tb_ (i_or st_ (i_shl (S_.2.2.1 107 0 (S_.2.2.1 36 (0 + cc_) (3 * g_ + kk_).toNat).toNat) kk_)) (kk_ + 1) S_ hI_ hF_ ⟨?_, trivial⟩ ?_
        · omega
        · omega
    · rintro g_ ip_ tb_ st_ vl_ n0_ n1_ n2_ S_ hI_ hF_ ⟨h0_, -⟩ hm_
      refine sm_T_go 3 (c1 := (152, [some (.inr (.inr (some (11, 0)))), some (.inr (.inr (some (2, cc_)))), some (.inl a2_), some (.inl g_), some (.inl ip_), some (.inl tb_), some (.inl st_), some (.inl vl_), some (.inl n0_), some (.inl n1_), some (.inl n2_), none, none, none, none, none, none, none, none], [.inl n0_, .inr (.inr (some (108, 0)))], S_)) rfl ?_
      refine sm_T_iald (n := 163) rfl rfl (by omega) (by omega) ?_
      have bx1_ : 0 ≤ S_.2.2.1 108 0 n0_.toNat ∧ S_.2.2.1 108 0 n0_.toNat ≤ 20000 := hI_.2 108 0 _
      refine sm_T_go 3 (c1 := (158, [some (.inr (.inr (some (11, 0)))), some (.inr (.inr (some (2, cc_)))), some (.inl a2_), some (.inl g_), some (.inl ip_), some (.inl tb_), some (.inl st_), some (.inl vl_), some (.inl n0_), some (.inl n1_), some (.inl n2_), some (.inl (S_.2.2.1 108 0 n0_.toNat)), none, none, none, none, none, none, none], [.inl 1, .inl ip_], S_)) rfl ?_
      refine sm_T_br (a := 5) (z := 13) rfl (fun cx2_ => ?_) (fun cx2_ => ?_)
      · have cx2_ : ip_ ≤ 1 := of_decide_eq_true cx2_
        refine sm_T_go 4 (c1 := (178, [some (.inr (.inr (some (11, 0)))), some (.inr (.inr (some (2, cc_)))), some (.inl a2_), some (.inl g_), some (.inl ip_), some (.inl tb_), some (.inl st_), some (.inl vl_), some (.inl n0_), some (.inl n1_), some (.inl n2_), some (.inl (S_.2.2.1 108 0 n0_.toNat)), none, none, none, none, none, none, none], [.inl 1, .inl n1_, .inr (.inr (some (108, 0)))], S_)) rfl ?_
        refine sm_T_bin (w := n1_ + 1) rfl (bi_add (by omega) (by omega) (by omega)) ?_ -- pc_ 178
        refine sm_T_iald (n := 163) rfl rfl (by omega) (by omega) ?_
        have bx3_ : 0 ≤ S_.2.2.1 108 0 (n1_ + 1).toNat ∧ S_.2.2.1 108 0 (n1_ + 1).toNat ≤ 20000 := hI_.2 108 0 _
        refine sm_T_go 3 (c1 := (185, [some (.inr (.inr (some (11, 0)))), some (.inr (.inr (some (2, cc_)))), some (.inl a2_), some (.inl g_), some (.inl ip_), some (.inl tb_), some (.inl st_), some (.inl vl_), some (.inl n0_), some (.inl n1_), some (.inl n2_), some (.inl (S_.2.2.1 108 0 n0_.toNat)), some (.inl (S_.2.2.1 108 0 (n1_ + 1).toNat)), none, none, none, none, none, none], [.inl 2, .inl ip_], S_)) rfl ?_
        refine sm_T_br (a := 5) (z := 13) rfl (fun cx4_ => ?_) (fun cx4_ => ?_)
        · have cx4_ : ip_ ≤ 2 := of_decide_eq_true cx4_
          refine sm_T_go 4 (c1 := (205, [some (.inr (.inr (some (11, 0)))), some (.inr (.inr (some (2, cc_)))), some (.inl a2_), some (.inl g_), some (.inl ip_), some (.inl tb_), some (.inl st_), some (.inl vl_), some (.inl n0_), some (.inl n1_), some (.inl n2_), some (.inl (S_.2.2.1 108 0 n0_.toNat)), some (.inl (S_.2.2.1 108 0 (n1_ + 1).toNat)), none, none, none, none, none, none], [.inl 1, .inl n2_, .inr (.inr (some (108, 0)))], S_)) rfl ?_
          refine sm_T_bin (w := n2_ + 1) rfl (bi_add (by omega) (by omega) (by omega)) ?_ -- pc_ 205
          refine sm_T_iald (n := 163) rfl rfl (by omega) (by omega) ?_
          have bx5_ : 0 ≤ S_.2.2.1 108 0 (n2_ + 1).toNat ∧ S_.2.2.1 108 0 (n2_ + 1).toNat ≤ 20000 := hI_.2 108 0 _
          refine sm_T_go 3 (c1 := (212, [some (.inr (.inr (some (11, 0)))), some (.inr (.inr (some (2, cc_)))), some (.inl a2_), some (.inl g_), some (.inl ip_), some (.inl tb_), some (.inl st_), some (.inl vl_), some (.inl n0_), some (.inl n1_), some (.inl n2_), some (.inl (S_.2.2.1 108 0 n0_.toNat)), some (.inl (S_.2.2.1 108 0 (n1_ + 1).toNat)), some (.inl (S_.2.2.1 108 0 (n2_ + 1).toNat)), some (.inl 0), none, none, none, none], [], S_)) rfl ?_
          refine ih_.2.2.1 g_ ip_ tb_ st_ vl_ n0_ n1_ n2_ (S_.2.2.1 108 0 n0_.toNat) (S_.2.2.1 108 0 (n1_ + 1).toNat) (S_.2.2.1 108 0 (n2_ + 1).toNat) 0 S_ hI_ hF_ ⟨?_, trivial⟩ ?_
          · omega
          · omega
        · have cx4_ : ¬ (ip_ ≤ 2) := of_decide_eq_false cx4_
          exfalso; omega
      · have cx2_ : ¬ (ip_ ≤ 1) := of_decide_eq_false cx2_
        refine sm_T_go 3 (c1 := (167, [some (.inr (.inr (some (11, 0)))), some (.inr (.inr (some (2, cc_)))), some (.inl a2_), some (.inl g_), some (.inl ip_), some (.inl tb_), some (.inl st_), some (.inl vl_), some (.inl n0_), some (.inl n1_), some (.inl n2_), some (.inl (S_.2.2.1 108 0 n0_.toNat)), none, none, none, none, none, none, none], [.inl n1_, .inr (.inr (some (108, 0)))], S_)) rfl ?_
        refine sm_T_iald (n := 163) rfl rfl (by omega) (by omega) ?_
        have bx6_ : 0 ≤ S_.2.2.1 108 0 n1_.toNat ∧ S_.2.2.1 108 0 n1_.toNat ≤ 20000 := hI_.2 108 0 _
        refine sm_T_go 4 (c1 := (185, [some (.inr (.inr (some (11, 0)))), some (.inr (.inr (some (2, cc_)))), some (.inl a2_), some (.inl g_), some (.inl ip_), some (.inl tb_), some (.inl st_), some (.inl vl_), some (.inl n0_), some (.inl n1_), some (.inl n2_), some (.inl (S_.2.2.1 108 0 n0_.toNat)), some (.inl (S_.2.2.1 108 0 n1_.toNat)), none, none, none, none, none, none], [.inl 2, .inl ip_], S_)) rfl ?_
        refine sm_T_br (a := 5) (z := 13) rfl (fun cx7_ => ?_) (fun cx7_ => ?_)
        · have cx7_ : ip_ ≤ 2 := of_decide_eq_true cx7_
          refine sm_T_go 4 (c1 := (205, [some (.inr (.inr (some (11, 0)))), some (.inr (.inr (some (2, cc_)))), some (.inl a2_), some (.inl g_), some (.inl ip_), some (.inl tb_), some (.inl st_), some (.inl vl_), some (.inl n0_), some (.inl n1_), some (.inl n2_), some (.inl (S_.2.2.1 108 0 n0_.toNat)), some (.inl (S_.2.2.1 108 0 n1_.toNat)), none, none, none, none, none, none], [.inl 1, .inl n2_, .inr (.inr (some (108, 0)))], S_)) rfl ?_
          refine sm_T_bin (w := n2_ + 1) rfl (bi_add (by omega) (by omega) (by omega)) ?_ -- pc_ 205
          refine sm_T_iald (n := 163) rfl rfl (by omega) (by omega) ?_
          have bx8_ : 0 ≤ S_.2.2.1 108 0 (n2_ + 1).toNat ∧ S_.2.2.1 108 0 (n2_ + 1).toNat ≤ 20000 := hI_.2 108 0 _
          refine sm_T_go 3 (c1 := (212, [some (.inr (.inr (some (11, 0)))), some (.inr (.inr (some (2, cc_)))), some (.inl a2_), some (.inl g_), some (.inl ip_), some (.inl tb_), some (.inl st_), some (.inl vl_), some (.inl n0_), some (.inl n1_), some (.inl n2_), some (.inl (S_.2.2.1 108 0 n0_.toNat)), some (.inl (S_.2.2.1 108 0 n1_.toNat)), some (.inl (S_.2.2.1 108 0 (n2_ + 1).toNat)), some (.inl 0), none, none, none, none], [], S_)) rfl ?_
          refine ih_.2.2.1 g_ ip_ tb_ st_ vl_ n0_ n1_ n2_ (S_.2.2.1 108 0 n0_.toNat) (S_.2.2.1 108 0 n1_.toNat) (S_.2.2.1 108 0 (n2_ + 1).toNat) 0 S_ hI_ hF_ ⟨?_, trivial⟩ ?_
          · omega
          · omega
        · have cx7_ : ¬ (ip_ ≤ 2) := of_decide_eq_false cx7_
          refine sm_T_go 3 (c1 := (194, [some (.inr (.inr (some (11, 0)))), some (.inr (.inr (some (2, cc_)))), some (.inl a2_), some (.inl g_), some (.inl ip_), some (.inl tb_), some (.inl st_), some (.inl vl_), some (.inl n0_), some (.inl n1_), some (.inl n2_), some (.inl (S_.2.2.1 108 0 n0_.toNat)), some (.inl (S_.2.2.1 108 0 n1_.toNat)), none, none, none, none, none, none], [.inl n2_, .inr (.inr (some (108, 0)))], S_)) rfl ?_
          refine sm_T_iald (n := 163) rfl rfl (by omega) (by omega) ?_
          have bx9_ : 0 ≤ S_.2.2.1 108 0 n2_.toNat ∧ S_.2.2.1 108 0 n2_.toNat ≤ 20000 := hI_.2 108 0 _
          refine sm_T_go 4 (c1 := (212, [some (.inr (.inr (some (11, 0)))), some (.inr (.inr (some (2, cc_)))), some (.inl a2_), some (.inl g_), some (.inl ip_), some (.inl tb_), some (.inl st_), some (.inl vl_), some (.inl n0_), some (.inl n1_), some (.inl n2_), some (.inl (S_.2.2.1 108 0 n0_.toNat)), some (.inl (S_.2.2.1 108 0 n1_.toNat)), some (.inl (S_.2.2.1 108 0 n2_.toNat)), some (.inl 0), none, none, none, none], [], S_)) rfl ?_
          refine ih_.2.2.1 g_ ip_ tb_ st_ vl_ n0_ n1_ n2_ (S_.2.2.1 108 0 n0_.toNat) (S_.2.2.1 108 0 n1_.toNat) (S_.2.2.1 108 0 n2_.toNat) 0 S_ hI_ hF_ ⟨?_, trivial⟩ ?_
          · omega
          · omega
    · rintro g_ ip_ tb_ st_ vl_ n0_ n1_ n2_ p0_ p1_ p2_ gd_ S_ hI_ hF_ ⟨h0_, -⟩ hm_
      refine sm_T_go 1 (c1 := (214, [some (.inr (.inr (some (11, 0)))), some (.inr (.inr (some (2, cc_)))), some (.inl a2_), some (.inl g_), some (.inl ip_), some (.inl tb_), some (.inl st_), some (.inl vl_), some (.inl n0_), some (.inl n1_), some (.inl n2_), some (.inl p0_), some (.inl p1_), some (.inl p2_), some (.inl gd_), none, none, none, none], [.inl gd_], S_)) rfl ?_
      refine sm_T_nt (u := some (.inl 60000)) (S1 := S_) rfl rfl rfl ?_
      refine sm_T_br (a := 3) (z := 248) rfl (fun cx1_ => ?_) (fun cx1_ => ?_)
      · have cx1_ : 60000 ≤ gd_ := of_decide_eq_true cx1_
        refine sm_T_rv rfl ⟨_, _, rfl, rfl, hI_, hF_, ?_⟩
        trivial
      · have cx1_ : ¬ (60000 ≤ gd_) := of_decide_eq_false cx1_
        have bx2_ : 0 ≤ S_.1 11 0 16 ∧ S_.1 11 0 16 ≤ 1 := hI_.1 11 0 16 rfl
        refine sm_T_go 2 (c1 := (223, [some (.inr (.inr (some (11, 0)))), some (.inr (.inr (some (2, cc_)))), some (.inl a2_), some (.inl g_), some (.inl ip_), some (.inl tb_), some (.inl st_), some (.inl vl_), some (.inl n0_), some (.inl n1_), some (.inl n2_), some (.inl p0_), some (.inl p1_), some (.inl p2_), some (.inl gd_), none, none, none, none], [.inl (S_.1 11 0 16)], S_)) rfl ?_
        refine sm_T_b0 (a := 1) (z := 241) rfl (fun cx3_ => ?_) (fun cx3_ => ?_)
        · have cx3_ : (S_.1 11 0 16) ≠ 0 := of_decide_eq_true cx3_
          refine sm_T_rv rfl ⟨_, _, rfl, rfl, hI_, hF_, ?_⟩
          trivial
        · have cx3_ : ¬ ((S_.1 11 0 16) ≠ 0) := of_decide_eq_false cx3_
          refine sm_T_go 5 (c1 := (235, [some (.inr (.inr (some (11, 0)))), some (.inr (.inr (some (2, cc_)))), some (.inl a2_), some (.inl g_), some (.inl ip_), some (.inl tb_), some (.inl st_), some (.inl vl_), some (.inl n0_), some (.inl n1_), some (.inl n2_), some (.inl p0_), some (.inl p1_), some (.inl p2_), some (.inl gd_), none, none, none, none], [.inl 1, .inl n0_, .inr (.inr (some (108, 0))), .inl p0_], S_)) rfl ?_
          refine sm_T_bin (w := n0_ + 1) rfl (bi_add (by omega) (by omega) (by omega)) ?_ -- pc_ 235
          refine sm_T_iald (n := 163) rfl rfl (by omega) (by omega) ?_
          have bx4_ : 0 ≤ S_.2.2.1 108 0 (n0_ + 1).toNat ∧ S_.2.2.1 108 0 (n0_ + 1).toNat ≤ 20000 := hI_.2 108 0 _
          refine sm_T_br (a := 3) (z := 13) rfl (fun cx5_ => ?_) (fun cx5_ => ?_)
          · have cx5_ : (S_.2.2.1 108 0 (n0_ + 1).toNat) ≤ p0_ := of_decide_eq_true cx5_
            refine sm_T_nt (u := some (.inl 2147483647)) (S1 := S_) rfl rfl rfl ?_
            refine sm_T_go 1 (c1 := (254, [some (.inr (.inr (some (11, 0)))), some (.inr (.inr (some (2, cc_)))), some (.inl a2_), some (.inl g_), some (.inl ip_), some (.inl tb_), some (.inl st_), some (.inl vl_), some (.inl n0_), some (.inl n1_), some (.inl n2_), some (.inl p0_), some (.inl p1_), some (.inl p2_), some (.inl gd_), some (.inl 2147483647), none, none, none], [], S_)) rfl ?_
            refine ih_.2.2.2.1 g_ ip_ tb_ st_ vl_ n0_ n1_ n2_ p0_ p1_ p2_ gd_ 2147483647 S_ hI_ hF_ ⟨?_, ?_, trivial⟩ ?_
            · omega
            · omega
            · omega
          · have cx5_ : ¬ ((S_.2.2.1 108 0 (n0_ + 1).toNat) ≤ p0_) := of_decide_eq_false cx5_
            refine sm_T_go 3 (c1 := (246, [some (.inr (.inr (some (11, 0)))), some (.inr (.inr (some (2, cc_)))), some (.inl a2_), some (.inl g_), some (.inl ip_), some (.inl tb_), some (.inl st_), some (.inl vl_), some (.inl n0_), some (.inl n1_), some (.inl n2_), some (.inl p0_), some (.inl p1_), some (.inl p2_), some (.inl gd_), none, none, none, none], [.inl p0_, .inr (.inr (some (109, 0)))], S_)) rfl ?_
            refine sm_T_iald (n := 20000) rfl rfl (by omega) (by omega) ?_
            have bx6_ : (-2147483648) ≤ S_.2.2.1 109 0 p0_.toNat ∧ S_.2.2.1 109 0 p0_.toNat ≤ 2147483647 := hI_.2 109 0 _
            refine sm_T_go 2 (c1 := (254, [some (.inr (.inr (some (11, 0)))), some (.inr (.inr (some (2, cc_)))), some (.inl a2_), some (.inl g_), some (.inl ip_), some (.inl tb_), some (.inl st_), some (.inl vl_), some (.inl n0_), some (.inl n1_), some (.inl n2_), some (.inl p0_), some (.inl p1_), some (.inl p2_), some (.inl gd_), some (.inl (S_.2.2.1 109 0 p0_.toNat)), none, none, none], [], S_)) rfl ?_
            refine ih_.2.2.2.1 g_ ip_ tb_ st_ vl_ n0_ n1_ n2_ p0_ p1_ p2_ gd_ (S_.2.2.1 109 0 p0_.toNat) S_ hI_ hF_ ⟨?_, ?_, trivial⟩ ?_
            · omega
            · omega
            · omega
    · rintro g_ ip_ tb_ st_ vl_ n0_ n1_ n2_ p0_ p1_ p2_ gd_ w0_ S_ hI_ hF_ ⟨h0_, hw0_, -⟩ hm_
      refine sm_T_go 5 (c1 := (263, [some (.inr (.inr (some (11, 0)))), some (.inr (.inr (some (2, cc_)))), some (.inl a2_), some (.inl g_), some (.inl ip_), some (.inl tb_), some (.inl st_), some (.inl vl_), some (.inl n0_), some (.inl n1_), some (.inl n2_), some (.inl p0_), some (.inl p1_), some (.inl p2_), some (.inl gd_), some (.inl w0_), none, none, none], [.inl 1, .inl n1_, .inr (.inr (some (108, 0))), .inl p1_], S_)) rfl ?_
      refine sm_T_bin (w := n1_ + 1) rfl (bi_add (by omega) (by omega) (by omega)) ?_ -- pc_ 263
      refine sm_T_iald (n := 163) rfl rfl (by omega) (by omega) ?_
      have bx1_ : 0 ≤ S_.2.2.1 108 0 (n1_ + 1).toNat ∧ S_.2.2.1 108 0 (n1_ + 1).toNat ≤ 20000 := hI_.2 108 0 _
      refine sm_T_br (a := 3) (z := 13) rfl (fun cx2_ => ?_) (fun cx2_ => ?_)
      · have cx2_ : (S_.2.2.1 108 0 (n1_ + 1).toNat) ≤ p1_ := of_decide_eq_true cx2_
        refine sm_T_nt (u := some (.inl 2147483647)) (S1 := S_) rfl rfl rfl ?_
        refine sm_T_go 1 (c1 := (282, [some (.inr (.inr (some (11, 0)))), some (.inr (.inr (some (2, cc_)))), some (.inl a2_), some (.inl g_), some (.inl ip_), some (.inl tb_), some (.inl st_), some (.inl vl_), some (.inl n0_), some (.inl n1_), some (.inl n2_), some (.inl p0_), some (.inl p1_), some (.inl p2_), some (.inl gd_), some (.inl w0_), some (.inl 2147483647), none, none], [], S_)) rfl ?_
        refine ih_.2.2.2.2.1 g_ ip_ tb_ st_ vl_ n0_ n1_ n2_ p0_ p1_ p2_ gd_ w0_ 2147483647 S_ hI_ hF_ ⟨?_, ?_, ?_, trivial⟩ ?_
        · omega
        · omega
        · omega
        · omega
      · have cx2_ : ¬ ((S_.2.2.1 108 0 (n1_ + 1).toNat) ≤ p1_) := of_decide_eq_false cx2_
        refine sm_T_go 3 (c1 := (274, [some (.inr (.inr (some (11, 0)))), some (.inr (.inr (some (2, cc_)))), some (.inl a2_), some (.inl g_), some (.inl ip_), some (.inl tb_), some (.inl st_), some (.inl vl_), some (.inl n0_), some (.inl n1_), some (.inl n2_), some (.inl p0_), some (.inl p1_), some (.inl p2_), some (.inl gd_), some (.inl w0_), none, none, none], [.inl p1_, .inr (.inr (some (109, 0)))], S_)) rfl ?_
        refine sm_T_iald (n := 20000) rfl rfl (by omega) (by omega) ?_
        have bx3_ : (-2147483648) ≤ S_.2.2.1 109 0 p1_.toNat ∧ S_.2.2.1 109 0 p1_.toNat ≤ 2147483647 := hI_.2 109 0 _
        refine sm_T_go 2 (c1 := (282, [some (.inr (.inr (some (11, 0)))), some (.inr (.inr (some (2, cc_)))), some (.inl a2_), some (.inl g_), some (.inl ip_), some (.inl tb_), some (.inl st_), some (.inl vl_), some (.inl n0_), some (.inl n1_), some (.inl n2_), some (.inl p0_), some (.inl p1_), some (.inl p2_), some (.inl gd_), some (.inl w0_), some (.inl (S_.2.2.1 109 0 p1_.toNat)), none, none], [], S_)) rfl ?_
        refine ih_.2.2.2.2.1 g_ ip_ tb_ st_ vl_ n0_ n1_ n2_ p0_ p1_ p2_ gd_ w0_ (S_.2.2.1 109 0 p1_.toNat) S_ hI_ hF_ ⟨?_, ?_, ?_, trivial⟩ ?_
        · omega
        · omega
        · omega
        · omega
    · rintro g_ ip_ tb_ st_ vl_ n0_ n1_ n2_ p0_ p1_ p2_ gd_ w0_ w1_ S_ hI_ hF_ ⟨h0_, hw0_, hw1_, -⟩ hm_
      refine sm_T_go 5 (c1 := (291, [some (.inr (.inr (some (11, 0)))), some (.inr (.inr (some (2, cc_)))), some (.inl a2_), some (.inl g_), some (.inl ip_), some (.inl tb_), some (.inl st_), some (.inl vl_), some (.inl n0_), some (.inl n1_), some (.inl n2_), some (.inl p0_), some (.inl p1_), some (.inl p2_), some (.inl gd_), some (.inl w0_), some (.inl w1_), none, none], [.inl 1, .inl n2_, .inr (.inr (some (108, 0))), .inl p2_], S_)) rfl ?_
      refine sm_T_bin (w := n2_ + 1) rfl (bi_add (by omega) (by omega) (by omega)) ?_ -- pc_ 291
      refine sm_T_iald (n := 163) rfl rfl (by omega) (by omega) ?_
      have bx1_ : 0 ≤ S_.2.2.1 108 0 (n2_ + 1).toNat ∧ S_.2.2.1 108 0 (n2_ + 1).toNat ≤ 20000 := hI_.2 108 0 _
      refine sm_T_br (a := 3) (z := 13) rfl (fun cx2_ => ?_) (fun cx2_ => ?_)
      · have cx2_ : (S_.2.2.1 108 0 (n2_ + 1).toNat) ≤ p2_ := of_decide_eq_true cx2_
        refine sm_T_nt (u := some (.inl 2147483647)) (S1 := S_) rfl rfl rfl ?_
        refine sm_T_go 1 (c1 := (310, [some (.inr (.inr (some (11, 0)))), some (.inr (.inr (some (2, cc_)))), some (.inl a2_), some (.inl g_), some (.inl ip_), some (.inl tb_), some (.inl st_), some (.inl vl_), some (.inl n0_), some (.inl n1_), some (.inl n2_), some (.inl p0_), some (.inl p1_), some (.inl p2_), some (.inl gd_), some (.inl w0_), some (.inl w1_), some (.inl 2147483647), none], [], S_)) rfl ?_
        refine ih_.2.2.2.2.2.1 g_ ip_ tb_ st_ vl_ n0_ n1_ n2_ p0_ p1_ p2_ gd_ w0_ w1_ 2147483647 S_ hI_ hF_ ⟨?_, ?_, ?_, ?_, trivial⟩ ?_
        · omega
        · omega
        · omega
        · omega
        · omega
      · have cx2_ : ¬ ((S_.2.2.1 108 0 (n2_ + 1).toNat) ≤ p2_) := of_decide_eq_false cx2_
        refine sm_T_go 3 (c1 := (302, [some (.inr (.inr (some (11, 0)))), some (.inr (.inr (some (2, cc_)))), some (.inl a2_), some (.inl g_), some (.inl ip_), some (.inl tb_), some (.inl st_), some (.inl vl_), some (.inl n0_), some (.inl n1_), some (.inl n2_), some (.inl p0_), some (.inl p1_), some (.inl p2_), some (.inl gd_), some (.inl w0_), some (.inl w1_), none, none], [.inl p2_, .inr (.inr (some (109, 0)))], S_)) rfl ?_
        refine sm_T_iald (n := 20000) rfl rfl (by omega) (by omega) ?_
        have bx3_ : (-2147483648) ≤ S_.2.2.1 109 0 p2_.toNat ∧ S_.2.2.1 109 0 p2_.toNat ≤ 2147483647 := hI_.2 109 0 _
        refine sm_T_go 2 (c1 := (310, [some (.inr (.inr (some (11, 0)))), some (.inr (.inr (some (2, cc_)))), some (.inl a2_), some (.inl g_), some (.inl ip_), some (.inl tb_), some (.inl st_), some (.inl vl_), some (.inl n0_), some (.inl n1_), some (.inl n2_), some (.inl p0_), some (.inl p1_), some (.inl p2_), some (.inl gd_), some (.inl w0_), some (.inl w1_), some (.inl (S_.2.2.1 109 0 p2_.toNat)), none], [], S_)) rfl ?_
        refine ih_.2.2.2.2.2.1 g_ ip_ tb_ st_ vl_ n0_ n1_ n2_ p0_ p1_ p2_ gd_ w0_ w1_ (S_.2.2.1 109 0 p2_.toNat) S_ hI_ hF_ ⟨?_, ?_, ?_, ?_, trivial⟩ ?_
        · omega
        · omega
        · omega
        · omega
        · omega
    · rintro g_ ip_ tb_ st_ vl_ n0_ n1_ n2_ p0_ p1_ p2_ gd_ w0_ w1_ w2_ S_ hI_ hF_ ⟨h0_, hw0_, hw1_, hw2_, -⟩ hm_
      refine sm_T_go 3 (c1 := (316, [some (.inr (.inr (some (11, 0)))), some (.inr (.inr (some (2, cc_)))), some (.inl a2_), some (.inl g_), some (.inl ip_), some (.inl tb_), some (.inl st_), some (.inl vl_), some (.inl n0_), some (.inl n1_), some (.inl n2_), some (.inl p0_), some (.inl p1_), some (.inl p2_), some (.inl gd_), some (.inl w0_), some (.inl w1_), some (.inl w2_), none], [.inl w2_, .inl w1_, .inl w0_], S_)) rfl ?_
      refine sm_T_nt (u := some (.inl (sm_mn w1_ w2_))) (S1 := S_) rfl rfl rfl ?_
      have bx1_ := sm_mn_d w1_ w2_
      refine sm_T_nt (u := some (.inl (sm_mn w0_ (sm_mn w1_ w2_)))) (S1 := S_) rfl rfl rfl ?_
      have bx2_ := sm_mn_d w0_ (sm_mn w1_ w2_)
      refine sm_T_go 2 (c1 := (326, [some (.inr (.inr (some (11, 0)))), some (.inr (.inr (some (2, cc_)))), some (.inl a2_), some (.inl g_), some (.inl ip_), some (.inl tb_), some (.inl st_), some (.inl vl_), some (.inl n0_), some (.inl n1_), some (.inl n2_), some (.inl p0_), some (.inl p1_), some (.inl p2_), some (.inl gd_), some (.inl w0_), some (.inl w1_), some (.inl w2_), some (.inl (sm_mn w0_ (sm_mn w1_ w2_)))], [.inl (sm_mn w0_ (sm_mn w1_ w2_))], S_)) rfl ?_
      refine sm_T_nt (u := some (.inl 2147483647)) (S1 := S_) rfl rfl rfl ?_
      refine sm_T_br (a := 1) (z := 4) rfl (fun cx3_ => ?_) (fun cx3_ => ?_)
      · have cx3_ : (sm_mn w0_ (sm_mn w1_ w2_)) ≠ 2147483647 := of_decide_eq_true cx3_
        refine sm_T_go 3 (c1 := (338, [some (.inr (.inr (some (11, 0)))), some (.inr (.inr (some (2, cc_)))), some (.inl a2_), some (.inl g_), some (.inl ip_), some (.inl tb_), some (.inl st_), some (.inl vl_), some (.inl n0_), some (.inl n1_), some (.inl n2_), some (.inl p0_), some (.inl p1_), some (.inl p2_), some (.inl gd_), some (.inl w0_), some (.inl w1_), some (.inl w2_), some (.inl (sm_mn w0_ (sm_mn w1_ w2_)))], [.inl (sm_mn w0_ (sm_mn w1_ w2_)), .inl w0_, .inl st_], S_)) rfl ?_
        refine sm_T_br (a := 1) (z := 7) rfl (fun cx4_ => ?_) (fun cx4_ => ?_)
        · have cx4_ : w0_ ≠ (sm_mn w0_ (sm_mn w1_ w2_)) := of_decide_eq_true cx4_
          refine sm_T_go 3 (c1 := (350, [some (.inr (.inr (some (11, 0)))), some (.inr (.inr (some (2, cc_)))), some (.inl a2_), some (.inl g_), some (.inl ip_), some (.inl tb_), some (.inl st_), some (.inl vl_), some (.inl n0_), some (.inl n1_), some (.inl n2_), some (.inl p0_), some (.inl p1_), some (.inl p2_), some (.inl gd_), some (.inl w0_), some (.inl w1_), some (.inl w2_), some (.inl (sm_mn w0_ (sm_mn w1_ w2_)))], [.inl (sm_mn w0_ (sm_mn w1_ w2_)), .inl w1_, .inl 0, .inl st_], S_)) rfl ?_
          refine sm_T_br (a := 1) (z := 7) rfl (fun cx5_ => ?_) (fun cx5_ => ?_)
          · have cx5_ : w1_ ≠ (sm_mn w0_ (sm_mn w1_ w2_)) := of_decide_eq_true cx5_
            refine sm_T_go 1 (c1 := (358, [some (.inr (.inr (some (11, 0)))), some (.inr (.inr (some (2, cc_)))), some (.inl a2_), some (.inl g_), some (.inl ip_), some (.inl tb_), some (.inl st_), some (.inl vl_), some (.inl n0_), some (.inl n1_), some (.inl n2_), some (.inl p0_), some (.inl p1_), some (.inl p2_), some (.inl gd_), some (.inl w0_), some (.inl w1_), some (.inl w2_), some (.inl (sm_mn w0_ (sm_mn w1_ w2_)))], [.inl 0, .inl 0, .inl st_], S_)) rfl ?_
            refine sm_T_bin (w := (i_or 0 0)) rfl rfl ?_ -- pc_ 358
            first | have bx6_ := i_orp (x_ := 0) (y_ := 0) (k_ := 1) (by decide) (by omega) (by omega) | have bx6_ := i_orp (x_ := 0) (y_ := 0) (k_ := 3) (by decide) (by omega) (by omega) | have bx6_ := i_orp (x_ := 0) (y_ := 0) (k_ := 4) (by decide) (by omega) (by omega) | have bx6_ := i_orp (x_ := 0) (y_ := 0) (k_ := 6) (by decide) (by omega) (by omega) | have bx6_ := i_orp (x_ := 0) (y_ := 0) (k_ := 8) (by decide) (by omega) (by omega) | have bx6_ := i_orp (x_ := 0) (y_ := 0) (k_ := 12) (by decide) (by omega) (by omega) | have bx6_ := i_orp (x_ := 0) (y_ := 0) (k_ := 16) (by decide) (by omega) (by omega) | have bx6_ := i_orp (x_ := 0) (y_ := 0) (k_ := 22) (by decide) (by omega) (by omega) | have bx6_ := i_orp (x_ := 0) (y_ := 0) (k_ := 31) (by decide) (by omega) (by omega) | have bx6_ := i_or_n 0 0
            refine sm_T_go 2 (c1 := (363, [some (.inr (.inr (some (11, 0)))), some (.inr (.inr (some (2, cc_)))), some (.inl a2_), some (.inl g_), some (.inl ip_), some (.inl tb_), some (.inl st_), some (.inl vl_), some (.inl n0_), some (.inl n1_), some (.inl n2_), some (.inl p0_), some (.inl p1_), some (.inl p2_), some (.inl gd_), some (.inl w0_), some (.inl w1_), some (.inl w2_), some (.inl (sm_mn w0_ (sm_mn w1_ w2_)))], [.inl (sm_mn w0_ (sm_mn w1_ w2_)), .inl w2_, .inl (i_or 0 0), .inl st_], S_)) rfl ?_
            refine sm_T_br (a := 1) (z := 7) rfl (fun cx7_ => ?_) (fun cx7_ => ?_)
            · have cx7_ : w2_ ≠ (sm_mn w0_ (sm_mn w1_ w2_)) := of_decide_eq_true cx7_
              refine sm_T_go 1 (c1 := (371, [some (.inr (.inr (some (11, 0)))), some (.inr (.inr (some (2, cc_)))), some (.inl a2_), some (.inl g_), some (.inl ip_), some (.inl tb_), some (.inl st_), some (.inl vl_), some (.inl n0_), some (.inl n1_), some (.inl n2_), some (.inl p0_), some (.inl p1_), some (.inl p2_), some (.inl gd_), some (.inl w0_), some (.inl w1_), some (.inl w2_), some (.inl (sm_mn w0_ (sm_mn w1_ w2_)))], [.inl 0, .inl (i_or 0 0), .inl st_], S_)) rfl ?_
              refine sm_T_bin (w := (i_or (i_or 0 0) 0)) rfl rfl ?_ -- pc_ 371
              first | have bx8_ := i_orp (x_ := (i_or 0 0)) (y_ := 0) (k_ := 1) (by decide) (by omega) (by omega) | have bx8_ := i_orp (x_ := (i_or 0 0)) (y_ := 0) (k_ := 3) (by decide) (by omega) (by omega) | have bx8_ := i_orp (x_ := (i_or 0 0)) (y_ := 0) (k_ := 4) (by decide) (by omega) (by omega) | have bx8_ := i_orp (x_ := (i_or 0 0)) (y_ := 0) (k_ := 6) (by decide) (by omega) (by omega) | have bx8_ := i_orp (x_ := (i_or 0 0)) (y_ := 0) (k_ := 8) (by decide) (by omega) (by omega) | have bx8_ := i_orp (x_ := (i_or 0 0)) (y_ := 0) (k_ := 12) (by decide) (by omega) (by omega) | have bx8_ := i_orp (x_ := (i_or 0 0)) (y_ := 0) (k_ := 16) (by decide) (by omega) (by omega) | have bx8_ := i_orp (x_ := (i_or 0 0)) (y_ := 0) (k_ := 22) (by decide) (by omega) (by omega) | have bx8_ := i_orp (x_ := (i_or 0 0)) (y_ := 0) (k_ := 31) (by decide) (by omega) (by omega) | have bx8_ := i_or_n (i_or 0 0) 0
              refine sm_T_bin (w := (i_xor st_ (i_or (i_or 0 0) 0))) rfl rfl ?_ -- pc_ 372
              first | have bx9_ := i_xrp (x_ := st_) (y_ := (i_or (i_or 0 0) 0)) (k_ := 1) (by decide) (by omega) (by omega) | have bx9_ := i_xrp (x_ := st_) (y_ := (i_or (i_or 0 0) 0)) (k_ := 3) (by decide) (by omega) (by omega) | have bx9_ := i_xrp (x_ := st_) (y_ := (i_or (i_or 0 0) 0)) (k_ := 4) (by decide) (by omega) (by omega) | have bx9_ := i_xrp (x_ := st_) (y_ := (i_or (i_or 0 0) 0)) (k_ := 6) (by decide) (by omega) (by omega) | have bx9_ := i_xrp (x_ := st_) (y_ := (i_or (i_or 0 0) 0)) (k_ := 8) (by decide) (by omega) (by omega) | have bx9_ := i_xrp (x_ := st_) (y_ := (i_or (i_or 0 0) 0)) (k_ := 11) (by decide) (by omega) (by omega) | have bx9_ := i_xrp (x_ := st_) (y_ := (i_or (i_or 0 0) 0)) (k_ := 12) (by decide) (by omega) (by omega) | have bx9_ := i_xrp (x_ := st_) (y_ := (i_or (i_or 0 0) 0)) (k_ := 16) (by decide) (by omega) (by omega) | have bx9_ := i_xrp (x_ := st_) (y_ := (i_or (i_or 0 0) 0)) (k_ := 22) (by decide) (by omega) (by omega) | have bx9_ := i_xrp (x_ := st_) (y_ := (i_or (i_or 0 0) 0)) (k_ := 31) (by decide) (by omega) (by omega) | have bx9_ := i_xor_n st_ (i_or (i_or 0 0) 0)
              refine sm_T_go 1 (c1 := (375, [some (.inr (.inr (some (11, 0)))), some (.inr (.inr (some (2, cc_)))), some (.inl a2_), some (.inl g_), some (.inl ip_), some (.inl tb_), some (.inl (i_xor st_ (i_or (i_or 0 0) 0))), some (.inl vl_), some (.inl n0_), some (.inl n1_), some (.inl n2_), some (.inl p0_), some (.inl p1_), some (.inl p2_), some (.inl gd_), some (.inl w0_), some (.inl w1_), some (.inl w2_), some (.inl (sm_mn w0_ (sm_mn w1_ w2_)))], [], S_)) rfl ?_
              refine ih_.2.2.2.2.2.2.1 g_ ip_ tb_ (i_xor st_ (i_or (i_or 0 0) 0)) vl_ n0_ n1_ n2_ p0_ p1_ p2_ gd_ w0_ w1_ w2_ (sm_mn w0_ (sm_mn w1_ w2_)) S_ hI_ hF_ ⟨?_, ?_, ?_, ?_, ?_, trivial⟩ ?_
              · omega
              · omega
              · omega
              · omega
              · omega
              · omega
            · have cx7_ : ¬ (w2_ ≠ (sm_mn w0_ (sm_mn w1_ w2_))) := of_decide_eq_false cx7_
              refine sm_T_go 2 (c1 := (371, [some (.inr (.inr (some (11, 0)))), some (.inr (.inr (some (2, cc_)))), some (.inl a2_), some (.inl g_), some (.inl ip_), some (.inl tb_), some (.inl st_), some (.inl vl_), some (.inl n0_), some (.inl n1_), some (.inl n2_), some (.inl p0_), some (.inl p1_), some (.inl p2_), some (.inl gd_), some (.inl w0_), some (.inl w1_), some (.inl w2_), some (.inl (sm_mn w0_ (sm_mn w1_ w2_)))], [.inl 4, .inl (i_or 0 0), .inl st_], S_)) rfl ?_
              refine sm_T_bin (w := (i_or (i_or 0 0) 4)) rfl rfl ?_ -- pc_ 371
              first | have bx10_ := i_orp (x_ := (i_or 0 0)) (y_ := 4) (k_ := 1) (by decide) (by omega) (by omega) | have bx10_ := i_orp (x_ := (i_or 0 0)) (y_ := 4) (k_ := 3) (by decide) (by omega) (by omega) | have bx10_ := i_orp (x_ := (i_or 0 0)) (y_ := 4) (k_ := 4) (by decide) (by omega) (by omega) | have bx10_ := i_orp (x_ := (i_or 0 0)) (y_ := 4) (k_ := 6) (by decide) (by omega) (by omega) | have bx10_ := i_orp (x_ := (i_or 0 0)) (y_ := 4) (k_ := 8) (by decide) (by omega) (by omega) | have bx10_ := i_orp (x_ := (i_or 0 0)) (y_ := 4) (k_ := 12) (by decide) (by omega) (by omega) | have bx10_ := i_orp (x_ := (i_or 0 0)) (y_ := 4) (k_ := 16) (by decide) (by omega) (by omega) | have bx10_ := i_orp (x_ := (i_or 0 0)) (y_ := 4) (k_ := 22) (by decide) (by omega) (by omega) | have bx10_ := i_orp (x_ := (i_or 0 0)) (y_ := 4) (k_ := 31) (by decide) (by omega) (by omega) | have bx10_ := i_or_n (i_or 0 0) 4
              refine sm_T_bin (w := (i_xor st_ (i_or (i_or 0 0) 4))) rfl rfl ?_ -- pc_ 372
              first | have bx11_ := i_xrp (x_ := st_) (y_ := (i_or (i_or 0 0) 4)) (k_ := 1) (by decide) (by omega) (by omega) | have bx11_ := i_xrp (x_ := st_) (y_ := (i_or (i_or 0 0) 4)) (k_ := 3) (by decide) (by omega) (by omega) | have bx11_ := i_xrp (x_ := st_) (y_ := (i_or (i_or 0 0) 4)) (k_ := 4) (by decide) (by omega) (by omega) | have bx11_ := i_xrp (x_ := st_) (y_ := (i_or (i_or 0 0) 4)) (k_ := 6) (by decide) (by omega) (by omega) | have bx11_ := i_xrp (x_ := st_) (y_ := (i_or (i_or 0 0) 4)) (k_ := 8) (by decide) (by omega) (by omega) | have bx11_ := i_xrp (x_ := st_) (y_ := (i_or (i_or 0 0) 4)) (k_ := 11) (by decide) (by omega) (by omega) | have bx11_ := i_xrp (x_ := st_) (y_ := (i_or (i_or 0 0) 4)) (k_ := 12) (by decide) (by omega) (by omega) | have bx11_ := i_xrp (x_ := st_) (y_ := (i_or (i_or 0 0) 4)) (k_ := 16) (by decide) (by omega) (by omega) | have bx11_ := i_xrp (x_ := st_) (y_ := (i_or (i_or 0 0) 4)) (k_ := 22) (by decide) (by omega) (by omega) | have bx11_ := i_xrp (x_ := st_) (y_ := (i_or (i_or 0 0) 4)) (k_ := 31) (by decide) (by omega) (by omega) | have bx11_ := i_xor_n st_ (i_or (i_or 0 0) 4)
              refine sm_T_go 1 (c1 := (375, [some (.inr (.inr (some (11, 0)))), some (.inr (.inr (some (2, cc_)))), some (.inl a2_), some (.inl g_), some (.inl ip_), some (.inl tb_), some (.inl (i_xor st_ (i_or (i_or 0 0) 4))), some (.inl vl_), some (.inl n0_), some (.inl n1_), some (.inl n2_), some (.inl p0_), some (.inl p1_), some (.inl p2_), some (.inl gd_), some (.inl w0_), some (.inl w1_), some (.inl w2_), some (.inl (sm_mn w0_ (sm_mn w1_ w2_)))], [], S_)) rfl ?_
              refine ih_.2.2.2.2.2.2.1 g_ ip_ tb_ (i_xor st_ (i_or (i_or 0 0) 4)) vl_ n0_ n1_ n2_ p0_ p1_ p2_ gd_ w0_ w1_ w2_ (sm_mn w0_ (sm_mn w1_ w2_)) S_ hI_ hF_ ⟨?_, ?_, ?_, ?_, ?_, trivial⟩ ?_
              · omega
              · omega
              · omega
              · omega
              · omega
              · omega
          · have cx5_ : ¬ (w1_ ≠ (sm_mn w0_ (sm_mn w1_ w2_))) := of_decide_eq_false cx5_
            refine sm_T_go 2 (c1 := (358, [some (.inr (.inr (some (11, 0)))), some (.inr (.inr (some (2, cc_)))), some (.inl a2_), some (.inl g_), some (.inl ip_), some (.inl tb_), some (.inl st_), some (.inl vl_), some (.inl n0_), some (.inl n1_), some (.inl n2_), some (.inl p0_), some (.inl p1_), some (.inl p2_), some (.inl gd_), some (.inl w0_), some (.inl w1_), some (.inl w2_), some (.inl (sm_mn w0_ (sm_mn w1_ w2_)))], [.inl 2, .inl 0, .inl st_], S_)) rfl ?_
            refine sm_T_bin (w := (i_or 0 2)) rfl rfl ?_ -- pc_ 358
            first | have bx12_ := i_orp (x_ := 0) (y_ := 2) (k_ := 1) (by decide) (by omega) (by omega) | have bx12_ := i_orp (x_ := 0) (y_ := 2) (k_ := 3) (by decide) (by omega) (by omega) | have bx12_ := i_orp (x_ := 0) (y_ := 2) (k_ := 4) (by decide) (by omega) (by omega) | have bx12_ := i_orp (x_ := 0) (y_ := 2) (k_ := 6) (by decide) (by omega) (by omega) | have bx12_ := i_orp (x_ := 0) (y_ := 2) (k_ := 8) (by decide) (by omega) (by omega) | have bx12_ := i_orp (x_ := 0) (y_ := 2) (k_ := 12) (by decide) (by omega) (by omega) | have bx12_ := i_orp (x_ := 0) (y_ := 2) (k_ := 16) (by decide) (by omega) (by omega) | have bx12_ := i_orp (x_ := 0) (y_ := 2) (k_ := 22) (by decide) (by omega) (by omega) | have bx12_ := i_orp (x_ := 0) (y_ := 2) (k_ := 31) (by decide) (by omega) (by omega) | have bx12_ := i_or_n 0 2
            refine sm_T_go 2 (c1 := (363, [some (.inr (.inr (some (11, 0)))), some (.inr (.inr (some (2, cc_)))), some (.inl a2_), some (.inl g_), some (.inl ip_), some (.inl tb_), some (.inl st_), some (.inl vl_), some (.inl n0_), some (.inl n1_), some (.inl n2_), some (.inl p0_), some (.inl p1_), some (.inl p2_), some (.inl gd_), some (.inl w0_), some (.inl w1_), some (.inl w2_), some (.inl (sm_mn w0_ (sm_mn w1_ w2_)))], [.inl (sm_mn w0_ (sm_mn w1_ w2_)), .inl w2_, .inl (i_or 0 2), .inl st_], S_)) rfl ?_
            refine sm_T_br (a := 1) (z := 7) rfl (fun cx13_ => ?_) (fun cx13_ => ?_)
            · have cx13_ : w2_ ≠ (sm_mn w0_ (sm_mn w1_ w2_)) := of_decide_eq_true cx13_
              refine sm_T_go 1 (c1 := (371, [some (.inr (.inr (some (11, 0)))), some (.inr (.inr (some (2, cc_)))), some (.inl a2_), some (.inl g_), some (.inl ip_), some (.inl tb_), some (.inl st_), some (.inl vl_), some (.inl n0_), some (.inl n1_), some (.inl n2_), some (.inl p0_), some (.inl p1_), some (.inl p2_), some (.inl gd_), some (.inl w0_), some (.inl w1_), some (.inl w2_), some (.inl (sm_mn w0_ (sm_mn w1_ w2_)))], [.inl 0, .inl (i_or 0 2), .inl st_], S_)) rfl ?_
              refine sm_T_bin (w := (i_or (i_or 0 2) 0)) rfl rfl ?_ -- pc_ 371
              first | have bx14_ := i_orp (x_ := (i_or 0 2)) (y_ := 0) (k_ := 1) (by decide) (by omega) (by omega) | have bx14_ := i_orp (x_ := (i_or 0 2)) (y_ := 0) (k_ := 3) (by decide) (by omega) (by omega) | have bx14_ := i_orp (x_ := (i_or 0 2)) (y_ := 0) (k_ := 4) (by decide) (by omega) (by omega) | have bx14_ := i_orp (x_ := (i_or 0 2)) (y_ := 0) (k_ := 6) (by decide) (by omega) (by omega) | have bx14_ := i_orp (x_ := (i_or 0 2)) (y_ := 0) (k_ := 8) (by decide) (by omega) (by omega) | have bx14_ := i_orp (x_ := (i_or 0 2)) (y_ := 0) (k_ := 12) (by decide) (by omega) (by omega) | have bx14_ := i_orp (x_ := (i_or 0 2)) (y_ := 0) (k_ := 16) (by decide) (by omega) (by omega) | have bx14_ := i_orp (x_ := (i_or 0 2)) (y_ := 0) (k_ := 22) (by decide) (by omega) (by omega) | have bx14_ := i_orp (x_ := (i_or 0 2)) (y_ := 0) (k_ := 31) (by decide) (by omega) (by omega) | have bx14_ := i_or_n (i_or 0 2) 0
              refine sm_T_bin (w := (i_xor st_ (i_or (i_or 0 2) 0))) rfl rfl ?_ -- pc_ 372
              first | have bx15_ := i_xrp (x_ := st_) (y_ := (i_or (i_or 0 2) 0)) (k_ := 1) (by decide) (by omega) (by omega) | have bx15_ := i_xrp (x_ := st_) (y_ := (i_or (i_or 0 2) 0)) (k_ := 3) (by decide) (by omega) (by omega) | have bx15_ := i_xrp (x_ := st_) (y_ := (i_or (i_or 0 2) 0)) (k_ := 4) (by decide) (by omega) (by omega) | have bx15_ := i_xrp (x_ := st_) (y_ := (i_or (i_or 0 2) 0)) (k_ := 6) (by decide) (by omega) (by omega) | have bx15_ := i_xrp (x_ := st_) (y_ := (i_or (i_or 0 2) 0)) (k_ := 8) (by decide) (by omega) (by omega) | have bx15_ := i_xrp (x_ := st_) (y_ := (i_or (i_or 0 2) 0)) (k_ := 11) (by decide) (by omega) (by omega) | have bx15_ := i_xrp (x_ := st_) (y_ := (i_or (i_or 0 2) 0)) (k_ := 12) (by decide) (by omega) (by omega) | have bx15_ := i_xrp (x_ := st_) (y_ := (i_or (i_or 0 2) 0)) (k_ := 16) (by decide) (by omega) (by omega) | have bx15_ := i_xrp (x_ := st_) (y_ := (i_or (i_or 0 2) 0)) (k_ := 22) (by decide) (by omega) (by omega) | have bx15_ := i_xrp (x_ := st_) (y_ := (i_or (i_or 0 2) 0)) (k_ := 31) (by decide) (by omega) (by omega) | have bx15_ := i_xor_n st_ (i_or (i_or 0 2) 0)
              refine sm_T_go 1 (c1 := (375, [some (.inr (.inr (some (11, 0)))), some (.inr (.inr (some (2, cc_)))), some (.inl a2_), some (.inl g_), some (.inl ip_), some (.inl tb_), some (.inl (i_xor st_ (i_or (i_or 0 2) 0))), some (.inl vl_), some (.inl n0_), some (.inl n1_), some (.inl n2_), some (.inl p0_), some (.inl p1_), some (.inl p2_), some (.inl gd_), some (.inl w0_), some (.inl w1_), some (.inl w2_), some (.inl (sm_mn w0_ (sm_mn w1_ w2_)))], [], S_)) rfl ?_
              refine ih_.2.2.2.2.2.2.1 g_ ip_ tb_ (i_xor st_ (i_or (i_or 0 2) 0)) vl_ n0_ n1_ n2_ p0_ p1_ p2_ gd_ w0_ w1_ w2_ (sm_mn w0_ (sm_mn w1_ w2_)) S_ hI_ hF_ ⟨?_, ?_, ?_, ?_, ?_, trivial⟩ ?_
              · omega
              · omega
              · omega
              · omega
              · omega
              · omega
            · have cx13_ : ¬ (w2_ ≠ (sm_mn w0_ (sm_mn w1_ w2_))) := of_decide_eq_false cx13_
              refine sm_T_go 2 (c1 := (371, [some (.inr (.inr (some (11, 0)))), some (.inr (.inr (some (2, cc_)))), some (.inl a2_), some (.inl g_), some (.inl ip_), some (.inl tb_), some (.inl st_), some (.inl vl_), some (.inl n0_), some (.inl n1_), some (.inl n2_), some (.inl p0_), some (.inl p1_), some (.inl p2_), some (.inl gd_), some (.inl w0_), some (.inl w1_), some (.inl w2_), some (.inl (sm_mn w0_ (sm_mn w1_ w2_)))], [.inl 4, .inl (i_or 0 2), .inl st_], S_)) rfl ?_
              refine sm_T_bin (w := (i_or (i_or 0 2) 4)) rfl rfl ?_ -- pc_ 371
              first | have bx16_ := i_orp (x_ := (i_or 0 2)) (y_ := 4) (k_ := 1) (by decide) (by omega) (by omega) | have bx16_ := i_orp (x_ := (i_or 0 2)) (y_ := 4) (k_ := 3) (by decide) (by omega) (by omega) | have bx16_ := i_orp (x_ := (i_or 0 2)) (y_ := 4) (k_ := 4) (by decide) (by omega) (by omega) | have bx16_ := i_orp (x_ := (i_or 0 2)) (y_ := 4) (k_ := 6) (by decide) (by omega) (by omega) | have bx16_ := i_orp (x_ := (i_or 0 2)) (y_ := 4) (k_ := 8) (by decide) (by omega) (by omega) | have bx16_ := i_orp (x_ := (i_or 0 2)) (y_ := 4) (k_ := 12) (by decide) (by omega) (by omega) | have bx16_ := i_orp (x_ := (i_or 0 2)) (y_ := 4) (k_ := 16) (by decide) (by omega) (by omega) | have bx16_ := i_orp (x_ := (i_or 0 2)) (y_ := 4) (k_ := 22) (by decide) (by omega) (by omega) | have bx16_ := i_orp (x_ := (i_or 0 2)) (y_ := 4) (k_ := 31) (by decide) (by omega) (by omega) | have bx16_ := i_or_n (i_or 0 2) 4
              refine sm_T_bin (w := (i_xor st_ (i_or (i_or 0 2) 4))) rfl rfl ?_ -- pc_ 372
              first | have bx17_ := i_xrp (x_ := st_) (y_ := (i_or (i_or 0 2) 4)) (k_ := 1) (by decide) (by omega) (by omega) | have bx17_ := i_xrp (x_ := st_) (y_ := (i_or (i_or 0 2) 4)) (k_ := 3) (by decide) (by omega) (by omega) | have bx17_ := i_xrp (x_ := st_) (y_ := (i_or (i_or 0 2) 4)) (k_ := 4) (by decide) (by omega) (by omega) | have bx17_ := i_xrp (x_ := st_) (y_ := (i_or (i_or 0 2) 4)) (k_ := 6) (by decide) (by omega) (by omega) | have bx17_ := i_xrp (x_ := st_) (y_ := (i_or (i_or 0 2) 4)) (k_ := 8) (by decide) (by omega) (by omega) | have bx17_ := i_xrp (x_ := st_) (y_ := (i_or (i_or 0 2) 4)) (k_ := 11) (by decide) (by omega) (by omega) | have bx17_ := i_xrp (x_ := st_) (y_ := (i_or (i_or 0 2) 4)) (k_ := 12) (by decide) (by omega) (by omega) | have bx17_ := i_xrp (x_ := st_) (y_ := (i_or (i_or 0 2) 4)) (k_ := 16) (by decide) (by omega) (by omega) | have bx17_ := i_xrp (x_ := st_) (y_ := (i_or (i_or 0 2) 4)) (k_ := 22) (by decide) (by omega) (by omega) | have bx17_ := i_xrp (x_ := st_) (y_ := (i_or (i_or 0 2) 4)) (k_ := 31) (by decide) (by omega) (by omega) | have bx17_ := i_xor_n st_ (i_or (i_or 0 2) 4)
              refine sm_T_go 1 (c1 := (375, [some (.inr (.inr (some (11, 0)))), some (.inr (.inr (some (2, cc_)))), some (.inl a2_), some (.inl g_), some (.inl ip_), some (.inl tb_), some (.inl (i_xor st_ (i_or (i_or 0 2) 4))), some (.inl vl_), some (.inl n0_), some (.inl n1_), some (.inl n2_), some (.inl p0_), some (.inl p1_), some (.inl p2_), some (.inl gd_), some (.inl w0_), some (.inl w1_), some (.inl w2_), some (.inl (sm_mn w0_ (sm_mn w1_ w2_)))], [], S_)) rfl ?_
              refine ih_.2.2.2.2.2.2.1 g_ ip_ tb_ (i_xor st_ (i_or (i_or 0 2) 4)) vl_ n0_ n1_ n2_ p0_ p1_ p2_ gd_ w0_ w1_ w2_ (sm_mn w0_ (sm_mn w1_ w2_)) S_ hI_ hF_ ⟨?_, ?_, ?_, ?_, ?_, trivial⟩ ?_
              · omega
              · omega
              · omega
              · omega
              · omega
              · omega
        · have cx4_ : ¬ (w0_ ≠ (sm_mn w0_ (sm_mn w1_ w2_))) := of_decide_eq_false cx4_
          refine sm_T_go 4 (c1 := (350, [some (.inr (.inr (some (11, 0)))), some (.inr (.inr (some (2, cc_)))), some (.inl a2_), some (.inl g_), some (.inl ip_), some (.inl tb_), some (.inl st_), some (.inl vl_), some (.inl n0_), some (.inl n1_), some (.inl n2_), some (.inl p0_), some (.inl p1_), some (.inl p2_), some (.inl gd_), some (.inl w0_), some (.inl w1_), some (.inl w2_), some (.inl (sm_mn w0_ (sm_mn w1_ w2_)))], [.inl (sm_mn w0_ (sm_mn w1_ w2_)), .inl w1_, .inl 1, .inl st_], S_)) rfl ?_
          refine sm_T_br (a := 1) (z := 7) rfl (fun cx18_ => ?_) (fun cx18_ => ?_)
          · have cx18_ : w1_ ≠ (sm_mn w0_ (sm_mn w1_ w2_)) := of_decide_eq_true cx18_
            refine sm_T_go 1 (c1 := (358, [some (.inr (.inr (some (11, 0)))), some (.inr (.inr (some (2, cc_)))), some (.inl a2_), some (.inl g_), some (.inl ip_), some (.inl tb_), some (.inl st_), some (.inl vl_), some (.inl n0_), some (.inl n1_), some (.inl n2_), some (.inl p0_), some (.inl p1_), some (.inl p2_), some (.inl gd_), some (.inl w0_), some (.inl w1_), some (.inl w2_), some (.inl (sm_mn w0_ (sm_mn w1_ w2_)))], [.inl 0, .inl 1, .inl st_], S_)) rfl ?_
            refine sm_T_bin (w := (i_or 1 0)) rfl rfl ?_ -- pc_ 358
            first | have bx19_ := i_orp (x_ := 1) (y_ := 0) (k_ := 1) (by decide) (by omega) (by omega) | have bx19_ := i_orp (x_ := 1) (y_ := 0) (k_ := 3) (by decide) (by omega) (by omega) | have bx19_ := i_orp (x_ := 1) (y_ := 0) (k_ := 4) (by decide) (by omega) (by omega) | have bx19_ := i_orp (x_ := 1) (y_ := 0) (k_ := 6) (by decide) (by omega) (by omega) | have bx19_ := i_orp (x_ := 1) (y_ := 0) (k_ := 8) (by decide) (by omega) (by omega) | have bx19_ := i_orp (x_ := 1) (y_ := 0) (k_ := 12) (by decide) (by omega) (by omega) | have bx19_ := i_orp (x_ := 1) (y_ := 0) (k_ := 16) (by decide) (by omega) (by omega) | have bx19_ := i_orp (x_ := 1) (y_ := 0) (k_ := 22) (by decide) (by omega) (by omega) | have bx19_ := i_orp (x_ := 1) (y_ := 0) (k_ := 31) (by decide) (by omega) (by omega) | have bx19_ := i_or_n 1 0
            refine sm_T_go 2 (c1 := (363, [some (.inr (.inr (some (11, 0)))), some (.inr (.inr (some (2, cc_)))), some (.inl a2_), some (.inl g_), some (.inl ip_), some (.inl tb_), some (.inl st_), some (.inl vl_), some (.inl n0_), some (.inl n1_), some (.inl n2_), some (.inl p0_), some (.inl p1_), some (.inl p2_), some (.inl gd_), some (.inl w0_), some (.inl w1_), some (.inl w2_), some (.inl (sm_mn w0_ (sm_mn w1_ w2_)))], [.inl (sm_mn w0_ (sm_mn w1_ w2_)), .inl w2_, .inl (i_or 1 0), .inl st_], S_)) rfl ?_
            refine sm_T_br (a := 1) (z := 7) rfl (fun cx20_ => ?_) (fun cx20_ => ?_)
            · have cx20_ : w2_ ≠ (sm_mn w0_ (sm_mn w1_ w2_)) := of_decide_eq_true cx20_
              refine sm_T_go 1 (c1 := (371, [some (.inr (.inr (some (11, 0)))), some (.inr (.inr (some (2, cc_)))), some (.inl a2_), some (.inl g_), some (.inl ip_), some (.inl tb_), some (.inl st_), some (.inl vl_), some (.inl n0_), some (.inl n1_), some (.inl n2_), some (.inl p0_), some (.inl p1_), some (.inl p2_), some (.inl gd_), some (.inl w0_), some (.inl w1_), some (.inl w2_), some (.inl (sm_mn w0_ (sm_mn w1_ w2_)))], [.inl 0, .inl (i_or 1 0), .inl st_], S_)) rfl ?_
              refine sm_T_bin (w := (i_or (i_or 1 0) 0)) rfl rfl ?_ -- pc_ 371
              first | have bx21_ := i_orp (x_ := (i_or 1 0)) (y_ := 0) (k_ := 1) (by decide) (by omega) (by omega) | have bx21_ := i_orp (x_ := (i_or 1 0)) (y_ := 0) (k_ := 3) (by decide) (by omega) (by omega) | have bx21_ := i_orp (x_ := (i_or 1 0)) (y_ := 0) (k_ := 4) (by decide) (by omega) (by omega) | have bx21_ := i_orp (x_ := (i_or 1 0)) (y_ := 0) (k_ := 6) (by decide) (by omega) (by omega) | have bx21_ := i_orp (x_ := (i_or 1 0)) (y_ := 0) (k_ := 8) (by decide) (by omega) (by omega) | have bx21_ := i_orp (x_ := (i_or 1 0)) (y_ := 0) (k_ := 12) (by decide) (by omega) (by omega) | have bx21_ := i_orp (x_ := (i_or 1 0)) (y_ := 0) (k_ := 16) (by decide) (by omega) (by omega) | have bx21_ := i_orp (x_ := (i_or 1 0)) (y_ := 0) (k_ := 22) (by decide) (by omega) (by omega) | have bx21_ := i_orp (x_ := (i_or 1 0)) (y_ := 0) (k_ := 31) (by decide) (by omega) (by omega) | have bx21_ := i_or_n (i_or 1 0) 0
              refine sm_T_bin (w := (i_xor st_ (i_or (i_or 1 0) 0))) rfl rfl ?_ -- pc_ 372
              first | have bx22_ := i_xrp (x_ := st_) (y_ := (i_or (i_or 1 0) 0)) (k_ := 1) (by decide) (by omega) (by omega) | have bx22_ := i_xrp (x_ := st_) (y_ := (i_or (i_or 1 0) 0)) (k_ := 3) (by decide) (by omega) (by omega) | have bx22_ := i_xrp (x_ := st_) (y_ := (i_or (i_or 1 0) 0)) (k_ := 4) (by decide) (by omega) (by omega) | have bx22_ := i_xrp (x_ := st_) (y_ := (i_or (i_or 1 0) 0)) (k_ := 6) (by decide) (by omega) (by omega) | have bx22_ := i_xrp (x_ := st_) (y_ := (i_or (i_or 1 0) 0)) (k_ := 8) (by decide) (by omega) (by omega) | have bx22_ := i_xrp (x_ := st_) (y_ := (i_or (i_or 1 0) 0)) (k_ := 11) (by decide) (by omega) (by omega) | have bx22_ := i_xrp (x_ := st_) (y_ := (i_or (i_or 1 0) 0)) (k_ := 12) (by decide) (by omega) (by omega) | have bx22_ := i_xrp (x_ := st_) (y_ := (i_or (i_or 1 0) 0)) (k_ := 16) (by decide) (by omega) (by omega) | have bx22_ := i_xrp (x_ := st_) (y_ := (i_or (i_or 1 0) 0)) (k_ := 22) (by decide) (by omega) (by omega) | have bx22_ := i_xrp (x_ := st_) (y_ := (i_or (i_or 1 0) 0)) (k_ := 31) (by decide) (by omega) (by omega) | have bx22_ := i_xor_n st_ (i_or (i_or 1 0) 0)
              refine sm_T_go 1 (c1 := (375, [some (.inr (.inr (some (11, 0)))), some (.inr (.inr (some (2, cc_)))), some (.inl a2_), some (.inl g_), some (.inl ip_), some (.inl tb_), some (.inl (i_xor st_ (i_or (i_or 1 0) 0))), some (.inl vl_), some (.inl n0_), some (.inl n1_), some (.inl n2_), some (.inl p0_), some (.inl p1_), some (.inl p2_), some (.inl gd_), some (.inl w0_), some (.inl w1_), some (.inl w2_), some (.inl (sm_mn w0_ (sm_mn w1_ w2_)))], [], S_)) rfl ?_
              refine ih_.2.2.2.2.2.2.1 g_ ip_ tb_ (i_xor st_ (i_or (i_or 1 0) 0)) vl_ n0_ n1_ n2_ p0_ p1_ p2_ gd_ w0_ w1_ w2_ (sm_mn w0_ (sm_mn w1_ w2_)) S_ hI_ hF_ ⟨?_, ?_, ?_, ?_, ?_, trivial⟩ ?_
              · omega
              · omega
              · omega
              · omega
              · omega
              · omega
            · have cx20_ : ¬ (w2_ ≠ (sm_mn w0_ (sm_mn w1_ w2_))) := of_decide_eq_false cx20_
              refine sm_T_go 2 (c1 := (371, [some (.inr (.inr (some (11, 0)))), some (.inr (.inr (some (2, cc_)))), some (.inl a2_), some (.inl g_), some (.inl ip_), some (.inl tb_), some (.inl st_), some (.inl vl_), some (.inl n0_), some (.inl n1_), some (.inl n2_), some (.inl p0_), some (.inl p1_), some (.inl p2_), some (.inl gd_), some (.inl w0_), some (.inl w1_), some (.inl w2_), some (.inl (sm_mn w0_ (sm_mn w1_ w2_)))], [.inl 4, .inl (i_or 1 0), .inl st_], S_)) rfl ?_
              refine sm_T_bin (w := (i_or (i_or 1 0) 4)) rfl rfl ?_ -- pc_ 371
              first | have bx23_ := i_orp (x_ := (i_or 1 0)) (y_ := 4) (k_ := 1) (by decide) (by omega) (by omega) | have bx23_ := i_orp (x_ := (i_or 1 0)) (y_ := 4) (k_ := 3) (by decide) (by omega) (by omega) | have bx23_ := i_orp (x_ := (i_or 1 0)) (y_ := 4) (k_ := 4) (by decide) (by omega) (by omega) | have bx23_ := i_orp (x_ := (i_or 1 0)) (y_ := 4) (k_ := 6) (by decide) (by omega) (by omega) | have bx23_ := i_orp (x_ := (i_or 1 0)) (y_ := 4) (k_ := 8) (by decide) (by omega) (by omega) | have bx23_ := i_orp (x_ := (i_or 1 0)) (y_ := 4) (k_ := 12) (by decide) (by omega) (by omega) | have bx23_ := i_orp (x_ := (i_or 1 0)) (y_ := 4) (k_ := 16) (by decide) (by omega) (by omega) | have bx23_ := i_orp (x_ := (i_or 1 0)) (y_ := 4) (k_ := 22) (by decide) (by omega) (by omega) | have bx23_ := i_orp (x_ := (i_or 1 0)) (y_ := 4) (k_ := 31) (by decide) (by omega) (by omega) | have bx23_ := i_or_n (i_or 1 0) 4
              refine sm_T_bin (w := (i_xor st_ (i_or (i_or 1 0) 4))) rfl rfl ?_ -- pc_ 372
              first | have bx24_ := i_xrp (x_ := st_) (y_ := (i_or (i_or 1 0) 4)) (k_ := 1) (by decide) (by omega) (by omega) | have bx24_ := i_xrp (x_ := st_) (y_ := (i_or (i_or 1 0) 4)) (k_ := 3) (by decide) (by omega) (by omega) | have bx24_ := i_xrp (x_ := st_) (y_ := (i_or (i_or 1 0) 4)) (k_ := 4) (by decide) (by omega) (by omega) | have bx24_ := i_xrp (x_ := st_) (y_ := (i_or (i_or 1 0) 4)) (k_ := 6) (by decide) (by omega) (by omega) | have bx24_ := i_xrp (x_ := st_) (y_ := (i_or (i_or 1 0) 4)) (k_ := 8) (by decide) (by omega) (by omega) | have bx24_ := i_xrp (x_ := st_) (y_ := (i_or (i_or 1 0) 4)) (k_ := 11) (by decide) (by omega) (by omega) | have bx24_ := i_xrp (x_ := st_) (y_ := (i_or (i_or 1 0) 4)) (k_ := 12) (by decide) (by omega) (by omega) | have bx24_ := i_xrp (x_ := st_) (y_ := (i_or (i_or 1 0) 4)) (k_ := 16) (by decide) (by omega) (by omega) | have bx24_ := i_xrp (x_ := st_) (y_ := (i_or (i_or 1 0) 4)) (k_ := 22) (by decide) (by omega) (by omega) | have bx24_ := i_xrp (x_ := st_) (y_ := (i_or (i_or 1 0) 4)) (k_ := 31) (by decide) (by omega) (by omega) | have bx24_ := i_xor_n st_ (i_or (i_or 1 0) 4)
              refine sm_T_go 1 (c1 := (375, [some (.inr (.inr (some (11, 0)))), some (.inr (.inr (some (2, cc_)))), some (.inl a2_), some (.inl g_), some (.inl ip_), some (.inl tb_), some (.inl (i_xor st_ (i_or (i_or 1 0) 4))), some (.inl vl_), some (.inl n0_), some (.inl n1_), some (.inl n2_), some (.inl p0_), some (.inl p1_), some (.inl p2_), some (.inl gd_), some (.inl w0_), some (.inl w1_), some (.inl w2_), some (.inl (sm_mn w0_ (sm_mn w1_ w2_)))], [], S_)) rfl ?_
              refine ih_.2.2.2.2.2.2.1 g_ ip_ tb_ (i_xor st_ (i_or (i_or 1 0) 4)) vl_ n0_ n1_ n2_ p0_ p1_ p2_ gd_ w0_ w1_ w2_ (sm_mn w0_ (sm_mn w1_ w2_)) S_ hI_ hF_ ⟨?_, ?_, ?_, ?_, ?_, trivial⟩ ?_
              · omega
              · omega
              · omega
              · omega
              · omega
              · omega
          · have cx18_ : ¬ (w1_ ≠ (sm_mn w0_ (sm_mn w1_ w2_))) := of_decide_eq_false cx18_
            refine sm_T_go 2 (c1 := (358, [some (.inr (.inr (some (11, 0)))), some (.inr (.inr (some (2, cc_)))), some (.inl a2_), some (.inl g_), some (.inl ip_), some (.inl tb_), some (.inl st_), some (.inl vl_), some (.inl n0_), some (.inl n1_), some (.inl n2_), some (.inl p0_), some (.inl p1_), some (.inl p2_), some (.inl gd_), some (.inl w0_), some (.inl w1_), some (.inl w2_), some (.inl (sm_mn w0_ (sm_mn w1_ w2_)))], [.inl 2, .inl 1, .inl st_], S_)) rfl ?_
            refine sm_T_bin (w := (i_or 1 2)) rfl rfl ?_ -- pc_ 358
            first | have bx25_ := i_orp (x_ := 1) (y_ := 2) (k_ := 1) (by decide) (by omega) (by omega) | have bx25_ := i_orp (x_ := 1) (y_ := 2) (k_ := 3) (by decide) (by omega) (by omega) | have bx25_ := i_orp (x_ := 1) (y_ := 2) (k_ := 4) (by decide) (by omega) (by omega) | have bx25_ := i_orp (x_ := 1) (y_ := 2) (k_ := 6) (by decide) (by omega) (by omega) | have bx25_ := i_orp (x_ := 1) (y_ := 2) (k_ := 8) (by decide) (by omega) (by omega) | have bx25_ := i_orp (x_ := 1) (y_ := 2) (k_ := 12) (by decide) (by omega) (by omega) | have bx25_ := i_orp (x_ := 1) (y_ := 2) (k_ := 16) (by decide) (by omega) (by omega) | have bx25_ := i_orp (x_ := 1) (y_ := 2) (k_ := 22) (by decide) (by omega) (by omega) | have bx25_ := i_orp (x_ := 1) (y_ := 2) (k_ := 31) (by decide) (by omega) (by omega) | have bx25_ := i_or_n 1 2
            refine sm_T_go 2 (c1 := (363, [some (.inr (.inr (some (11, 0)))), some (.inr (.inr (some (2, cc_)))), some (.inl a2_), some (.inl g_), some (.inl ip_), some (.inl tb_), some (.inl st_), some (.inl vl_), some (.inl n0_), some (.inl n1_), some (.inl n2_), some (.inl p0_), some (.inl p1_), some (.inl p2_), some (.inl gd_), some (.inl w0_), some (.inl w1_), some (.inl w2_), some (.inl (sm_mn w0_ (sm_mn w1_ w2_)))], [.inl (sm_mn w0_ (sm_mn w1_ w2_)), .inl w2_, .inl (i_or 1 2), .inl st_], S_)) rfl ?_
            refine sm_T_br (a := 1) (z := 7) rfl (fun cx26_ => ?_) (fun cx26_ => ?_)
            · have cx26_ : w2_ ≠ (sm_mn w0_ (sm_mn w1_ w2_)) := of_decide_eq_true cx26_
              refine sm_T_go 1 (c1 := (371, [some (.inr (.inr (some (11, 0)))), some (.inr (.inr (some (2, cc_)))), some (.inl a2_), some (.inl g_), some (.inl ip_), some (.inl tb_), some (.inl st_), some (.inl vl_), some (.inl n0_), some (.inl n1_), some (.inl n2_), some (.inl p0_), some (.inl p1_), some (.inl p2_), some (.inl gd_), some (.inl w0_), some (.inl w1_), some (.inl w2_), some (.inl (sm_mn w0_ (sm_mn w1_ w2_)))], [.inl 0, .inl (i_or 1 2), .inl st_], S_)) rfl ?_
              refine sm_T_bin (w := (i_or (i_or 1 2) 0)) rfl rfl ?_ -- pc_ 371
              first | have bx27_ := i_orp (x_ := (i_or 1 2)) (y_ := 0) (k_ := 1) (by decide) (by omega) (by omega) | have bx27_ := i_orp (x_ := (i_or 1 2)) (y_ := 0) (k_ := 3) (by decide) (by omega) (by omega) | have bx27_ := i_orp (x_ := (i_or 1 2)) (y_ := 0) (k_ := 4) (by decide) (by omega) (by omega) | have bx27_ := i_orp (x_ := (i_or 1 2)) (y_ := 0) (k_ := 6) (by decide) (by omega) (by omega) | have bx27_ := i_orp (x_ := (i_or 1 2)) (y_ := 0) (k_ := 8) (by decide) (by omega) (by omega) | have bx27_ := i_orp (x_ := (i_or 1 2)) (y_ := 0) (k_ := 12) (by decide) (by omega) (by omega) | have bx27_ := i_orp (x_ := (i_or 1 2)) (y_ := 0) (k_ := 16) (by decide) (by omega) (by omega) | have bx27_ := i_orp (x_ := (i_or 1 2)) (y_ := 0) (k_ := 22) (by decide) (by omega) (by omega) | have bx27_ := i_orp (x_ := (i_or 1 2)) (y_ := 0) (k_ := 31) (by decide) (by omega) (by omega) | have bx27_ := i_or_n (i_or 1 2) 0
              refine sm_T_bin (w := (i_xor st_ (i_or (i_or 1 2) 0))) rfl rfl ?_ -- pc_ 372
              first | have bx28_ := i_xrp (x_ := st_) (y_ := (i_or (i_or 1 2) 0)) (k_ := 1) (by decide) (by omega) (by omega) | have bx28_ := i_xrp (x_ := st_) (y_ := (i_or (i_or 1 2) 0)) (k_ := 3) (by decide) (by omega) (by omega) | have bx28_ := i_xrp (x_ := st_) (y_ := (i_or (i_or 1 2) 0)) (k_ := 4) (by decide) (by omega) (by omega) | have bx28_ := i_xrp (x_ := st_) (y_ := (i_or (i_or 1 2) 0)) (k_ := 6) (by decide) (by omega) (by omega) | have bx28_ := i_xrp (x_ := st_) (y_ := (i_or (i_or 1 2) 0)) (k_ := 8) (by decide) (by omega) (by omega) | have bx28_ := i_xrp (x_ := st_) (y_ := (i_or (i_or 1 2) 0)) (k_ := 11) (by decide) (by omega) (by omega) | have bx28_ := i_xrp (x_ := st_) (y_ := (i_or (i_or 1 2) 0)) (k_ := 12) (by decide) (by omega) (by omega) | have bx28_ := i_xrp (x_ := st_) (y_ := (i_or (i_or 1 2) 0)) (k_ := 16) (by decide) (by omega) (by omega) | have bx28_ := i_xrp (x_ := st_) (y_ := (i_or (i_or 1 2) 0)) (k_ := 22) (by decide) (by omega) (by omega) | have bx28_ := i_xrp (x_ := st_) (y_ := (i_or (i_or 1 2) 0)) (k_ := 31) (by decide) (by omega) (by omega) | have bx28_ := i_xor_n st_ (i_or (i_or 1 2) 0)
              refine sm_T_go 1 (c1 := (375, [some (.inr (.inr (some (11, 0)))), some (.inr (.inr (some (2, cc_)))), some (.inl a2_), some (.inl g_), some (.inl ip_), some (.inl tb_), some (.inl (i_xor st_ (i_or (i_or 1 2) 0))), some (.inl vl_), some (.inl n0_), some (.inl n1_), some (.inl n2_), some (.inl p0_), some (.inl p1_), some (.inl p2_), some (.inl gd_), some (.inl w0_), some (.inl w1_), some (.inl w2_), some (.inl (sm_mn w0_ (sm_mn w1_ w2_)))], [], S_)) rfl ?_
              refine ih_.2.2.2.2.2.2.1 g_ ip_ tb_ (i_xor st_ (i_or (i_or 1 2) 0)) vl_ n0_ n1_ n2_ p0_ p1_ p2_ gd_ w0_ w1_ w2_ (sm_mn w0_ (sm_mn w1_ w2_)) S_ hI_ hF_ ⟨?_, ?_, ?_, ?_, ?_, trivial⟩ ?_
              · omega
              · omega
              · omega
              · omega
              · omega
              · omega
            · have cx26_ : ¬ (w2_ ≠ (sm_mn w0_ (sm_mn w1_ w2_))) := of_decide_eq_false cx26_
              refine sm_T_go 2 (c1 := (371, [some (.inr (.inr (some (11, 0)))), some (.inr (.inr (some (2, cc_)))), some (.inl a2_), some (.inl g_), some (.inl ip_), some (.inl tb_), some (.inl st_), some (.inl vl_), some (.inl n0_), some (.inl n1_), some (.inl n2_), some (.inl p0_), some (.inl p1_), some (.inl p2_), some (.inl gd_), some (.inl w0_), some (.inl w1_), some (.inl w2_), some (.inl (sm_mn w0_ (sm_mn w1_ w2_)))], [.inl 4, .inl (i_or 1 2), .inl st_], S_)) rfl ?_
              refine sm_T_bin (w := (i_or (i_or 1 2) 4)) rfl rfl ?_ -- pc_ 371
              first | have bx29_ := i_orp (x_ := (i_or 1 2)) (y_ := 4) (k_ := 1) (by decide) (by omega) (by omega) | have bx29_ := i_orp (x_ := (i_or 1 2)) (y_ := 4) (k_ := 3) (by decide) (by omega) (by omega) | have bx29_ := i_orp (x_ := (i_or 1 2)) (y_ := 4) (k_ := 4) (by decide) (by omega) (by omega) | have bx29_ := i_orp (x_ := (i_or 1 2)) (y_ := 4) (k_ := 6) (by decide) (by omega) (by omega) | have bx29_ := i_orp (x_ := (i_or 1 2)) (y_ := 4) (k_ := 8) (by decide) (by omega) (by omega) | have bx29_ := i_orp (x_ := (i_or 1 2)) (y_ := 4) (k_ := 12) (by decide) (by omega) (by omega) | have bx29_ := i_orp (x_ := (i_or 1 2)) (y_ := 4) (k_ := 16) (by decide) (by omega) (by omega) | have bx29_ := i_orp (x_ := (i_or 1 2)) (y_ := 4) (k_ := 22) (by decide) (by omega) (by omega) | have bx29_ := i_orp (x_ := (i_or 1 2)) (y_ := 4) (k_ := 31) (by decide) (by omega) (by omega) | have bx29_ := i_or_n (i_or 1 2) 4
              refine sm_T_bin (w := (i_xor st_ (i_or (i_or 1 2) 4))) rfl rfl ?_ -- pc_ 372
              first | have bx30_ := i_xrp (x_ := st_) (y_ := (i_or (i_or 1 2) 4)) (k_ := 1) (by decide) (by omega) (by omega) | have bx30_ := i_xrp (x_ := st_) (y_ := (i_or (i_or 1 2) 4)) (k_ := 3) (by decide) (by omega) (by omega) | have bx30_ := i_xrp (x_ := st_) (y_ := (i_or (i_or 1 2) 4)) (k_ := 4) (by decide) (by omega) (by omega) | have bx30_ := i_xrp (x_ := st_) (y_ := (i_or (i_or 1 2) 4)) (k_ := 6) (by decide) (by omega) (by omega) | have bx30_ := i_xrp (x_ := st_) (y_ := (i_or (i_or 1 2) 4)) (k_ := 8) (by decide) (by omega) (by omega) | have bx30_ := i_xrp (x_ := st_) (y_ := (i_or (i_or 1 2) 4)) (k_ := 11) (by decide) (by omega) (by omega) | have bx30_ := i_xrp (x_ := st_) (y_ := (i_or (i_or 1 2) 4)) (k_ := 12) (by decide) (by omega) (by omega) | have bx30_ := i_xrp (x_ := st_) (y_ := (i_or (i_or 1 2) 4)) (k_ := 16) (by decide) (by omega) (by omega) | have bx30_ := i_xrp (x_ := st_) (y_ := (i_or (i_or 1 2) 4)) (k_ := 22) (by decide) (by omega) (by omega) | have bx30_ := i_xrp (x_ := st_) (y_ := (i_or (i_or 1 2) 4)) (k_ := 31) (by decide) (by omega) (by omega) | have bx30_ := i_xor_n st_ (i_or (i_or 1 2) 4)
              refine sm_T_go 1 (c1 := (375, [some (.inr (.inr (some (11, 0)))), some (.inr (.inr (some (2, cc_)))), some (.inl a2_), some (.inl g_), some (.inl ip_), some (.inl tb_), some (.inl (i_xor st_ (i_or (i_or 1 2) 4))), some (.inl vl_), some (.inl n0_), some (.inl n1_), some (.inl n2_), some (.inl p0_), some (.inl p1_), some (.inl p2_), some (.inl gd_), some (.inl w0_), some (.inl w1_), some (.inl w2_), some (.inl (sm_mn w0_ (sm_mn w1_ w2_)))], [], S_)) rfl ?_
              refine ih_.2.2.2.2.2.2.1 g_ ip_ tb_ (i_xor st_ (i_or (i_or 1 2) 4)) vl_ n0_ n1_ n2_ p0_ p1_ p2_ gd_ w0_ w1_ w2_ (sm_mn w0_ (sm_mn w1_ w2_)) S_ hI_ hF_ ⟨?_, ?_, ?_, ?_, ?_, trivial⟩ ?_
              · omega
              · omega
              · omega
              · omega
              · omega
              · omega
      · have cx3_ : ¬ ((sm_mn w0_ (sm_mn w1_ w2_)) ≠ 2147483647) := of_decide_eq_false cx3_
        refine sm_T_rv rfl ⟨_, _, rfl, rfl, hI_, hF_, ?_⟩
        trivial
    · rintro g_ ip_ tb_ st_ vl_ n0_ n1_ n2_ p0_ p1_ p2_ gd_ w0_ w1_ w2_ wn_ S_ hI_ hF_ ⟨h0_, hw0_, hw1_, hw2_, hwn_, -⟩ hm_
      refine sm_T_go 3 (c1 := (381, [some (.inr (.inr (some (11, 0)))), some (.inr (.inr (some (2, cc_)))), some (.inl a2_), some (.inl g_), some (.inl ip_), some (.inl tb_), some (.inl st_), some (.inl vl_), some (.inl n0_), some (.inl n1_), some (.inl n2_), some (.inl p0_), some (.inl p1_), some (.inl p2_), some (.inl gd_), some (.inl w0_), some (.inl w1_), some (.inl w2_), some (.inl wn_)], [.inl wn_, .inl w0_, .inl p0_], S_)) rfl ?_
      refine sm_T_br (a := 1) (z := 7) rfl (fun cx1_ => ?_) (fun cx1_ => ?_)
      · have cx1_ : w0_ ≠ wn_ := of_decide_eq_true cx1_
        refine sm_T_go 1 (c1 := (389, [some (.inr (.inr (some (11, 0)))), some (.inr (.inr (some (2, cc_)))), some (.inl a2_), some (.inl g_), some (.inl ip_), some (.inl tb_), some (.inl st_), some (.inl vl_), some (.inl n0_), some (.inl n1_), some (.inl n2_), some (.inl p0_), some (.inl p1_), some (.inl p2_), some (.inl gd_), some (.inl w0_), some (.inl w1_), some (.inl w2_), some (.inl wn_)], [.inl 0, .inl p0_], S_)) rfl ?_
        refine sm_T_bin (w := p0_) rfl (bi_add (by omega) (by omega) (by omega)) ?_ -- pc_ 389
        refine sm_T_go 1 (c1 := (392, [some (.inr (.inr (some (11, 0)))), some (.inr (.inr (some (2, cc_)))), some (.inl a2_), some (.inl g_), some (.inl ip_), some (.inl tb_), some (.inl st_), some (.inl vl_), some (.inl n0_), some (.inl n1_), some (.inl n2_), some (.inl p0_), some (.inl p1_), some (.inl p2_), some (.inl gd_), some (.inl w0_), some (.inl w1_), some (.inl w2_), some (.inl wn_)], [], S_)) rfl ?_
        refine ih_.2.2.2.2.2.2.2.1 g_ ip_ tb_ st_ vl_ n0_ n1_ n2_ p0_ p1_ p2_ gd_ w0_ w1_ w2_ wn_ S_ hI_ hF_ ⟨?_, ?_, ?_, ?_, trivial⟩ ?_
        · omega
        · omega
        · omega
        · omega
        · omega
      · have cx1_ : ¬ (w0_ ≠ wn_) := of_decide_eq_false cx1_
        refine sm_T_go 2 (c1 := (389, [some (.inr (.inr (some (11, 0)))), some (.inr (.inr (some (2, cc_)))), some (.inl a2_), some (.inl g_), some (.inl ip_), some (.inl tb_), some (.inl st_), some (.inl vl_), some (.inl n0_), some (.inl n1_), some (.inl n2_), some (.inl p0_), some (.inl p1_), some (.inl p2_), some (.inl gd_), some (.inl w0_), some (.inl w1_), some (.inl w2_), some (.inl wn_)], [.inl 1, .inl p0_], S_)) rfl ?_
        refine sm_T_bin (w := p0_ + 1) rfl (bi_add (by omega) (by omega) (by omega)) ?_ -- pc_ 389
        refine sm_T_go 1 (c1 := (392, [some (.inr (.inr (some (11, 0)))), some (.inr (.inr (some (2, cc_)))), some (.inl a2_), some (.inl g_), some (.inl ip_), some (.inl tb_), some (.inl st_), some (.inl vl_), some (.inl n0_), some (.inl n1_), some (.inl n2_), some (.inl (p0_ + 1)), some (.inl p1_), some (.inl p2_), some (.inl gd_), some (.inl w0_), some (.inl w1_), some (.inl w2_), some (.inl wn_)], [], S_)) rfl ?_
        refine ih_.2.2.2.2.2.2.2.1 g_ ip_ tb_ st_ vl_ n0_ n1_ n2_ (p0_ + 1) p1_ p2_ gd_ w0_ w1_ w2_ wn_ S_ hI_ hF_ ⟨?_, ?_, ?_, ?_, trivial⟩ ?_
        · omega
        · omega
        · omega
        · omega
        · omega
    · rintro g_ ip_ tb_ st_ vl_ n0_ n1_ n2_ p0_ p1_ p2_ gd_ w0_ w1_ w2_ wn_ S_ hI_ hF_ ⟨h0_, hw1_, hw2_, hwn_, -⟩ hm_
      refine sm_T_go 3 (c1 := (398, [some (.inr (.inr (some (11, 0)))), some (.inr (.inr (some (2, cc_)))), some (.inl a2_), some (.inl g_), some (.inl ip_), some (.inl tb_), some (.inl st_), some (.inl vl_), some (.inl n0_), some (.inl n1_), some (.inl n2_), some (.inl p0_), some (.inl p1_), some (.inl p2_), some (.inl gd_), some (.inl w0_), some (.inl w1_), some (.inl w2_), some (.inl wn_)], [.inl wn_, .inl w1_, .inl p1_], S_)) rfl ?_
      refine sm_T_br (a := 1) (z := 7) rfl (fun cx1_ => ?_) (fun cx1_ => ?_)
      · have cx1_ : w1_ ≠ wn_ := of_decide_eq_true cx1_
        refine sm_T_go 1 (c1 := (406, [some (.inr (.inr (some (11, 0)))), some (.inr (.inr (some (2, cc_)))), some (.inl a2_), some (.inl g_), some (.inl ip_), some (.inl tb_), some (.inl st_), some (.inl vl_), some (.inl n0_), some (.inl n1_), some (.inl n2_), some (.inl p0_), some (.inl p1_), some (.inl p2_), some (.inl gd_), some (.inl w0_), some (.inl w1_), some (.inl w2_), some (.inl wn_)], [.inl 0, .inl p1_], S_)) rfl ?_
        refine sm_T_bin (w := p1_) rfl (bi_add (by omega) (by omega) (by omega)) ?_ -- pc_ 406
        refine sm_T_go 1 (c1 := (409, [some (.inr (.inr (some (11, 0)))), some (.inr (.inr (some (2, cc_)))), some (.inl a2_), some (.inl g_), some (.inl ip_), some (.inl tb_), some (.inl st_), some (.inl vl_), some (.inl n0_), some (.inl n1_), some (.inl n2_), some (.inl p0_), some (.inl p1_), some (.inl p2_), some (.inl gd_), some (.inl w0_), some (.inl w1_), some (.inl w2_), some (.inl wn_)], [], S_)) rfl ?_
        refine ih_.2.2.2.2.2.2.2.2.1 g_ ip_ tb_ st_ vl_ n0_ n1_ n2_ p0_ p1_ p2_ gd_ w0_ w1_ w2_ wn_ S_ hI_ hF_ ⟨?_, ?_, ?_, trivial⟩ ?_
        · omega
        · omega
        · omega
        · omega
      · have cx1_ : ¬ (w1_ ≠ wn_) := of_decide_eq_false cx1_
        refine sm_T_go 2 (c1 := (406, [some (.inr (.inr (some (11, 0)))), some (.inr (.inr (some (2, cc_)))), some (.inl a2_), some (.inl g_), some (.inl ip_), some (.inl tb_), some (.inl st_), some (.inl vl_), some (.inl n0_), some (.inl n1_), some (.inl n2_), some (.inl p0_), some (.inl p1_), some (.inl p2_), some (.inl gd_), some (.inl w0_), some (.inl w1_), some (.inl w2_), some (.inl wn_)], [.inl 1, .inl p1_], S_)) rfl ?_
        refine sm_T_bin (w := p1_ + 1) rfl (bi_add (by omega) (by omega) (by omega)) ?_ -- pc_ 406
        refine sm_T_go 1 (c1 := (409, [some (.inr (.inr (some (11, 0)))), some (.inr (.inr (some (2, cc_)))), some (.inl a2_), some (.inl g_), some (.inl ip_), some (.inl tb_), some (.inl st_), some (.inl vl_), some (.inl n0_), some (.inl n1_), some (.inl n2_), some (.inl p0_), some (.inl (p1_ + 1)), some (.inl p2_), some (.inl gd_), some (.inl w0_), some (.inl w1_), some (.inl w2_), some (.inl wn_)], [], S_)) rfl ?_
        refine ih_.2.2.2.2.2.2.2.2.1 g_ ip_ tb_ st_ vl_ n0_ n1_ n2_ p0_ (p1_ + 1) p2_ gd_ w0_ w1_ w2_ wn_ S_ hI_ hF_ ⟨?_, ?_, ?_, trivial⟩ ?_
        · omega
        · omega
        · omega
        · omega
    · rintro g_ ip_ tb_ st_ vl_ n0_ n1_ n2_ p0_ p1_ p2_ gd_ w0_ w1_ w2_ wn_ S_ hI_ hF_ ⟨h0_, hw2_, hwn_, -⟩ hm_
      refine sm_T_go 3 (c1 := (415, [some (.inr (.inr (some (11, 0)))), some (.inr (.inr (some (2, cc_)))), some (.inl a2_), some (.inl g_), some (.inl ip_), some (.inl tb_), some (.inl st_), some (.inl vl_), some (.inl n0_), some (.inl n1_), some (.inl n2_), some (.inl p0_), some (.inl p1_), some (.inl p2_), some (.inl gd_), some (.inl w0_), some (.inl w1_), some (.inl w2_), some (.inl wn_)], [.inl wn_, .inl w2_, .inl p2_], S_)) rfl ?_
      refine sm_T_br (a := 1) (z := 7) rfl (fun cx1_ => ?_) (fun cx1_ => ?_)
      · have cx1_ : w2_ ≠ wn_ := of_decide_eq_true cx1_
        refine sm_T_go 1 (c1 := (423, [some (.inr (.inr (some (11, 0)))), some (.inr (.inr (some (2, cc_)))), some (.inl a2_), some (.inl g_), some (.inl ip_), some (.inl tb_), some (.inl st_), some (.inl vl_), some (.inl n0_), some (.inl n1_), some (.inl n2_), some (.inl p0_), some (.inl p1_), some (.inl p2_), some (.inl gd_), some (.inl w0_), some (.inl w1_), some (.inl w2_), some (.inl wn_)], [.inl 0, .inl p2_], S_)) rfl ?_
        refine sm_T_bin (w := p2_) rfl (bi_add (by omega) (by omega) (by omega)) ?_ -- pc_ 423
        refine sm_T_go 1 (c1 := (426, [some (.inr (.inr (some (11, 0)))), some (.inr (.inr (some (2, cc_)))), some (.inl a2_), some (.inl g_), some (.inl ip_), some (.inl tb_), some (.inl st_), some (.inl vl_), some (.inl n0_), some (.inl n1_), some (.inl n2_), some (.inl p0_), some (.inl p1_), some (.inl p2_), some (.inl gd_), some (.inl w0_), some (.inl w1_), some (.inl w2_), some (.inl wn_)], [], S_)) rfl ?_
        refine ih_.2.2.2.2.2.2.2.2.2.1 g_ ip_ tb_ st_ vl_ n0_ n1_ n2_ p0_ p1_ p2_ gd_ w0_ w1_ w2_ wn_ S_ hI_ hF_ ⟨?_, ?_, trivial⟩ ?_
        · omega
        · omega
        · omega
      · have cx1_ : ¬ (w2_ ≠ wn_) := of_decide_eq_false cx1_
        refine sm_T_go 2 (c1 := (423, [some (.inr (.inr (some (11, 0)))), some (.inr (.inr (some (2, cc_)))), some (.inl a2_), some (.inl g_), some (.inl ip_), some (.inl tb_), some (.inl st_), some (.inl vl_), some (.inl n0_), some (.inl n1_), some (.inl n2_), some (.inl p0_), some (.inl p1_), some (.inl p2_), some (.inl gd_), some (.inl w0_), some (.inl w1_), some (.inl w2_), some (.inl wn_)], [.inl 1, .inl p2_], S_)) rfl ?_
        refine sm_T_bin (w := p2_ + 1) rfl (bi_add (by omega) (by omega) (by omega)) ?_ -- pc_ 423
        refine sm_T_go 1 (c1 := (426, [some (.inr (.inr (some (11, 0)))), some (.inr (.inr (some (2, cc_)))), some (.inl a2_), some (.inl g_), some (.inl ip_), some (.inl tb_), some (.inl st_), some (.inl vl_), some (.inl n0_), some (.inl n1_), some (.inl n2_), some (.inl p0_), some (.inl p1_), some (.inl (p2_ + 1)), some (.inl gd_), some (.inl w0_), some (.inl w1_), some (.inl w2_), some (.inl wn_)], [], S_)) rfl ?_
        refine ih_.2.2.2.2.2.2.2.2.2.1 g_ ip_ tb_ st_ vl_ n0_ n1_ n2_ p0_ p1_ (p2_ + 1) gd_ w0_ w1_ w2_ wn_ S_ hI_ hF_ ⟨?_, ?_, trivial⟩ ?_
        · omega
        · omega
        · omega
    · rintro g_ ip_ tb_ st_ vl_ n0_ n1_ n2_ p0_ p1_ p2_ gd_ w0_ w1_ w2_ wn_ S_ hI_ hF_ ⟨h0_, hwn_, -⟩ hm_
      refine sm_T_go 2 (c1 := (430, [some (.inr (.inr (some (11, 0)))), some (.inr (.inr (some (2, cc_)))), some (.inl a2_), some (.inl g_), some (.inl ip_), some (.inl tb_), some (.inl st_), some (.inl vl_), some (.inl n0_), some (.inl n1_), some (.inl n2_), some (.inl p0_), some (.inl p1_), some (.inl p2_), some (.inl gd_), some (.inl w0_), some (.inl w1_), some (.inl w2_), some (.inl wn_)], [.inl st_, .inl tb_], S_)) rfl ?_
      refine sm_T_bin (w := (i_shr tb_ st_)) rfl rfl ?_ -- pc_ 430
      first | have bx1_ := i_shr_p (x_ := tb_) (e_ := st_) (by omega) (by omega) (by omega) | have bx1_ := i_shr_n tb_ st_
      refine sm_T_go 1 (c1 := (432, [some (.inr (.inr (some (11, 0)))), some (.inr (.inr (some (2, cc_)))), some (.inl a2_), some (.inl g_), some (.inl ip_), some (.inl tb_), some (.inl st_), some (.inl vl_), some (.inl n0_), some (.inl n1_), some (.inl n2_), some (.inl p0_), some (.inl p1_), some (.inl p2_), some (.inl gd_), some (.inl w0_), some (.inl w1_), some (.inl w2_), some (.inl wn_)], [.inl 1, .inl (i_shr tb_ st_)], S_)) rfl ?_
      refine sm_T_bin (w := ((i_shr tb_ st_) % 2)) rfl (bi_msk (k := 1) (by decide)) ?_ -- pc_ 432
      refine sm_T_go 1 (c1 := (435, [some (.inr (.inr (some (11, 0)))), some (.inr (.inr (some (2, cc_)))), some (.inl a2_), some (.inl g_), some (.inl ip_), some (.inl tb_), some (.inl st_), some (.inl vl_), some (.inl n0_), some (.inl n1_), some (.inl n2_), some (.inl p0_), some (.inl p1_), some (.inl p2_), some (.inl gd_), some (.inl w0_), some (.inl w1_), some (.inl w2_), some (.inl wn_)], [.inl vl_, .inl ((i_shr tb_ st_) % 2)], S_)) rfl ?_
      refine sm_T_br (a := 0) (z := 23) rfl (fun cx2_ => ?_) (fun cx2_ => ?_)
      · have cx2_ : ((i_shr tb_ st_) % 2) = vl_ := of_decide_eq_true cx2_
        refine sm_T_go 0 (c1 := (458, [some (.inr (.inr (some (11, 0)))), some (.inr (.inr (some (2, cc_)))), some (.inl a2_), some (.inl g_), some (.inl ip_), some (.inl tb_), some (.inl st_), some (.inl vl_), some (.inl n0_), some (.inl n1_), some (.inl n2_), some (.inl p0_), some (.inl p1_), some (.inl p2_), some (.inl gd_), some (.inl w0_), some (.inl w1_), some (.inl w2_), some (.inl wn_)], [], S_)) rfl ?_
        refine sm_T_wk [some (.inr (.inr (some (11, 0)))), some (.inr (.inr (some (2, cc_)))), some (.inl a2_), some (.inl g_), some (.inl ip_), some (.inl tb_), some (.inl st_), some (.inl vl_), some (.inl n0_), some (.inl n1_), some (.inl n2_), some (.inl p0_), some (.inl p1_), some (.inl p2_), some (.inl gd_), none, none, none, none] (by exact ⟨rfl, rfl, rfl, rfl, rfl, rfl, rfl, rfl, rfl, rfl, rfl, rfl, rfl, rfl, rfl, trivial⟩) ?_
        refine ih_.2.2.2.2.2.2.2.2.2.2 g_ ip_ tb_ st_ vl_ n0_ n1_ n2_ p0_ p1_ p2_ gd_ S_ hI_ hF_ ⟨?_, trivial⟩ ?_
        · omega
        · omega
      · have cx2_ : ¬ (((i_shr tb_ st_) % 2) = vl_) := of_decide_eq_false cx2_
        refine sm_T_go 2 (c1 := (441, [some (.inr (.inr (some (11, 0)))), some (.inr (.inr (some (2, cc_)))), some (.inl a2_), some (.inl g_), some (.inl ip_), some (.inl tb_), some (.inl st_), some (.inl vl_), some (.inl n0_), some (.inl n1_), some (.inl n2_), some (.inl p0_), some (.inl p1_), some (.inl p2_), some (.inl gd_), some (.inl w0_), some (.inl w1_), some (.inl w2_), some (.inl wn_)], [.inl 1, .inl vl_], S_)) rfl ?_
        refine sm_T_bin (w := (i_xor vl_ 1)) rfl rfl ?_ -- pc_ 441
        first | have bx3_ := i_xrp (x_ := vl_) (y_ := 1) (k_ := 1) (by decide) (by omega) (by omega) | have bx3_ := i_xrp (x_ := vl_) (y_ := 1) (k_ := 3) (by decide) (by omega) (by omega) | have bx3_ := i_xrp (x_ := vl_) (y_ := 1) (k_ := 4) (by decide) (by omega) (by omega) | have bx3_ := i_xrp (x_ := vl_) (y_ := 1) (k_ := 6) (by decide) (by omega) (by omega) | have bx3_ := i_xrp (x_ := vl_) (y_ := 1) (k_ := 8) (by decide) (by omega) (by omega) | have bx3_ := i_xrp (x_ := vl_) (y_ := 1) (k_ := 11) (by decide) (by omega) (by omega) | have bx3_ := i_xrp (x_ := vl_) (y_ := 1) (k_ := 12) (by decide) (by omega) (by omega) | have bx3_ := i_xrp (x_ := vl_) (y_ := 1) (k_ := 16) (by decide) (by omega) (by omega) | have bx3_ := i_xrp (x_ := vl_) (y_ := 1) (k_ := 22) (by decide) (by omega) (by omega) | have bx3_ := i_xrp (x_ := vl_) (y_ := 1) (k_ := 31) (by decide) (by omega) (by omega) | have bx3_ := i_xor_n vl_ 1
        refine sm_T_go 7 (c1 := (453, [some (.inr (.inr (some (11, 0)))), some (.inr (.inr (some (2, cc_)))), some (.inl a2_), some (.inl g_), some (.inl ip_), some (.inl tb_), some (.inl st_), some (.inl (i_xor vl_ 1)), some (.inl n0_), some (.inl n1_), some (.inl n2_), some (.inl p0_), some (.inl p1_), some (.inl p2_), some (.inl gd_), some (.inl w0_), some (.inl w1_), some (.inl w2_), some (.inl wn_)], [.inl a2_, .inr (.inr (some (99, 0))), .inl wn_, .inl a2_, .inr (.inr (some (11, 0)))], S_)) rfl ?_
        refine sm_T_iald (n := 162) rfl rfl (by omega) (by omega) ?_
        have bx4_ : (-2147483648) ≤ S_.2.2.1 99 0 a2_.toNat ∧ S_.2.2.1 99 0 a2_.toNat ≤ 2147483647 := hI_.2 99 0 _
        refine sm_T_bin (w := (i_add wn_ (S_.2.2.1 99 0 a2_.toNat))) rfl rfl ?_ -- pc_ 454
        have bx5_ := i_add_r wn_ (S_.2.2.1 99 0 a2_.toNat)
        refine sm_T_cal (d1 := 0) (Q1 := vq_206 a2_ (i_add wn_ (S_.2.2.1 99 0 a2_.toNat)) S_) rfl rfl (by decide) (vc_206 a2_ (i_add wn_ (S_.2.2.1 99 0 a2_.toNat)) S_ hI_ (by omega) (by omega)) (fun u_ Sx6_ px9_ => ?_)
        obtain ⟨rfl, hIx7_, hFx8_, px9_⟩ := px9_
        have hFx10_ : ai_fr (sx_W vw_207) S0_ Sx6_ := ai_fr_tr hF_ (fr_le hFx8_ rfl)
        refine sm_T_go 0 (c1 := (458, [some (.inr (.inr (some (11, 0)))), some (.inr (.inr (some (2, cc_)))), some (.inl a2_), some (.inl g_), some (.inl ip_), some (.inl tb_), some (.inl st_), some (.inl (i_xor vl_ 1)), some (.inl n0_), some (.inl n1_), some (.inl n2_), some (.inl p0_), some (.inl p1_), some (.inl p2_), some (.inl gd_), some (.inl w0_), some (.inl w1_), some (.inl w2_), some (.inl wn_)], [], Sx6_)) rfl ?_
        refine sm_T_wk [some (.inr (.inr (some (11, 0)))), some (.inr (.inr (some (2, cc_)))), some (.inl a2_), some (.inl g_), some (.inl ip_), some (.inl tb_), some (.inl st_), some (.inl (i_xor vl_ 1)), some (.inl n0_), some (.inl n1_), some (.inl n2_), some (.inl p0_), some (.inl p1_), some (.inl p2_), some (.inl gd_), none, none, none, none] (by exact ⟨rfl, rfl, rfl, rfl, rfl, rfl, rfl, rfl, rfl, rfl, rfl, rfl, rfl, rfl, rfl, trivial⟩) ?_
        refine ih_.2.2.2.2.2.2.2.2.2.2 g_ ip_ tb_ st_ (i_xor vl_ 1) n0_ n1_ n2_ p0_ p1_ p2_ gd_ Sx6_ hIx7_ hFx10_ ⟨?_, trivial⟩ ?_
        · omega
        · omega
    · rintro g_ ip_ tb_ st_ vl_ n0_ n1_ n2_ p0_ p1_ p2_ gd_ S_ hI_ hF_ ⟨h0_, -⟩ hm_
      refine sm_T_inc (a := 14) (z := 1) (v := gd_) (w := gd_ + 1) rfl rfl (by omega) (by omega) (by omega) ?_ -- pc_ 458
      refine sm_T_go 1 (c1 := (212, [some (.inr (.inr (some (11, 0)))), some (.inr (.inr (some (2, cc_)))), some (.inl a2_), some (.inl g_), some (.inl ip_), some (.inl tb_), some (.inl st_), some (.inl vl_), some (.inl n0_), some (.inl n1_), some (.inl n2_), some (.inl p0_), some (.inl p1_), some (.inl p2_), some (.inl (gd_ + 1)), none, none, none, none], [], S_)) rfl ?_
      refine ih_.2.2.1 g_ ip_ tb_ st_ vl_ n0_ n1_ n2_ p0_ p1_ p2_ (gd_ + 1) S_ hI_ hF_ ⟨?_, trivial⟩ ?_
      · omega
      · omega
set_option maxHeartbeats 4000000 in
set_option maxRecDepth 20000 in
theorem vc_207 {sc_ : Nat × (Nat → Int)} (a2_ : Int) (cc_ : Nat) (S0_ : sm_S) (hI_ : gi S0_) (hs_ : S0_.1 2 cc_ 1 + S0_.1 2 cc_ 2 ≤ 12) (h2_ : S0_.1 2 cc_ 1 + S0_.1 2 cc_ 2 ≤ a2_ ∧ a2_ < S0_.1 2 cc_ 1 + S0_.1 2 cc_ 2 + S0_.1 2 cc_ 8) : sm_T (mt_P sc_) 1 207 (0, [some (.inr (.inr (some (11, 0)))), some (.inr (.inr (some (2, cc_)))), some (.inl a2_), none, none, none, none, none, none, none, none, none, none, none, none, none, none, none, none], [], S0_) (fun ro9_ => ∃ u_ S1_, ro9_ = (.inl u_, S1_, 0) ∧ vq_207 a2_ cc_ S0_ u_ S1_) := by
  have hF_ : ai_fr (sx_W vw_207) S0_ S0_ := ai_fr_rf
  have ki_ : 0 ≤ S0_.1 2 cc_ 1 ∧ S0_.1 2 cc_ 1 ≤ 12 := hI_.1 2 cc_ 1 rfl
  have kr_ : 0 ≤ S0_.1 2 cc_ 2 ∧ S0_.1 2 cc_ 2 ≤ 6 := hI_.1 2 cc_ 2 rfl
  have kg_ : 0 ≤ S0_.1 2 cc_ 8 ∧ S0_.1 2 cc_ 8 ≤ 150 := hI_.1 2 cc_ 8 rfl
  refine sm_T_go 2 (c1 := (2, [some (.inr (.inr (some (11, 0)))), some (.inr (.inr (some (2, cc_)))), some (.inl a2_), none, none, none, none, none, none, none, none, none, none, none, none, none, none, none, none], [.inr (.inr (some (2, cc_))), .inl a2_], S0_)) rfl ?_
  refine sm_T_cal (d1 := 0) (Q1 := vq_54 cc_ S0_) rfl rfl (by decide) (vc_54 cc_ S0_ hI_ ) (fun u_ Sx1_ px4_ => ?_)
  obtain ⟨rfl, vx6_, rfl, px4_⟩ := px4_
  have fg2_ := px4_.2
  refine sm_T_bin (w := a2_ - vx6_) rfl (bi_sub (by omega) (by omega) (by omega)) ?_ -- pc_ 5
  refine sm_T_go 3 (c1 := (9, [some (.inr (.inr (some (11, 0)))), some (.inr (.inr (some (2, cc_)))), some (.inl a2_), some (.inl (a2_ - vx6_)), none, none, none, none, none, none, none, none, none, none, none, none, none, none, none], [.inl (a2_ - vx6_), .inr (.inr (some (2, cc_)))], S0_)) rfl ?_
  refine sm_T_cal (d1 := 0) (Q1 := vq_59 (a2_ - vx6_) cc_ S0_) rfl rfl (by decide) (vc_59 (a2_ - vx6_) cc_ S0_ hI_ (by omega)) (fun u_ Sx7_ px10_ => ?_)
  obtain ⟨rfl, vx12_, rfl, px10_⟩ := px10_
  have gi9_ := px10_.1
  refine sm_T_go 7 (c1 := (26, [some (.inr (.inr (some (11, 0)))), some (.inr (.inr (some (2, cc_)))), some (.inl a2_), some (.inl (a2_ - vx6_)), some (.inl vx12_), none, none, none, none, none, none, none, none, none, none, none, none, none, none], [.inl (a2_ - vx6_), .inr (.inr (some (35, (0 + cc_)))), .inr (.inr (some (56, (0 + (3 + cc_)))))], S0_)) rfl ?_
  refine sm_T_iald (n := 150) rfl rfl (by omega) (by omega) ?_
  have bx13_ : 0 ≤ S0_.2.2.1 35 (0 + cc_) (a2_ - vx6_).toNat ∧ S0_.2.2.1 35 (0 + cc_) (a2_ - vx6_).toNat ≤ 11 := hI_.2 35 (0 + cc_) _
  refine sm_T_iald (n := 12) rfl rfl (by omega) (by omega) ?_
  have bx14_ : 0 ≤ S0_.2.2.1 56 (0 + (3 + cc_)) (S0_.2.2.1 35 (0 + cc_) (a2_ - vx6_).toNat).toNat ∧ S0_.2.2.1 56 (0 + (3 + cc_)) (S0_.2.2.1 35 (0 + cc_) (a2_ - vx6_).toNat).toNat ≤ 255 := hI_.2 56 (0 + (3 + cc_)) _
  refine sm_T_go 5 (c1 := (36, [some (.inr (.inr (some (11, 0)))), some (.inr (.inr (some (2, cc_)))), some (.inl a2_), some (.inl (a2_ - vx6_)), some (.inl vx12_), some (.inl (S0_.2.2.1 56 (0 + (3 + cc_)) (S0_.2.2.1 35 (0 + cc_) (a2_ - vx6_).toNat).toNat)), some (.inl 0), some (.inl 0), none, none, none, none, none, none, none, none, none, none, none], [], S0_)) rfl ?_
  refine (vl_207 a2_ cc_ S0_ hs_ h2_ _).1 (a2_ - vx6_) vx12_ (S0_.2.2.1 56 (0 + (3 + cc_)) (S0_.2.2.1 35 (0 + cc_) (a2_ - vx6_).toNat).toNat) 0 0 S0_ hI_ hF_ ⟨?_, trivial⟩ (Nat.lt_succ_self _)
  · omega
end
/-! 99.zm1g -/
section
/-! Times.makeWave -/
def vw_205 : sx_Wl := ([(11, 13), (11, 14), (11, 15), (11, 16)], [99, 107, 108, 109], [(11, 12)])
def vq_205 (a2_ : Int) (a3_ : Int) (cc_ : Nat) (S0_ : sm_S) (u_ : Option sm_V) (S1_ : sm_S) : Prop := u_ = none ∧ gi S1_ ∧ ai_fr (sx_W vw_205) S0_ S1_ ∧ (True)
set_option maxHeartbeats 400000 in
theorem vl_205 {sc_ : Nat × (Nat → Int)} (a2_ : Int) (a3_ : Int) (cc_ : Nat) (S0_ : sm_S) (hs_ : S0_.1 2 cc_ 1 + S0_.1 2 cc_ 2 ≤ 12) (h2_ : 0 ≤ a2_ ∧ a2_ ≤ 4095) (h3_ : 0 ≤ a3_ ∧ a3_ ≤ 4095) : ∀ nn_ : Nat, (∀ (n_ : Int) (S_ : sm_S), gi S_ → ai_fr (sx_W vw_205) S0_ S_ → ((0 ≤ n_ ∧ n_ ≤ 162) ∧ True) → ((500 - n_).toNat) < nn_ → sm_T (mt_P sc_) 2 205 (85, [some (.inr (.inr (some (11, 0)))), some (.inr (.inr (some (2, cc_)))), some (.inl a2_), some (.inl a3_), some (.inl n_)], [], S_) (fun ro9_ => ∃ u_ S1_, ro9_ = (.inl u_, S1_, 0) ∧ vq_205 a2_ a3_ cc_ S0_ u_ S1_)) := by
  intro nn_
  induction nn_ with
  | zero => exact fun _ _ _ _ _ h_ => absurd h_ (Nat.not_lt_zero _)
  | succ nn_ ih_ =>
    rintro n_ S_ hI_ hF_ ⟨h0_, -⟩ hm_
    have z1_ : S_.1 2 cc_ 1 = S0_.1 2 cc_ 1 := hF_.1 2 cc_ 1 rfl
    have z2_ : S_.1 2 cc_ 2 = S0_.1 2 cc_ 2 := hF_.1 2 cc_ 2 rfl
    have cg9_ : 0 ≤ S_.1 2 cc_ 8 ∧ S_.1 2 cc_ 8 ≤ 150 := hI_.1 2 cc_ 8 rfl
    have ci_ : 0 ≤ S_.1 2 cc_ 1 ∧ S_.1 2 cc_ 1 ≤ 12 := hI_.1 2 cc_ 1 rfl
    have cr : 0 ≤ S_.1 2 cc_ 2 ∧ S_.1 2 cc_ 2 ≤ 6 := hI_.1 2 cc_ 2 rfl
    refine sm_T_go 2 (c1 := (88, [some (.inr (.inr (some (11, 0)))), some (.inr (.inr (some (2, cc_)))), some (.inl a2_), some (.inl a3_), some (.inl n_)], [.inr (.inr (some (2, cc_))), .inl n_], S_)) rfl ?_
    refine sm_T_cal (d1 := 0) (Q1 := vq_55 cc_ S_) rfl rfl (by decide) (vc_55 cc_ S_ hI_ ) (fun u_ Sx1_ px4_ => ?_)
    obtain ⟨rfl, vx6_, rfl, px4_⟩ := px4_
    have nt88_ := px4_.2
    refine sm_T_br (a := 3) (z := 87) rfl (fun cx7_ => ?_) (fun cx7_ => ?_)
    · have cx7_ : vx6_ ≤ n_ := of_decide_eq_true cx7_
      refine sm_T_rv rfl ⟨_, _, rfl, rfl, hI_, hF_, ?_⟩
      trivial
    · have cx7_ : ¬ (vx6_ ≤ n_) := of_decide_eq_false cx7_
      have bx8_ : 0 ≤ S_.1 11 0 16 ∧ S_.1 11 0 16 ≤ 1 := hI_.1 11 0 16 rfl
      refine sm_T_go 2 (c1 := (98, [some (.inr (.inr (some (11, 0)))), some (.inr (.inr (some (2, cc_)))), some (.inl a2_), some (.inl a3_), some (.inl n_)], [.inl (S_.1 11 0 16)], S_)) rfl ?_
      refine sm_T_b0 (a := 1) (z := 80) rfl (fun cx9_ => ?_) (fun cx9_ => ?_)
      · have cx9_ : (S_.1 11 0 16) ≠ 0 := of_decide_eq_true cx9_
        refine sm_T_rv rfl ⟨_, _, rfl, rfl, hI_, hF_, ?_⟩
        trivial
      · have cx9_ : ¬ ((S_.1 11 0 16) ≠ 0) := of_decide_eq_false cx9_
        refine sm_T_go 4 (c1 := (108, [some (.inr (.inr (some (11, 0)))), some (.inr (.inr (some (2, cc_)))), some (.inl a2_), some (.inl a3_), some (.inl n_)], [.inl 1, .inl n_, .inr (.inr (some (108, 0)))], S_)) rfl ?_
        refine sm_T_bin (w := n_ + 1) rfl (bi_add (by omega) (by omega) (by omega)) ?_ -- pc_ 108
        refine sm_T_go 3 (c1 := (115, [some (.inr (.inr (some (11, 0)))), some (.inr (.inr (some (2, cc_)))), some (.inl a2_), some (.inl a3_), some (.inl n_)], [.inl n_, .inr (.inr (some (108, 0))), .inl (n_ + 1), .inr (.inr (some (108, 0)))], S_)) rfl ?_
        refine sm_T_iald (n := 163) rfl rfl (by omega) (by omega) ?_
        have bx10_ : 0 ≤ S_.2.2.1 108 0 n_.toNat ∧ S_.2.2.1 108 0 n_.toNat ≤ 20000 := hI_.2 108 0 _
        refine sm_T_iast (n := 163) rfl rfl (by omega) (by omega) ?_
        have hIx11_ : gi (sm_aI S_ 108 0 (n_ + 1).toNat (S_.2.2.1 108 0 n_.toNat)) := gi_aI hI_ (show 0 ≤ (S_.2.2.1 108 0 n_.toNat) ∧ (S_.2.2.1 108 0 n_.toNat) ≤ 20000 from ⟨by omega, by omega⟩)
        have hFx12_ : ai_fr (sx_W vw_205) S0_ (sm_aI S_ 108 0 (n_ + 1).toNat (S_.2.2.1 108 0 n_.toNat)) := ai_fr_tr hF_ (ai_fr_aI rfl)
        refine sm_T_go 2 (c1 := (120, [some (.inr (.inr (some (11, 0)))), some (.inr (.inr (some (2, cc_)))), some (.inl a2_), some (.inl a3_), some (.inl n_)], [.inr (.inr (some (2, cc_))), .inl n_], sm_aI S_ 108 0 (n_ + 1).toNat (S_.2.2.1 108 0 n_.toNat))) rfl ?_
        refine sm_T_cal (d1 := 0) (Q1 := vq_54 cc_ (sm_aI S_ 108 0 (n_ + 1).toNat (S_.2.2.1 108 0 n_.toNat))) rfl rfl (by decide) (vc_54 cc_ (sm_aI S_ 108 0 (n_ + 1).toNat (S_.2.2.1 108 0 n_.toNat)) hIx11_ ) (fun u_ Sx13_ px16_ => ?_)
        obtain ⟨rfl, vx18_, rfl, px16_⟩ := px16_
        have fg120_ := px16_.2
        simp only [rd_af] at fg120_
        refine sm_T_br (a := 3) (z := 42) rfl (fun cx19_ => ?_) (fun cx19_ => ?_)
        · have cx19_ : vx18_ ≤ n_ := of_decide_eq_true cx19_
          refine sm_T_go 3 (c1 := (169, [some (.inr (.inr (some (11, 0)))), some (.inr (.inr (some (2, cc_)))), some (.inl a2_), some (.inl a3_), some (.inl n_)], [.inl n_, .inr (.inr (some (2, cc_))), .inr (.inr (some (11, 0)))], sm_aI S_ 108 0 (n_ + 1).toNat (S_.2.2.1 108 0 n_.toNat))) rfl ?_
          refine sm_T_cal (d1 := 1) (Q1 := vq_207 n_ cc_ (sm_aI S_ 108 0 (n_ + 1).toNat (S_.2.2.1 108 0 n_.toNat))) rfl rfl (by decide) (vc_207 n_ cc_ (sm_aI S_ 108 0 (n_ + 1).toNat (S_.2.2.1 108 0 n_.toNat)) hIx11_ (by (simp only [rd_af]; omega)) (by (simp only [rd_af]; omega))) (fun u_ Sx20_ px23_ => ?_)
          obtain ⟨rfl, hIx21_, hFx22_, px23_⟩ := px23_
          have hFx24_ : ai_fr (sx_W vw_205) S0_ Sx20_ := ai_fr_tr hFx12_ (fr_le hFx22_ rfl)
          refine sm_T_inc (a := 4) (z := 1) (v := n_) (w := n_ + 1) rfl rfl (by omega) (by omega) (by omega) ?_ -- pc_ 172
          refine sm_T_go 1 (c1 := (85, [some (.inr (.inr (some (11, 0)))), some (.inr (.inr (some (2, cc_)))), some (.inl a2_), some (.inl a3_), some (.inl (n_ + 1))], [], Sx20_)) rfl ?_
          refine ih_ (n_ + 1) Sx20_ hIx21_ hFx24_ ⟨?_, trivial⟩ ?_
          · omega
          · omega
        · have cx19_ : ¬ (vx18_ ≤ n_) := of_decide_eq_false cx19_
          refine sm_T_go 5 (c1 := (135, [some (.inr (.inr (some (11, 0)))), some (.inr (.inr (some (2, cc_)))), some (.inl a2_), some (.inl a3_), some (.inl n_)], [.inl n_, .inl a2_, .inl n_, .inr (.inr (some (107, 0)))], sm_aI S_ 108 0 (n_ + 1).toNat (S_.2.2.1 108 0 n_.toNat))) rfl ?_
          refine sm_T_bin (w := (i_shr a2_ n_)) rfl rfl ?_ -- pc_ 135
          first | have bx25_ := i_shr_p (x_ := a2_) (e_ := n_) (by omega) (by omega) (by omega) | have bx25_ := i_shr_n a2_ n_
          refine sm_T_go 1 (c1 := (137, [some (.inr (.inr (some (11, 0)))), some (.inr (.inr (some (2, cc_)))), some (.inl a2_), some (.inl a3_), some (.inl n_)], [.inl 1, .inl (i_shr a2_ n_), .inl n_, .inr (.inr (some (107, 0)))], sm_aI S_ 108 0 (n_ + 1).toNat (S_.2.2.1 108 0 n_.toNat))) rfl ?_
          refine sm_T_bin (w := ((i_shr a2_ n_) % 2)) rfl (bi_msk (k := 1) (by decide)) ?_ -- pc_ 137
          refine sm_T_iast (n := 162) rfl rfl (by omega) (by omega) ?_
          have hIx26_ : gi (sm_aI (sm_aI S_ 108 0 (n_ + 1).toNat (S_.2.2.1 108 0 n_.toNat)) 107 0 n_.toNat ((i_shr a2_ n_) % 2)) := gi_aI hIx11_ (show 0 ≤ ((i_shr a2_ n_) % 2) ∧ ((i_shr a2_ n_) % 2) ≤ 1 from ⟨by omega, by omega⟩)
          have hFx27_ : ai_fr (sx_W vw_205) S0_ (sm_aI (sm_aI S_ 108 0 (n_ + 1).toNat (S_.2.2.1 108 0 n_.toNat)) 107 0 n_.toNat ((i_shr a2_ n_) % 2)) := ai_fr_tr hFx12_ (ai_fr_aI rfl)
          refine sm_T_go 3 (c1 := (145, [some (.inr (.inr (some (11, 0)))), some (.inr (.inr (some (2, cc_)))), some (.inl a2_), some (.inl a3_), some (.inl n_)], [.inl n_, .inr (.inr (some (107, 0)))], sm_aI (sm_aI S_ 108 0 (n_ + 1).toNat (S_.2.2.1 108 0 n_.toNat)) 107 0 n_.toNat ((i_shr a2_ n_) % 2))) rfl ?_
          refine sm_T_iald (n := 162) rfl rfl (by omega) (by omega) ?_
          have bx28_ : 0 ≤ (sm_aI (sm_aI S_ 108 0 (n_ + 1).toNat (S_.2.2.1 108 0 n_.toNat)) 107 0 n_.toNat ((i_shr a2_ n_) % 2)).2.2.1 107 0 n_.toNat ∧ (sm_aI (sm_aI S_ 108 0 (n_ + 1).toNat (S_.2.2.1 108 0 n_.toNat)) 107 0 n_.toNat ((i_shr a2_ n_) % 2)).2.2.1 107 0 n_.toNat ≤ 1 := hIx26_.2 107 0 _
          refine sm_T_go 2 (c1 := (149, [some (.inr (.inr (some (11, 0)))), some (.inr (.inr (some (2, cc_)))), some (.inl a2_), some (.inl a3_), some (.inl n_)], [.inl n_, .inl a3_, .inl ((sm_aI (sm_aI S_ 108 0 (n_ + 1).toNat (S_.2.2.1 108 0 n_.toNat)) 107 0 n_.toNat ((i_shr a2_ n_) % 2)).2.2.1 107 0 n_.toNat)], sm_aI (sm_aI S_ 108 0 (n_ + 1).toNat (S_.2.2.1 108 0 n_.toNat)) 107 0 n_.toNat ((i_shr a2_ n_) % 2))) rfl ?_
          refine sm_T_bin (w := (i_shr a3_ n_)) rfl rfl ?_ -- pc_ 149
          first | have bx29_ := i_shr_p (x_ := a3_) (e_ := n_) (by omega) (by omega) (by omega) | have bx29_ := i_shr_n a3_ n_
          refine sm_T_go 1 (c1 := (151, [some (.inr (.inr (some (11, 0)))), some (.inr (.inr (some (2, cc_)))), some (.inl a2_), some (.inl a3_), some (.inl n_)], [.inl 1, .inl (i_shr a3_ n_), .inl ((sm_aI (sm_aI S_ 108 0 (n_ + 1).toNat (S_.2.2.1 108 0 n_.toNat)) 107 0 n_.toNat ((i_shr a2_ n_) % 2)).2.2.1 107 0 n_.toNat)], sm_aI (sm_aI S_ 108 0 (n_ + 1).toNat (S_.2.2.1 108 0 n_.toNat)) 107 0 n_.toNat ((i_shr a2_ n_) % 2))) rfl ?_
          refine sm_T_bin (w := ((i_shr a3_ n_) % 2)) rfl (bi_msk (k := 1) (by decide)) ?_ -- pc_ 151
          refine sm_T_br (a := 0) (z := 20) rfl (fun cx30_ => ?_) (fun cx30_ => ?_)
          · have cx30_ : ((sm_aI (sm_aI S_ 108 0 (n_ + 1).toNat (S_.2.2.1 108 0 n_.toNat)) 107 0 n_.toNat ((i_shr a2_ n_) % 2)).2.2.1 107 0 n_.toNat) = ((i_shr a3_ n_) % 2) := of_decide_eq_true cx30_
            refine sm_T_inc (a := 4) (z := 1) (v := n_) (w := n_ + 1) rfl rfl (by omega) (by omega) (by omega) ?_ -- pc_ 172
            refine sm_T_go 1 (c1 := (85, [some (.inr (.inr (some (11, 0)))), some (.inr (.inr (some (2, cc_)))), some (.inl a2_), some (.inl a3_), some (.inl (n_ + 1))], [], sm_aI (sm_aI S_ 108 0 (n_ + 1).toNat (S_.2.2.1 108 0 n_.toNat)) 107 0 n_.toNat ((i_shr a2_ n_) % 2))) rfl ?_
            refine ih_ (n_ + 1) (sm_aI (sm_aI S_ 108 0 (n_ + 1).toNat (S_.2.2.1 108 0 n_.toNat)) 107 0 n_.toNat ((i_shr a2_ n_) % 2)) hIx26_ hFx27_ ⟨?_, trivial⟩ ?_
            · omega
            · omega
          · have cx30_ : ¬ (((sm_aI (sm_aI S_ 108 0 (n_ + 1).toNat (S_.2.2.1 108 0 n_.toNat)) 107 0 n_.toNat ((i_shr a2_ n_) % 2)).2.2.1 107 0 n_.toNat) = ((i_shr a3_ n_) % 2)) := of_decide_eq_false cx30_
            refine sm_T_go 3 (c1 := (159, [some (.inr (.inr (some (11, 0)))), some (.inr (.inr (some (2, cc_)))), some (.inl a2_), some (.inl a3_), some (.inl n_)], [.inl 0, .inl n_, .inr (.inr (some (11, 0)))], sm_aI (sm_aI S_ 108 0 (n_ + 1).toNat (S_.2.2.1 108 0 n_.toNat)) 107 0 n_.toNat ((i_shr a2_ n_) % 2))) rfl ?_
            refine sm_T_cal (d1 := 0) (Q1 := vq_206 n_ 0 (sm_aI (sm_aI S_ 108 0 (n_ + 1).toNat (S_.2.2.1 108 0 n_.toNat)) 107 0 n_.toNat ((i_shr a2_ n_) % 2))) rfl rfl (by decide) (vc_206 n_ 0 (sm_aI (sm_aI S_ 108 0 (n_ + 1).toNat (S_.2.2.1 108 0 n_.toNat)) 107 0 n_.toNat ((i_shr a2_ n_) % 2)) hIx26_ (by omega) (by omega)) (fun u_ Sx31_ px34_ => ?_)
            obtain ⟨rfl, hIx32_, hFx33_, px34_⟩ := px34_
            have hFx35_ : ai_fr (sx_W vw_205) S0_ Sx31_ := ai_fr_tr hFx27_ (fr_le hFx33_ rfl)
            refine sm_T_go 1 (c1 := (172, [some (.inr (.inr (some (11, 0)))), some (.inr (.inr (some (2, cc_)))), some (.inl a2_), some (.inl a3_), some (.inl n_)], [], Sx31_)) rfl ?_
            refine sm_T_inc (a := 4) (z := 1) (v := n_) (w := n_ + 1) rfl rfl (by omega) (by omega) (by omega) ?_ -- pc_ 172
            refine sm_T_go 1 (c1 := (85, [some (.inr (.inr (some (11, 0)))), some (.inr (.inr (some (2, cc_)))), some (.inl a2_), some (.inl a3_), some (.inl (n_ + 1))], [], Sx31_)) rfl ?_
            refine ih_ (n_ + 1) Sx31_ hIx32_ hFx35_ ⟨?_, trivial⟩ ?_
            · omega
            · omega
set_option maxHeartbeats 400000 in
theorem vc_205 {sc_ : Nat × (Nat → Int)} (a2_ : Int) (a3_ : Int) (cc_ : Nat) (S0_ : sm_S) (hI_ : gi S0_) (hs_ : S0_.1 2 cc_ 1 + S0_.1 2 cc_ 2 ≤ 12) (h2_ : 0 ≤ a2_ ∧ a2_ ≤ 4095) (h3_ : 0 ≤ a3_ ∧ a3_ ≤ 4095) : sm_T (mt_P sc_) 2 205 (0, [some (.inr (.inr (some (11, 0)))), some (.inr (.inr (some (2, cc_)))), some (.inl a2_), some (.inl a3_), none], [], S0_) (fun ro9_ => ∃ u_ S1_, ro9_ = (.inl u_, S1_, 0) ∧ vq_205 a2_ a3_ cc_ S0_ u_ S1_) := by
  have hF_ : ai_fr (sx_W vw_205) S0_ S0_ := ai_fr_rf
  refine sm_T_go 1 (c1 := (1, [some (.inr (.inr (some (11, 0)))), some (.inr (.inr (some (2, cc_)))), some (.inl a2_), some (.inl a3_), none], [.inr (.inr (some (11, 0)))], S0_)) rfl ?_
  cases qx1_ : S0_.2.1 11 0 12 with
  | none =>
    refine sm_T_gr rfl rfl qx1_ ?_
    refine sm_T_go 1 (c1 := (5, [some (.inr (.inr (some (11, 0)))), some (.inr (.inr (some (2, cc_)))), some (.inl a2_), some (.inl a3_), none], [.inr (.inr (some (2, cc_))), .inr (.inr none)], S0_)) rfl ?_
    refine sm_T_acn (x_ := none) (y_ := some (2, cc_)) rfl rfl (fun cx3_ => ?_) (fun cx3_ => ?_)
    · cases cx3_
    · skip
      have hIx4_ : gi (sm_pR S0_ 11 0 12 (some cc_)) := gi_pR hI_
      have hFx5_ : ai_fr (sx_W vw_205) S0_ (sm_pR S0_ 11 0 12 (some cc_)) := ai_fr_tr hF_ (ai_fr_pR rfl)
      have bx6_ : (-2147483648) ≤ S0_.1 0 (0 + cc_) 16 ∧ S0_.1 0 (0 + cc_) 16 ≤ 2147483647 := hI_.1 0 (0 + cc_) 16 rfl
      have hIx7_ : gi (sm_pI (sm_pR S0_ 11 0 12 (some cc_)) 11 0 13 (S0_.1 0 (0 + cc_) 16)) := gi_pI hIx4_ (show (-2147483648) ≤ (S0_.1 0 (0 + cc_) 16) ∧ (S0_.1 0 (0 + cc_) 16) ≤ 2147483647 from ⟨by omega, by omega⟩)
      have hFx8_ : ai_fr (sx_W vw_205) S0_ (sm_pI (sm_pR S0_ 11 0 12 (some cc_)) 11 0 13 (S0_.1 0 (0 + cc_) 16)) := ai_fr_tr hFx5_ (ai_fr_pI rfl)
      have hIx9_ : gi (sm_pI (sm_pI (sm_pR S0_ 11 0 12 (some cc_)) 11 0 13 (S0_.1 0 (0 + cc_) 16)) 11 0 14 a2_) := gi_pI hIx7_ (show 0 ≤ a2_ ∧ a2_ ≤ 4095 from ⟨by omega, by omega⟩)
      have hFx10_ : ai_fr (sx_W vw_205) S0_ (sm_pI (sm_pI (sm_pR S0_ 11 0 12 (some cc_)) 11 0 13 (S0_.1 0 (0 + cc_) 16)) 11 0 14 a2_) := ai_fr_tr hFx8_ (ai_fr_pI rfl)
      have hIx11_ : gi (sm_pI (sm_pI (sm_pI (sm_pR S0_ 11 0 12 (some cc_)) 11 0 13 (S0_.1 0 (0 + cc_) 16)) 11 0 14 a2_) 11 0 15 a3_) := gi_pI hIx9_ (show 0 ≤ a3_ ∧ a3_ ≤ 4095 from ⟨by omega, by omega⟩)
      have hFx12_ : ai_fr (sx_W vw_205) S0_ (sm_pI (sm_pI (sm_pI (sm_pR S0_ 11 0 12 (some cc_)) 11 0 13 (S0_.1 0 (0 + cc_) 16)) 11 0 14 a2_) 11 0 15 a3_) := ai_fr_tr hFx10_ (ai_fr_pI rfl)
      have hIx13_ : gi (sm_pI (sm_pI (sm_pI (sm_pI (sm_pR S0_ 11 0 12 (some cc_)) 11 0 13 (S0_.1 0 (0 + cc_) 16)) 11 0 14 a2_) 11 0 15 a3_) 11 0 16 0) := gi_pI hIx11_ (show 0 ≤ 0 ∧ 0 ≤ 1 from ⟨by omega, by omega⟩)
      have hFx14_ : ai_fr (sx_W vw_205) S0_ (sm_pI (sm_pI (sm_pI (sm_pI (sm_pR S0_ 11 0 12 (some cc_)) 11 0 13 (S0_.1 0 (0 + cc_) 16)) 11 0 14 a2_) 11 0 15 a3_) 11 0 16 0) := ai_fr_tr hFx12_ (ai_fr_pI rfl)
      refine sm_T_go 19 (c1 := (72, [some (.inr (.inr (some (11, 0)))), some (.inr (.inr (some (2, cc_)))), some (.inl a2_), some (.inl a3_), none], [.inr (.inr (some (2, cc_))), .inr (.inr (some (11, 0)))], sm_pI (sm_pI (sm_pI (sm_pI (sm_pR S0_ 11 0 12 (some cc_)) 11 0 13 (S0_.1 0 (0 + cc_) 16)) 11 0 14 a2_) 11 0 15 a3_) 11 0 16 0)) rfl ?_
      refine sm_T_cal (d1 := 1) (Q1 := vq_196 cc_ (sm_pI (sm_pI (sm_pI (sm_pI (sm_pR S0_ 11 0 12 (some cc_)) 11 0 13 (S0_.1 0 (0 + cc_) 16)) 11 0 14 a2_) 11 0 15 a3_) 11 0 16 0)) rfl rfl (by decide) (vc_196 cc_ (sm_pI (sm_pI (sm_pI (sm_pI (sm_pR S0_ 11 0 12 (some cc_)) 11 0 13 (S0_.1 0 (0 + cc_) 16)) 11 0 14 a2_) 11 0 15 a3_) 11 0 16 0) hIx13_ (by exact hs_)) (fun u_ Sx15_ px18_ => ?_)
      obtain ⟨rfl, hIx16_, hFx17_, px18_⟩ := px18_
      have hFx19_ : ai_fr (sx_W vw_205) S0_ Sx15_ := ai_fr_tr hFx14_ (fr_le hFx17_ rfl)
      refine sm_T_go 4 (c1 := (81, [some (.inr (.inr (some (11, 0)))), some (.inr (.inr (some (2, cc_)))), some (.inl a2_), some (.inl a3_), none], [.inl 0, .inl 0, .inr (.inr (some (108, 0)))], Sx15_)) rfl ?_
      refine sm_T_iast (n := 163) rfl rfl (by omega) (by omega) ?_
      have hIx20_ : gi (sm_aI Sx15_ 108 0 (0 : Int).toNat 0) := gi_aI hIx16_ (show 0 ≤ 0 ∧ 0 ≤ 20000 from ⟨by omega, by omega⟩)
      have hFx21_ : ai_fr (sx_W vw_205) S0_ (sm_aI Sx15_ 108 0 (0 : Int).toNat 0) := ai_fr_tr hFx19_ (ai_fr_aI rfl)
      refine sm_T_go 2 (c1 := (85, [some (.inr (.inr (some (11, 0)))), some (.inr (.inr (some (2, cc_)))), some (.inl a2_), some (.inl a3_), some (.inl 0)], [], sm_aI Sx15_ 108 0 (0 : Int).toNat 0)) rfl ?_
      refine (vl_205 a2_ a3_ cc_ S0_ hs_ h2_ h3_ _) 0 (sm_aI Sx15_ 108 0 (0 : Int).toNat 0) hIx20_ hFx21_ ⟨?_, trivial⟩ (Nat.lt_succ_self _)
      · omega
  | some jx2_ =>
    refine sm_T_gr rfl rfl qx1_ ?_
    refine sm_T_go 1 (c1 := (5, [some (.inr (.inr (some (11, 0)))), some (.inr (.inr (some (2, cc_)))), some (.inl a2_), some (.inl a3_), none], [.inr (.inr (some (2, cc_))), .inr (.inr (some (2, jx2_)))], S0_)) rfl ?_
    refine sm_T_acn (x_ := some (2, jx2_)) (y_ := some (2, cc_)) rfl rfl (fun cx22_ => ?_) (fun cx22_ => ?_)
    · have cx22_ : jx2_ = cc_ := congrArg Prod.snd (Option.some.inj cx22_)
      have bx23_ : (-2147483648) ≤ S0_.1 11 0 13 ∧ S0_.1 11 0 13 ≤ 2147483647 := hI_.1 11 0 13 rfl
      have bx24_ : (-2147483648) ≤ S0_.1 0 (0 + cc_) 16 ∧ S0_.1 0 (0 + cc_) 16 ≤ 2147483647 := hI_.1 0 (0 + cc_) 16 rfl
      refine sm_T_go 5 (c1 := (19, [some (.inr (.inr (some (11, 0)))), some (.inr (.inr (some (2, cc_)))), some (.inl a2_), some (.inl a3_), none], [.inl (S0_.1 0 (0 + cc_) 16), .inl (S0_.1 11 0 13)], S0_)) rfl ?_
      refine sm_T_br (a := 1) (z := 20) rfl (fun cx25_ => ?_) (fun cx25_ => ?_)
      · have cx25_ : (S0_.1 11 0 13) ≠ (S0_.1 0 (0 + cc_) 16) := of_decide_eq_true cx25_
        have hIx26_ : gi (sm_pR S0_ 11 0 12 (some cc_)) := gi_pR hI_
        have hFx27_ : ai_fr (sx_W vw_205) S0_ (sm_pR S0_ 11 0 12 (some cc_)) := ai_fr_tr hF_ (ai_fr_pR rfl)
        have hIx28_ : gi (sm_pI (sm_pR S0_ 11 0 12 (some cc_)) 11 0 13 (S0_.1 0 (0 + cc_) 16)) := gi_pI hIx26_ (show (-2147483648) ≤ (S0_.1 0 (0 + cc_) 16) ∧ (S0_.1 0 (0 + cc_) 16) ≤ 2147483647 from ⟨by omega, by omega⟩)
        have hFx29_ : ai_fr (sx_W vw_205) S0_ (sm_pI (sm_pR S0_ 11 0 12 (some cc_)) 11 0 13 (S0_.1 0 (0 + cc_) 16)) := ai_fr_tr hFx27_ (ai_fr_pI rfl)
        have hIx30_ : gi (sm_pI (sm_pI (sm_pR S0_ 11 0 12 (some cc_)) 11 0 13 (S0_.1 0 (0 + cc_) 16)) 11 0 14 a2_) := gi_pI hIx28_ (show 0 ≤ a2_ ∧ a2_ ≤ 4095 from ⟨by omega, by omega⟩)
        have hFx31_ : ai_fr (sx_W vw_205) S0_ (sm_pI (sm_pI (sm_pR S0_ 11 0 12 (some cc_)) 11 0 13 (S0_.1 0 (0 + cc_) 16)) 11 0 14 a2_) := ai_fr_tr hFx29_ (ai_fr_pI rfl)
        have hIx32_ : gi (sm_pI (sm_pI (sm_pI (sm_pR S0_ 11 0 12 (some cc_)) 11 0 13 (S0_.1 0 (0 + cc_) 16)) 11 0 14 a2_) 11 0 15 a3_) := gi_pI hIx30_ (show 0 ≤ a3_ ∧ a3_ ≤ 4095 from ⟨by omega, by omega⟩)
        have hFx33_ : ai_fr (sx_W vw_205) S0_ (sm_pI (sm_pI (sm_pI (sm_pR S0_ 11 0 12 (some cc_)) 11 0 13 (S0_.1 0 (0 + cc_) 16)) 11 0 14 a2_) 11 0 15 a3_) := ai_fr_tr hFx31_ (ai_fr_pI rfl)
        have hIx34_ : gi (sm_pI (sm_pI (sm_pI (sm_pI (sm_pR S0_ 11 0 12 (some cc_)) 11 0 13 (S0_.1 0 (0 + cc_) 16)) 11 0 14 a2_) 11 0 15 a3_) 11 0 16 0) := gi_pI hIx32_ (show 0 ≤ 0 ∧ 0 ≤ 1 from ⟨by omega, by omega⟩)
        have hFx35_ : ai_fr (sx_W vw_205) S0_ (sm_pI (sm_pI (sm_pI (sm_pI (sm_pR S0_ 11 0 12 (some cc_)) 11 0 13 (S0_.1 0 (0 + cc_) 16)) 11 0 14 a2_) 11 0 15 a3_) 11 0 16 0) := ai_fr_tr hFx33_ (ai_fr_pI rfl)
        refine sm_T_go 19 (c1 := (72, [some (.inr (.inr (some (11, 0)))), some (.inr (.inr (some (2, cc_)))), some (.inl a2_), some (.inl a3_), none], [.inr (.inr (some (2, cc_))), .inr (.inr (some (11, 0)))], sm_pI (sm_pI (sm_pI (sm_pI (sm_pR S0_ 11 0 12 (some cc_)) 11 0 13 (S0_.1 0 (0 + cc_) 16)) 11 0 14 a2_) 11 0 15 a3_) 11 0 16 0)) rfl ?_
        refine sm_T_cal (d1 := 1) (Q1 := vq_196 cc_ (sm_pI (sm_pI (sm_pI (sm_pI (sm_pR S0_ 11 0 12 (some cc_)) 11 0 13 (S0_.1 0 (0 + cc_) 16)) 11 0 14 a2_) 11 0 15 a3_) 11 0 16 0)) rfl rfl (by decide) (vc_196 cc_ (sm_pI (sm_pI (sm_pI (sm_pI (sm_pR S0_ 11 0 12 (some cc_)) 11 0 13 (S0_.1 0 (0 + cc_) 16)) 11 0 14 a2_) 11 0 15 a3_) 11 0 16 0) hIx34_ (by exact hs_)) (fun u_ Sx36_ px39_ => ?_)
        obtain ⟨rfl, hIx37_, hFx38_, px39_⟩ := px39_
        have hFx40_ : ai_fr (sx_W vw_205) S0_ Sx36_ := ai_fr_tr hFx35_ (fr_le hFx38_ rfl)
        refine sm_T_go 4 (c1 := (81, [some (.inr (.inr (some (11, 0)))), some (.inr (.inr (some (2, cc_)))), some (.inl a2_), some (.inl a3_), none], [.inl 0, .inl 0, .inr (.inr (some (108, 0)))], Sx36_)) rfl ?_
        refine sm_T_iast (n := 163) rfl rfl (by omega) (by omega) ?_
        have hIx41_ : gi (sm_aI Sx36_ 108 0 (0 : Int).toNat 0) := gi_aI hIx37_ (show 0 ≤ 0 ∧ 0 ≤ 20000 from ⟨by omega, by omega⟩)
        have hFx42_ : ai_fr (sx_W vw_205) S0_ (sm_aI Sx36_ 108 0 (0 : Int).toNat 0) := ai_fr_tr hFx40_ (ai_fr_aI rfl)
        refine sm_T_go 2 (c1 := (85, [some (.inr (.inr (some (11, 0)))), some (.inr (.inr (some (2, cc_)))), some (.inl a2_), some (.inl a3_), some (.inl 0)], [], sm_aI Sx36_ 108 0 (0 : Int).toNat 0)) rfl ?_
        refine (vl_205 a2_ a3_ cc_ S0_ hs_ h2_ h3_ _) 0 (sm_aI Sx36_ 108 0 (0 : Int).toNat 0) hIx41_ hFx42_ ⟨?_, trivial⟩ (Nat.lt_succ_self _)
        · omega
      · have cx25_ : ¬ ((S0_.1 11 0 13) ≠ (S0_.1 0 (0 + cc_) 16)) := of_decide_eq_false cx25_
        have bx43_ : 0 ≤ S0_.1 11 0 14 ∧ S0_.1 11 0 14 ≤ 4095 := hI_.1 11 0 14 rfl
        refine sm_T_go 3 (c1 := (27, [some (.inr (.inr (some (11, 0)))), some (.inr (.inr (some (2, cc_)))), some (.inl a2_), some (.inl a3_), none], [.inl a2_, .inl (S0_.1 11 0 14)], S0_)) rfl ?_
        refine sm_T_br (a := 1) (z := 12) rfl (fun cx44_ => ?_) (fun cx44_ => ?_)
        · have cx44_ : (S0_.1 11 0 14) ≠ a2_ := of_decide_eq_true cx44_
          have hIx45_ : gi (sm_pR S0_ 11 0 12 (some cc_)) := gi_pR hI_
          have hFx46_ : ai_fr (sx_W vw_205) S0_ (sm_pR S0_ 11 0 12 (some cc_)) := ai_fr_tr hF_ (ai_fr_pR rfl)
          have hIx47_ : gi (sm_pI (sm_pR S0_ 11 0 12 (some cc_)) 11 0 13 (S0_.1 0 (0 + cc_) 16)) := gi_pI hIx45_ (show (-2147483648) ≤ (S0_.1 0 (0 + cc_) 16) ∧ (S0_.1 0 (0 + cc_) 16) ≤ 2147483647 from ⟨by omega, by omega⟩)
          have hFx48_ : ai_fr (sx_W vw_205) S0_ (sm_pI (sm_pR S0_ 11 0 12 (some cc_)) 11 0 13 (S0_.1 0 (0 + cc_) 16)) := ai_fr_tr hFx46_ (ai_fr_pI rfl)
          have hIx49_ : gi (sm_pI (sm_pI (sm_pR S0_ 11 0 12 (some cc_)) 11 0 13 (S0_.1 0 (0 + cc_) 16)) 11 0 14 a2_) := gi_pI hIx47_ (show 0 ≤ a2_ ∧ a2_ ≤ 4095 from ⟨by omega, by omega⟩)
          have hFx50_ : ai_fr (sx_W vw_205) S0_ (sm_pI (sm_pI (sm_pR S0_ 11 0 12 (some cc_)) 11 0 13 (S0_.1 0 (0 + cc_) 16)) 11 0 14 a2_) := ai_fr_tr hFx48_ (ai_fr_pI rfl)
          have hIx51_ : gi (sm_pI (sm_pI (sm_pI (sm_pR S0_ 11 0 12 (some cc_)) 11 0 13 (S0_.1 0 (0 + cc_) 16)) 11 0 14 a2_) 11 0 15 a3_) := gi_pI hIx49_ (show 0 ≤ a3_ ∧ a3_ ≤ 4095 from ⟨by omega, by omega⟩)
          have hFx52_ : ai_fr (sx_W vw_205) S0_ (sm_pI (sm_pI (sm_pI (sm_pR S0_ 11 0 12 (some cc_)) 11 0 13 (S0_.1 0 (0 + cc_) 16)) 11 0 14 a2_) 11 0 15 a3_) := ai_fr_tr hFx50_ (ai_fr_pI rfl)
          have hIx53_ : gi (sm_pI (sm_pI (sm_pI (sm_pI (sm_pR S0_ 11 0 12 (some cc_)) 11 0 13 (S0_.1 0 (0 + cc_) 16)) 11 0 14 a2_) 11 0 15 a3_) 11 0 16 0) := gi_pI hIx51_ (show 0 ≤ 0 ∧ 0 ≤ 1 from ⟨by omega, by omega⟩)
          have hFx54_ : ai_fr (sx_W vw_205) S0_ (sm_pI (sm_pI (sm_pI (sm_pI (sm_pR S0_ 11 0 12 (some cc_)) 11 0 13 (S0_.1 0 (0 + cc_) 16)) 11 0 14 a2_) 11 0 15 a3_) 11 0 16 0) := ai_fr_tr hFx52_ (ai_fr_pI rfl)
          refine sm_T_go 19 (c1 := (72, [some (.inr (.inr (some (11, 0)))), some (.inr (.inr (some (2, cc_)))), some (.inl a2_), some (.inl a3_), none], [.inr (.inr (some (2, cc_))), .inr (.inr (some (11, 0)))], sm_pI (sm_pI (sm_pI (sm_pI (sm_pR S0_ 11 0 12 (some cc_)) 11 0 13 (S0_.1 0 (0 + cc_) 16)) 11 0 14 a2_) 11 0 15 a3_) 11 0 16 0)) rfl ?_
          refine sm_T_cal (d1 := 1) (Q1 := vq_196 cc_ (sm_pI (sm_pI (sm_pI (sm_pI (sm_pR S0_ 11 0 12 (some cc_)) 11 0 13 (S0_.1 0 (0 + cc_) 16)) 11 0 14 a2_) 11 0 15 a3_) 11 0 16 0)) rfl rfl (by decide) (vc_196 cc_ (sm_pI (sm_pI (sm_pI (sm_pI (sm_pR S0_ 11 0 12 (some cc_)) 11 0 13 (S0_.1 0 (0 + cc_) 16)) 11 0 14 a2_) 11 0 15 a3_) 11 0 16 0) hIx53_ (by exact hs_)) (fun u_ Sx55_ px58_ => ?_)
          obtain ⟨rfl, hIx56_, hFx57_, px58_⟩ := px58_
          have hFx59_ : ai_fr (sx_W vw_205) S0_ Sx55_ := ai_fr_tr hFx54_ (fr_le hFx57_ rfl)
          refine sm_T_go 4 (c1 := (81, [some (.inr (.inr (some (11, 0)))), some (.inr (.inr (some (2, cc_)))), some (.inl a2_), some (.inl a3_), none], [.inl 0, .inl 0, .inr (.inr (some (108, 0)))], Sx55_)) rfl ?_
          refine sm_T_iast (n := 163) rfl rfl (by omega) (by omega) ?_
          have hIx60_ : gi (sm_aI Sx55_ 108 0 (0 : Int).toNat 0) := gi_aI hIx56_ (show 0 ≤ 0 ∧ 0 ≤ 20000 from ⟨by omega, by omega⟩)
          have hFx61_ : ai_fr (sx_W vw_205) S0_ (sm_aI Sx55_ 108 0 (0 : Int).toNat 0) := ai_fr_tr hFx59_ (ai_fr_aI rfl)
          refine sm_T_go 2 (c1 := (85, [some (.inr (.inr (some (11, 0)))), some (.inr (.inr (some (2, cc_)))), some (.inl a2_), some (.inl a3_), some (.inl 0)], [], sm_aI Sx55_ 108 0 (0 : Int).toNat 0)) rfl ?_
          refine (vl_205 a2_ a3_ cc_ S0_ hs_ h2_ h3_ _) 0 (sm_aI Sx55_ 108 0 (0 : Int).toNat 0) hIx60_ hFx61_ ⟨?_, trivial⟩ (Nat.lt_succ_self _)
          · omega
        · have cx44_ : ¬ ((S0_.1 11 0 14) ≠ a2_) := of_decide_eq_false cx44_
          have bx62_ : 0 ≤ S0_.1 11 0 15 ∧ S0_.1 11 0 15 ≤ 4095 := hI_.1 11 0 15 rfl
          refine sm_T_go 3 (c1 := (35, [some (.inr (.inr (some (11, 0)))), some (.inr (.inr (some (2, cc_)))), some (.inl a2_), some (.inl a3_), none], [.inl a3_, .inl (S0_.1 11 0 15)], S0_)) rfl ?_
          refine sm_T_br (a := 1) (z := 4) rfl (fun cx63_ => ?_) (fun cx63_ => ?_)
          · have cx63_ : (S0_.1 11 0 15) ≠ a3_ := of_decide_eq_true cx63_
            have hIx64_ : gi (sm_pR S0_ 11 0 12 (some cc_)) := gi_pR hI_
            have hFx65_ : ai_fr (sx_W vw_205) S0_ (sm_pR S0_ 11 0 12 (some cc_)) := ai_fr_tr hF_ (ai_fr_pR rfl)
            have hIx66_ : gi (sm_pI (sm_pR S0_ 11 0 12 (some cc_)) 11 0 13 (S0_.1 0 (0 + cc_) 16)) := gi_pI hIx64_ (show (-2147483648) ≤ (S0_.1 0 (0 + cc_) 16) ∧ (S0_.1 0 (0 + cc_) 16) ≤ 2147483647 from ⟨by omega, by omega⟩)
            have hFx67_ : ai_fr (sx_W vw_205) S0_ (sm_pI (sm_pR S0_ 11 0 12 (some cc_)) 11 0 13 (S0_.1 0 (0 + cc_) 16)) := ai_fr_tr hFx65_ (ai_fr_pI rfl)
            have hIx68_ : gi (sm_pI (sm_pI (sm_pR S0_ 11 0 12 (some cc_)) 11 0 13 (S0_.1 0 (0 + cc_) 16)) 11 0 14 a2_) := gi_pI hIx66_ (show 0 ≤ a2_ ∧ a2_ ≤ 4095 from ⟨by omega, by omega⟩)
            have hFx69_ : ai_fr (sx_W vw_205) S0_ (sm_pI (sm_pI (sm_pR S0_ 11 0 12 (some cc_)) 11 0 13 (S0_.1 0 (0 + cc_) 16)) 11 0 14 a2_) := ai_fr_tr hFx67_ (ai_fr_pI rfl)
            have hIx70_ : gi (sm_pI (sm_pI (sm_pI (sm_pR S0_ 11 0 12 (some cc_)) 11 0 13 (S0_.1 0 (0 + cc_) 16)) 11 0 14 a2_) 11 0 15 a3_) := gi_pI hIx68_ (show 0 ≤ a3_ ∧ a3_ ≤ 4095 from ⟨by omega, by omega⟩)
            have hFx71_ : ai_fr (sx_W vw_205) S0_ (sm_pI (sm_pI (sm_pI (sm_pR S0_ 11 0 12 (some cc_)) 11 0 13 (S0_.1 0 (0 + cc_) 16)) 11 0 14 a2_) 11 0 15 a3_) := ai_fr_tr hFx69_ (ai_fr_pI rfl)
            have hIx72_ : gi (sm_pI (sm_pI (sm_pI (sm_pI (sm_pR S0_ 11 0 12 (some cc_)) 11 0 13 (S0_.1 0 (0 + cc_) 16)) 11 0 14 a2_) 11 0 15 a3_) 11 0 16 0) := gi_pI hIx70_ (show 0 ≤ 0 ∧ 0 ≤ 1 from ⟨by omega, by omega⟩)
            have hFx73_ : ai_fr (sx_W vw_205) S0_ (sm_pI (sm_pI (sm_pI (sm_pI (sm_pR S0_ 11 0 12 (some cc_)) 11 0 13 (S0_.1 0 (0 + cc_) 16)) 11 0 14 a2_) 11 0 15 a3_) 11 0 16 0) := ai_fr_tr hFx71_ (ai_fr_pI rfl)
            refine sm_T_go 19 (c1 := (72, [some (.inr (.inr (some (11, 0)))), some (.inr (.inr (some (2, cc_)))), some (.inl a2_), some (.inl a3_), none], [.inr (.inr (some (2, cc_))), .inr (.inr (some (11, 0)))], sm_pI (sm_pI (sm_pI (sm_pI (sm_pR S0_ 11 0 12 (some cc_)) 11 0 13 (S0_.1 0 (0 + cc_) 16)) 11 0 14 a2_) 11 0 15 a3_) 11 0 16 0)) rfl ?_
            refine sm_T_cal (d1 := 1) (Q1 := vq_196 cc_ (sm_pI (sm_pI (sm_pI (sm_pI (sm_pR S0_ 11 0 12 (some cc_)) 11 0 13 (S0_.1 0 (0 + cc_) 16)) 11 0 14 a2_) 11 0 15 a3_) 11 0 16 0)) rfl rfl (by decide) (vc_196 cc_ (sm_pI (sm_pI (sm_pI (sm_pI (sm_pR S0_ 11 0 12 (some cc_)) 11 0 13 (S0_.1 0 (0 + cc_) 16)) 11 0 14 a2_) 11 0 15 a3_) 11 0 16 0) hIx72_ (by exact hs_)) (fun u_ Sx74_ px77_ => ?_)
            obtain ⟨rfl, hIx75_, hFx76_, px77_⟩ := px77_
            have hFx78_ : ai_fr (sx_W vw_205) S0_ Sx74_ := ai_fr_tr hFx73_ (fr_le hFx76_ rfl)
            refine sm_T_go 4 (c1 := (81, [some (.inr (.inr (some (11, 0)))), some (.inr (.inr (some (2, cc_)))), some (.inl a2_), some (.inl a3_), none], [.inl 0, .inl 0, .inr (.inr (some (108, 0)))], Sx74_)) rfl ?_
            refine sm_T_iast (n := 163) rfl rfl (by omega) (by omega) ?_
            have hIx79_ : gi (sm_aI Sx74_ 108 0 (0 : Int).toNat 0) := gi_aI hIx75_ (show 0 ≤ 0 ∧ 0 ≤ 20000 from ⟨by omega, by omega⟩)
            have hFx80_ : ai_fr (sx_W vw_205) S0_ (sm_aI Sx74_ 108 0 (0 : Int).toNat 0) := ai_fr_tr hFx78_ (ai_fr_aI rfl)
            refine sm_T_go 2 (c1 := (85, [some (.inr (.inr (some (11, 0)))), some (.inr (.inr (some (2, cc_)))), some (.inl a2_), some (.inl a3_), some (.inl 0)], [], sm_aI Sx74_ 108 0 (0 : Int).toNat 0)) rfl ?_
            refine (vl_205 a2_ a3_ cc_ S0_ hs_ h2_ h3_ _) 0 (sm_aI Sx74_ 108 0 (0 : Int).toNat 0) hIx79_ hFx80_ ⟨?_, trivial⟩ (Nat.lt_succ_self _)
            · omega
          · have cx63_ : ¬ ((S0_.1 11 0 15) ≠ a3_) := of_decide_eq_false cx63_
            refine sm_T_rv rfl ⟨_, _, rfl, rfl, hI_, hF_, ?_⟩
            trivial
    · skip
      have hIx81_ : gi (sm_pR S0_ 11 0 12 (some cc_)) := gi_pR hI_
      have hFx82_ : ai_fr (sx_W vw_205) S0_ (sm_pR S0_ 11 0 12 (some cc_)) := ai_fr_tr hF_ (ai_fr_pR rfl)
      have bx83_ : (-2147483648) ≤ S0_.1 0 (0 + cc_) 16 ∧ S0_.1 0 (0 + cc_) 16 ≤ 2147483647 := hI_.1 0 (0 + cc_) 16 rfl
      have hIx84_ : gi (sm_pI (sm_pR S0_ 11 0 12 (some cc_)) 11 0 13 (S0_.1 0 (0 + cc_) 16)) := gi_pI hIx81_ (show (-2147483648) ≤ (S0_.1 0 (0 + cc_) 16) ∧ (S0_.1 0 (0 + cc_) 16) ≤ 2147483647 from ⟨by omega, by omega⟩)
      have hFx85_ : ai_fr (sx_W vw_205) S0_ (sm_pI (sm_pR S0_ 11 0 12 (some cc_)) 11 0 13 (S0_.1 0 (0 + cc_) 16)) := ai_fr_tr hFx82_ (ai_fr_pI rfl)
      have hIx86_ : gi (sm_pI (sm_pI (sm_pR S0_ 11 0 12 (some cc_)) 11 0 13 (S0_.1 0 (0 + cc_) 16)) 11 0 14 a2_) := gi_pI hIx84_ (show 0 ≤ a2_ ∧ a2_ ≤ 4095 from ⟨by omega, by omega⟩)
      have hFx87_ : ai_fr (sx_W vw_205) S0_ (sm_pI (sm_pI (sm_pR S0_ 11 0 12 (some cc_)) 11 0 13 (S0_.1 0 (0 + cc_) 16)) 11 0 14 a2_) := ai_fr_tr hFx85_ (ai_fr_pI rfl)
      have hIx88_ : gi (sm_pI (sm_pI (sm_pI (sm_pR S0_ 11 0 12 (some cc_)) 11 0 13 (S0_.1 0 (0 + cc_) 16)) 11 0 14 a2_) 11 0 15 a3_) := gi_pI hIx86_ (show 0 ≤ a3_ ∧ a3_ ≤ 4095 from ⟨by omega, by omega⟩)
      have hFx89_ : ai_fr (sx_W vw_205) S0_ (sm_pI (sm_pI (sm_pI (sm_pR S0_ 11 0 12 (some cc_)) 11 0 13 (S0_.1 0 (0 + cc_) 16)) 11 0 14 a2_) 11 0 15 a3_) := ai_fr_tr hFx87_ (ai_fr_pI rfl)
      have hIx90_ : gi (sm_pI (sm_pI (sm_pI (sm_pI (sm_pR S0_ 11 0 12 (some cc_)) 11 0 13 (S0_.1 0 (0 + cc_) 16)) 11 0 14 a2_) 11 0 15 a3_) 11 0 16 0) := gi_pI hIx88_ (show 0 ≤ 0 ∧ 0 ≤ 1 from ⟨by omega, by omega⟩)
      have hFx91_ : ai_fr (sx_W vw_205) S0_ (sm_pI (sm_pI (sm_pI (sm_pI (sm_pR S0_ 11 0 12 (some cc_)) 11 0 13 (S0_.1 0 (0 + cc_) 16)) 11 0 14 a2_) 11 0 15 a3_) 11 0 16 0) := ai_fr_tr hFx89_ (ai_fr_pI rfl)
      refine sm_T_go 19 (c1 := (72, [some (.inr (.inr (some (11, 0)))), some (.inr (.inr (some (2, cc_)))), some (.inl a2_), some (.inl a3_), none], [.inr (.inr (some (2, cc_))), .inr (.inr (some (11, 0)))], sm_pI (sm_pI (sm_pI (sm_pI (sm_pR S0_ 11 0 12 (some cc_)) 11 0 13 (S0_.1 0 (0 + cc_) 16)) 11 0 14 a2_) 11 0 15 a3_) 11 0 16 0)) rfl ?_
      refine sm_T_cal (d1 := 1) (Q1 := vq_196 cc_ (sm_pI (sm_pI (sm_pI (sm_pI (sm_pR S0_ 11 0 12 (some cc_)) 11 0 13 (S0_.1 0 (0 + cc_) 16)) 11 0 14 a2_) 11 0 15 a3_) 11 0 16 0)) rfl rfl (by decide) (vc_196 cc_ (sm_pI (sm_pI (sm_pI (sm_pI (sm_pR S0_ 11 0 12 (some cc_)) 11 0 13 (S0_.1 0 (0 + cc_) 16)) 11 0 14 a2_) 11 0 15 a3_) 11 0 16 0) hIx90_ (by exact hs_)) (fun u_ Sx92_ px95_ => ?_)
      obtain ⟨rfl, hIx93_, hFx94_, px95_⟩ := px95_
      have hFx96_ : ai_fr (sx_W vw_205) S0_ Sx92_ := ai_fr_tr hFx91_ (fr_le hFx94_ rfl)
      refine sm_T_go 4 (c1 := (81, [some (.inr (.inr (some (11, 0)))), some (.inr (.inr (some (2, cc_)))), some (.inl a2_), some (.inl a3_), none], [.inl 0, .inl 0, .inr (.inr (some (108, 0)))], Sx92_)) rfl ?_
      refine sm_T_iast (n := 163) rfl rfl (by omega) (by omega) ?_
      have hIx97_ : gi (sm_aI Sx92_ 108 0 (0 : Int).toNat 0) := gi_aI hIx93_ (show 0 ≤ 0 ∧ 0 ≤ 20000 from ⟨by omega, by omega⟩)
      have hFx98_ : ai_fr (sx_W vw_205) S0_ (sm_aI Sx92_ 108 0 (0 : Int).toNat 0) := ai_fr_tr hFx96_ (ai_fr_aI rfl)
      refine sm_T_go 2 (c1 := (85, [some (.inr (.inr (some (11, 0)))), some (.inr (.inr (some (2, cc_)))), some (.inl a2_), some (.inl a3_), some (.inl 0)], [], sm_aI Sx92_ 108 0 (0 : Int).toNat 0)) rfl ?_
      refine (vl_205 a2_ a3_ cc_ S0_ hs_ h2_ h3_ _) 0 (sm_aI Sx92_ 108 0 (0 : Int).toNat 0) hIx97_ hFx98_ ⟨?_, trivial⟩ (Nat.lt_succ_self _)
      · omega
end
/-! 99.zm1h -/
section
/-! Times.changesOf -/
def vw_208 : sx_Wl := ([], [], [])
def vq_208 (a1_ : Int) (S0_ : sm_S) (u_ : Option sm_V) (S1_ : sm_S) : Prop := S0_ = S1_ ∧ ∃ v_ : Int, u_ = some (.inl v_) ∧ (True)
set_option maxHeartbeats 400000 in
theorem vc_208 {sc_ : Nat × (Nat → Int)} (a1_ : Int) (S0_ : sm_S) (hI_ : gi S0_) (h1_ : 0 ≤ a1_ ∧ a1_ ≤ 161) : sm_T (mt_P sc_) 0 208 (0, [some (.inr (.inr (some (11, 0)))), some (.inl a1_)], [], S0_) (fun ro9_ => ∃ u_ S1_, ro9_ = (.inl u_, S1_, 0) ∧ vq_208 a1_ S0_ u_ S1_) := by
  have hF_ : ai_fr (sx_W vw_208) S0_ S0_ := ai_fr_rf
  refine sm_T_go 4 (c1 := (6, [some (.inr (.inr (some (11, 0)))), some (.inl a1_)], [.inl 1, .inl a1_, .inr (.inr (some (108, 0)))], S0_)) rfl ?_
  refine sm_T_bin (w := a1_ + 1) rfl (bi_add (by omega) (by omega) (by omega)) ?_ -- pc_ 6
  refine sm_T_iald (n := 163) rfl rfl (by omega) (by omega) ?_
  have bx1_ : 0 ≤ S0_.2.2.1 108 0 (a1_ + 1).toNat ∧ S0_.2.2.1 108 0 (a1_ + 1).toNat ≤ 20000 := hI_.2 108 0 _
  refine sm_T_go 3 (c1 := (13, [some (.inr (.inr (some (11, 0)))), some (.inl a1_)], [.inl a1_, .inr (.inr (some (108, 0))), .inl (S0_.2.2.1 108 0 (a1_ + 1).toNat)], S0_)) rfl ?_
  refine sm_T_iald (n := 163) rfl rfl (by omega) (by omega) ?_
  have bx2_ : 0 ≤ S0_.2.2.1 108 0 a1_.toNat ∧ S0_.2.2.1 108 0 a1_.toNat ≤ 20000 := hI_.2 108 0 _
  refine sm_T_bin (w := (S0_.2.2.1 108 0 (a1_ + 1).toNat) - (S0_.2.2.1 108 0 a1_.toNat)) rfl (bi_sub (by omega) (by omega) (by omega)) ?_ -- pc_ 14
  refine sm_T_ri rfl ⟨_, _, rfl, rfl, _, rfl, ?_⟩
  trivial
end
/-! 99.zm1i -/
section
/-! Times.valueAt -/
def vw_209 : sx_Wl := ([], [], [])
def vq_209 (a1_ : Int) (a2_ : Int) (S0_ : sm_S) (u_ : Option sm_V) (S1_ : sm_S) : Prop := S0_ = S1_ ∧ ∃ v_ : Int, u_ = some (.inl v_) ∧ (True)
set_option maxHeartbeats 400000 in
theorem vl_209 {sc_ : Nat × (Nat → Int)} (a1_ : Int) (a2_ : Int) (S0_ : sm_S) (h1_ : 0 ≤ a1_ ∧ a1_ ≤ 161) : ∀ nn_ : Nat, (∀ (vl_ : Int) (k_ : Int) (S_ : sm_S), gi S_ → ai_fr (sx_W vw_209) S0_ S_ → ((0 ≤ k_ ∧ k_ ≤ 20000) ∧ (S_ = S0_) ∧ True) → ((30000 - k_).toNat) < nn_ → sm_T (mt_P sc_) 0 209 (15, [some (.inr (.inr (some (11, 0)))), some (.inl a1_), some (.inl a2_), some (.inl vl_), some (.inl k_)], [], S_) (fun ro9_ => ∃ u_ S1_, ro9_ = (.inl u_, S1_, 0) ∧ vq_209 a1_ a2_ S0_ u_ S1_)) := by
  intro nn_
  induction nn_ with
  | zero => exact fun _ _ _ _ _ _ h_ => absurd h_ (Nat.not_lt_zero _)
  | succ nn_ ih_ =>
    rintro vl_ k_ S_ hI_ hF_ ⟨h0_, hS_, -⟩ hm_
    refine sm_T_go 5 (c1 := (23, [some (.inr (.inr (some (11, 0)))), some (.inl a1_), some (.inl a2_), some (.inl vl_), some (.inl k_)], [.inl 1, .inl a1_, .inr (.inr (some (108, 0))), .inl k_], S_)) rfl ?_
    refine sm_T_bin (w := a1_ + 1) rfl (bi_add (by omega) (by omega) (by omega)) ?_ -- pc_ 23
    refine sm_T_iald (n := 163) rfl rfl (by omega) (by omega) ?_
    have bx1_ : 0 ≤ S_.2.2.1 108 0 (a1_ + 1).toNat ∧ S_.2.2.1 108 0 (a1_ + 1).toNat ≤ 20000 := hI_.2 108 0 _
    refine sm_T_br (a := 3) (z := 24) rfl (fun cx2_ => ?_) (fun cx2_ => ?_)
    · have cx2_ : (S_.2.2.1 108 0 (a1_ + 1).toNat) ≤ k_ := of_decide_eq_true cx2_
      refine sm_T_go 1 (c1 := (50, [some (.inr (.inr (some (11, 0)))), some (.inl a1_), some (.inl a2_), some (.inl vl_), some (.inl k_)], [.inl vl_], S_)) rfl ?_
      refine sm_T_ri rfl ⟨_, _, rfl, (by first | rfl | exact hS_.symm), _, rfl, ?_⟩
      trivial
    · have cx2_ : ¬ ((S_.2.2.1 108 0 (a1_ + 1).toNat) ≤ k_) := of_decide_eq_false cx2_
      refine sm_T_go 3 (c1 := (34, [some (.inr (.inr (some (11, 0)))), some (.inl a1_), some (.inl a2_), some (.inl vl_), some (.inl k_)], [.inl k_, .inr (.inr (some (109, 0)))], S_)) rfl ?_
      refine sm_T_iald (n := 20000) rfl rfl (by omega) (by omega) ?_
      have bx3_ : (-2147483648) ≤ S_.2.2.1 109 0 k_.toNat ∧ S_.2.2.1 109 0 k_.toNat ≤ 2147483647 := hI_.2 109 0 _
      refine sm_T_go 1 (c1 := (36, [some (.inr (.inr (some (11, 0)))), some (.inl a1_), some (.inl a2_), some (.inl vl_), some (.inl k_)], [.inl a2_, .inl (S_.2.2.1 109 0 k_.toNat)], S_)) rfl ?_
      refine sm_T_br (a := 4) (z := 13) rfl (fun cx4_ => ?_) (fun cx4_ => ?_)
      · have cx4_ : a2_ < (S_.2.2.1 109 0 k_.toNat) := of_decide_eq_true cx4_
        refine sm_T_go 1 (c1 := (50, [some (.inr (.inr (some (11, 0)))), some (.inl a1_), some (.inl a2_), some (.inl vl_), some (.inl k_)], [.inl vl_], S_)) rfl ?_
        refine sm_T_ri rfl ⟨_, _, rfl, (by first | rfl | exact hS_.symm), _, rfl, ?_⟩
        trivial
      · have cx4_ : ¬ (a2_ < (S_.2.2.1 109 0 k_.toNat)) := of_decide_eq_false cx4_
        refine sm_T_go 2 (c1 := (41, [some (.inr (.inr (some (11, 0)))), some (.inl a1_), some (.inl a2_), some (.inl vl_), some (.inl k_)], [.inl 1, .inl vl_], S_)) rfl ?_
        refine sm_T_bin (w := (i_xor vl_ 1)) rfl rfl ?_ -- pc_ 41
        refine sm_T_go 1 (c1 := (43, [some (.inr (.inr (some (11, 0)))), some (.inl a1_), some (.inl a2_), some (.inl (i_xor vl_ 1)), some (.inl k_)], [], S_)) rfl ?_
        refine sm_T_inc (a := 4) (z := 1) (v := k_) (w := k_ + 1) rfl rfl (by omega) (by omega) (by omega) ?_ -- pc_ 43
        refine sm_T_go 1 (c1 := (15, [some (.inr (.inr (some (11, 0)))), some (.inl a1_), some (.inl a2_), some (.inl (i_xor vl_ 1)), some (.inl (k_ + 1))], [], S_)) rfl ?_
        refine ih_ (i_xor vl_ 1) (k_ + 1) S_ hI_ hF_ ⟨?_, ?_, trivial⟩ ?_
        · omega
        · first | rfl | exact hS_
        · omega
set_option maxHeartbeats 400000 in
theorem vc_209 {sc_ : Nat × (Nat → Int)} (a1_ : Int) (a2_ : Int) (S0_ : sm_S) (hI_ : gi S0_) (h1_ : 0 ≤ a1_ ∧ a1_ ≤ 161) : sm_T (mt_P sc_) 0 209 (0, [some (.inr (.inr (some (11, 0)))), some (.inl a1_), some (.inl a2_), none, none], [], S0_) (fun ro9_ => ∃ u_ S1_, ro9_ = (.inl u_, S1_, 0) ∧ vq_209 a1_ a2_ S0_ u_ S1_) := by
  have hF_ : ai_fr (sx_W vw_209) S0_ S0_ := ai_fr_rf
  refine sm_T_go 3 (c1 := (5, [some (.inr (.inr (some (11, 0)))), some (.inl a1_), some (.inl a2_), none, none], [.inl a1_, .inr (.inr (some (107, 0)))], S0_)) rfl ?_
  refine sm_T_iald (n := 162) rfl rfl (by omega) (by omega) ?_
  have bx1_ : 0 ≤ S0_.2.2.1 107 0 a1_.toNat ∧ S0_.2.2.1 107 0 a1_.toNat ≤ 1 := hI_.2 107 0 _
  refine sm_T_go 4 (c1 := (12, [some (.inr (.inr (some (11, 0)))), some (.inl a1_), some (.inl a2_), some (.inl (S0_.2.2.1 107 0 a1_.toNat)), none], [.inl a1_, .inr (.inr (some (108, 0)))], S0_)) rfl ?_
  refine sm_T_iald (n := 163) rfl rfl (by omega) (by omega) ?_
  have bx2_ : 0 ≤ S0_.2.2.1 108 0 a1_.toNat ∧ S0_.2.2.1 108 0 a1_.toNat ≤ 20000 := hI_.2 108 0 _
  refine sm_T_go 1 (c1 := (15, [some (.inr (.inr (some (11, 0)))), some (.inl a1_), some (.inl a2_), some (.inl (S0_.2.2.1 107 0 a1_.toNat)), some (.inl (S0_.2.2.1 108 0 a1_.toNat))], [], S0_)) rfl ?_
  refine (vl_209 a1_ a2_ S0_ h1_ _) (S0_.2.2.1 107 0 a1_.toNat) (S0_.2.2.1 108 0 a1_.toNat) S0_ hI_ hF_ ⟨?_, ?_, trivial⟩ (Nat.lt_succ_self _)
  · omega
  · first | rfl | exact hS_
end
/-! 99.zm1j -/
section
/-! Times.restTime -/
def vw_210 : sx_Wl := ([], [], [])
def vq_210 (a1_ : Int) (S0_ : sm_S) (u_ : Option sm_V) (S1_ : sm_S) : Prop := S0_ = S1_ ∧ ∃ v_ : Int, u_ = some (.inl v_) ∧ (True)
set_option maxHeartbeats 400000 in
theorem vl_210 {sc_ : Nat × (Nat → Int)} (a1_ : Int) (S0_ : sm_S) (h1_ : 0 ≤ a1_ ∧ a1_ ≤ 162) : ∀ nn_ : Nat, (∀ (ls_ : Int) (k_ : Int) (S_ : sm_S), gi S_ → ai_fr (sx_W vw_210) S0_ S_ → ((0 ≤ k_ ∧ k_ ≤ 20000) ∧ (S_ = S0_) ∧ True) → ((30000 - k_).toNat) < nn_ → sm_T (mt_P sc_) 0 210 (4, [some (.inr (.inr (some (11, 0)))), some (.inl a1_), some (.inl ls_), some (.inl k_)], [], S_) (fun ro9_ => ∃ u_ S1_, ro9_ = (.inl u_, S1_, 0) ∧ vq_210 a1_ S0_ u_ S1_)) := by
  intro nn_
  induction nn_ with
  | zero => exact fun _ _ _ _ _ _ h_ => absurd h_ (Nat.not_lt_zero _)
  | succ nn_ ih_ =>
    rintro ls_ k_ S_ hI_ hF_ ⟨h0_, hS_, -⟩ hm_
    refine sm_T_go 4 (c1 := (10, [some (.inr (.inr (some (11, 0)))), some (.inl a1_), some (.inl ls_), some (.inl k_)], [.inl a1_, .inr (.inr (some (108, 0))), .inl k_], S_)) rfl ?_
    refine sm_T_iald (n := 163) rfl rfl (by omega) (by omega) ?_
    have bx1_ : 0 ≤ S_.2.2.1 108 0 a1_.toNat ∧ S_.2.2.1 108 0 a1_.toNat ≤ 20000 := hI_.2 108 0 _
    refine sm_T_br (a := 3) (z := 20) rfl (fun cx2_ => ?_) (fun cx2_ => ?_)
    · have cx2_ : (S_.2.2.1 108 0 a1_.toNat) ≤ k_ := of_decide_eq_true cx2_
      refine sm_T_go 1 (c1 := (32, [some (.inr (.inr (some (11, 0)))), some (.inl a1_), some (.inl ls_), some (.inl k_)], [.inl ls_], S_)) rfl ?_
      refine sm_T_ri rfl ⟨_, _, rfl, (by first | rfl | exact hS_.symm), _, rfl, ?_⟩
      trivial
    · have cx2_ : ¬ ((S_.2.2.1 108 0 a1_.toNat) ≤ k_) := of_decide_eq_false cx2_
      refine sm_T_go 4 (c1 := (20, [some (.inr (.inr (some (11, 0)))), some (.inl a1_), some (.inl ls_), some (.inl k_)], [.inl k_, .inr (.inr (some (109, 0))), .inl ls_], S_)) rfl ?_
      refine sm_T_iald (n := 20000) rfl rfl (by omega) (by omega) ?_
      have bx3_ : (-2147483648) ≤ S_.2.2.1 109 0 k_.toNat ∧ S_.2.2.1 109 0 k_.toNat ≤ 2147483647 := hI_.2 109 0 _
      refine sm_T_nt (u := some (.inl (sm_mx ls_ (S_.2.2.1 109 0 k_.toNat)))) (S1 := S_) rfl rfl rfl ?_
      have bx4_ := sm_mx_d ls_ (S_.2.2.1 109 0 k_.toNat)
      refine sm_T_go 1 (c1 := (25, [some (.inr (.inr (some (11, 0)))), some (.inl a1_), some (.inl (sm_mx ls_ (S_.2.2.1 109 0 k_.toNat))), some (.inl k_)], [], S_)) rfl ?_
      refine sm_T_inc (a := 3) (z := 1) (v := k_) (w := k_ + 1) rfl rfl (by omega) (by omega) (by omega) ?_ -- pc_ 25
      refine sm_T_go 1 (c1 := (4, [some (.inr (.inr (some (11, 0)))), some (.inl a1_), some (.inl (sm_mx ls_ (S_.2.2.1 109 0 k_.toNat))), some (.inl (k_ + 1))], [], S_)) rfl ?_
      refine ih_ (sm_mx ls_ (S_.2.2.1 109 0 k_.toNat)) (k_ + 1) S_ hI_ hF_ ⟨?_, ?_, trivial⟩ ?_
      · omega
      · first | rfl | exact hS_
      · omega
set_option maxHeartbeats 400000 in
theorem vc_210 {sc_ : Nat × (Nat → Int)} (a1_ : Int) (S0_ : sm_S) (hI_ : gi S0_) (h1_ : 0 ≤ a1_ ∧ a1_ ≤ 162) : sm_T (mt_P sc_) 0 210 (0, [some (.inr (.inr (some (11, 0)))), some (.inl a1_), none, none], [], S0_) (fun ro9_ => ∃ u_ S1_, ro9_ = (.inl u_, S1_, 0) ∧ vq_210 a1_ S0_ u_ S1_) := by
  have hF_ : ai_fr (sx_W vw_210) S0_ S0_ := ai_fr_rf
  refine sm_T_go 4 (c1 := (4, [some (.inr (.inr (some (11, 0)))), some (.inl a1_), some (.inl 0), some (.inl 0)], [], S0_)) rfl ?_
  refine (vl_210 a1_ S0_ h1_ _) 0 0 S0_ hI_ hF_ ⟨?_, ?_, trivial⟩ (Nat.lt_succ_self _)
  · omega
  · first | rfl | exact hS_
end
/-! 99.zm2a -/
section
/-! paths: beginnings; written by wip/p55/gen/vg -/

/-! paths -/
def tsl (z_ r_ : Nat → Int) (s_ : Nat) : Prop := 1 ≤ z_ s_ ∧ z_ s_ ≤ 152 ∧ r_ (152 * s_) < 12 ∧ (∀ j_ : Nat, (j_ : Int) < z_ s_ - 1 → r_ (152 * s_ + j_) < 162) ∧ (r_ (152 * s_ + (z_ s_ - 1).toNat) < 162 ∨ 10000 ≤ r_ (152 * s_ + (z_ s_ - 1).toNat))
def tph (z_ r_ o_ : Nat → Int) (k_ h_ : Int) : Prop := ∀ i_ : Nat, (i_ : Int) ≤ k_ → (i_ : Int) ≠ h_ → tsl z_ r_ (o_ i_).toNat
def tpo (S_ : sm_S) : Prop := S_.1 11 0 5 ≤ 40 ∧ tph (S_.2.2.1 104 0) (S_.2.2.1 105 0) (S_.2.2.1 102 0) (S_.1 11 0 5) (S_.1 11 0 5)
def ttr (S_ : sm_S) : Prop := (∀ j_ : Nat, (j_ : Int) < S_.1 11 0 11 → S_.2.2.1 106 0 j_ < 162) ∧ (0 < S_.1 11 0 11 → S_.2.2.1 106 0 0 < 12)
theorem tph_mv {z_ r_ o_ o'_ : Nat → Int} {k_ h_ : Int} (g_ : tph z_ r_ o_ k_ h_) (h0_ : 1 ≤ h_ ∧ h_ ≤ k_) (e_ : ∀ i_, o'_ i_ = if i_ = h_.toNat then o_ (h_ - 1).toNat else o_ i_) : tph z_ r_ o'_ k_ (h_ - 1) := by
  intro i_ hi_ hn_
  rw [e_]
  by_cases y_ : i_ = h_.toNat
  · rw [if_pos y_]; exact g_ (h_ - 1).toNat (by omega) (by omega)
  · rw [if_neg y_]; exact g_ i_ hi_ (by omega)
theorem tph_in {z_ r_ o_ o'_ : Nat → Int} {k_ h_ q_ : Int} {s_ : Int} (g_ : tph z_ r_ o_ k_ h_) (hs_ : tsl z_ r_ s_.toNat) (h0_ : 0 ≤ h_ ∧ h_ ≤ k_) (e_ : ∀ i_, o'_ i_ = if i_ = h_.toNat then s_ else o_ i_) (hq_ : q_ ≤ k_ + 1) : tph z_ r_ o'_ q_ q_ := by
  intro i_ hi_ hn_
  rw [e_]
  by_cases y_ : i_ = h_.toNat
  · rw [if_pos y_]; exact hs_
  · rw [if_neg y_]; exact g_ i_ (by omega) (by omega)
/-- what a_ slot that is_ written anew leaves to_ the_ others -/
theorem tsl_ot {z_ z'_ r_ r'_ : Nat → Int} {s_ t_ : Nat} (h_ : tsl z_ r_ s_) (ne_ : s_ ≠ t_) (ez_ : ∀ i_, i_ ≠ t_ → z'_ i_ = z_ i_) (er : ∀ i_, (i_ < 152 * t_ ∨ 152 * t_ + 152 ≤ i_) → r'_ i_ = r_ i_) : tsl z'_ r'_ s_ := by
  obtain ⟨a_, b_, c_, d_, e_⟩ := h_
  have z1_ := ez_ s_ ne_
  have q_ : ∀ j_ : Nat, j_ < 152 → r'_ (152 * s_ + j_) = r_ (152 * s_ + j_) := fun j_ hj_ => er _ (by omega)
  refine ⟨by omega, by omega, ?_, fun j_ hj_ => ?_, ?_⟩
  · have w_ := q_ 0 (by omega)
    rw [Nat.add_zero] at w_
    rw [w_]; exact c_
  · rw [q_ j_ (by omega)]; exact d_ j_ (by omega)
  · rw [z1_, q_ _ (by omega)]; exact e_
/-- a_ slot written: the_ trail and a_ net_ -/
theorem tsl_nw {z'_ r'_ tr_ : Nat → Int} {s_ : Nat} {n_ a_ : Int} (n0_ : 0 ≤ n_ ∧ n_ ≤ 151) (ez_ : z'_ s_ = n_ + 1) (e1_ : ∀ j_ : Nat, (j_ : Int) < n_ → r'_ (152 * s_ + j_) = tr_ j_) (e2_ : r'_ (152 * s_ + n_.toNat) = a_) (h1_ : ∀ j_ : Nat, (j_ : Int) < n_ → tr_ j_ < 162) (h2_ : 0 < n_ → tr_ 0 < 12) (h3_ : n_ = 0 → a_ < 12) (h4_ : a_ < 162 ∨ 10000 ≤ a_) : tsl z'_ r'_ s_ := by
  refine ⟨by omega, by omega, ?_, fun j_ hj_ => ?_, ?_⟩
  · by_cases y_ : n_ = 0
    · have w_ := e2_
      rw [y_, show (0 : Int).toNat = 0 from rfl, Nat.add_zero] at w_
      rw [w_]; exact h3_ y_
    · have w_ := e1_ 0 (by omega)
      rw [Nat.add_zero] at w_
      rw [w_]; exact h2_ (by omega)
  · rw [e1_ j_ (by omega)]; exact h1_ j_ (by omega)
  · rw [ez_, show (n_ + 1 - 1).toNat = n_.toNat by omega, e2_]; exact h4_
theorem cp_at {f_ g_ : Nat → Int} {a_ b_ n_ k_ : Nat} (h_ : b_ ≤ k_) (h2_ : k_ < b_ + n_) : sm_cp f_ g_ a_ b_ n_ k_ = f_ (a_ + (k_ - b_)) := by
  unfold sm_cp
  rw [if_pos ⟨h_, h2_⟩]
theorem cp_ot {f_ g_ : Nat → Int} {a_ b_ n_ k_ : Nat} (h_ : ¬ (b_ ≤ k_ ∧ k_ < b_ + n_)) : sm_cp f_ g_ a_ b_ n_ k_ = g_ k_ := by
  unfold sm_cp
  rw [if_neg h_]
end
/-! 99.zm2b -/
section
/-! Times.comesBefore -/
def vw_204 : sx_Wl := ([], [], [])
def vq_204 (a1_ : Int) (a2_ : Int) (S0_ : sm_S) (u_ : Option sm_V) (S1_ : sm_S) : Prop := S0_ = S1_ ∧ ∃ v_ : Int, u_ = some (.inl v_) ∧ (0 ≤ v_ ∧ v_ ≤ 1)
set_option maxHeartbeats 400000 in
theorem vl_204 {sc_ : Nat × (Nat → Int)} (a1_ : Int) (a2_ : Int) (S0_ : sm_S) (h1_ : 0 ≤ a1_ ∧ a1_ ≤ 40) (h2_ : 0 ≤ a2_ ∧ a2_ ≤ 40) : ∀ nn_ : Nat, (∀ (sh_ : Int) (k_ : Int) (S_ : sm_S), gi S_ → ai_fr (sx_W vw_204) S0_ S_ → ((0 ≤ k_ ∧ k_ ≤ 152 ∧ 0 ≤ sh_ ∧ sh_ ≤ 152) ∧ (S_ = S0_) ∧ True) → ((500 - k_).toNat) < nn_ → sm_T (mt_P sc_) 0 204 (55, [some (.inr (.inr (some (11, 0)))), some (.inl a1_), some (.inl a2_), some (.inl sh_), some (.inl k_), none, none], [], S_) (fun ro9_ => ∃ u_ S1_, ro9_ = (.inl u_, S1_, 0) ∧ vq_204 a1_ a2_ S0_ u_ S1_)) := by
  intro nn_
  induction nn_ with
  | zero => exact fun _ _ _ _ _ _ h_ => absurd h_ (Nat.not_lt_zero _)
  | succ nn_ ih_ =>
    rintro sh_ k_ S_ hI_ hF_ ⟨h0_, hS_, -⟩ hm_
    refine sm_T_go 2 (c1 := (58, [some (.inr (.inr (some (11, 0)))), some (.inl a1_), some (.inl a2_), some (.inl sh_), some (.inl k_), none, none], [.inl sh_, .inl k_], S_)) rfl ?_
    refine sm_T_br (a := 3) (z := 59) rfl (fun cx1_ => ?_) (fun cx1_ => ?_)
    · have cx1_ : sh_ ≤ k_ := of_decide_eq_true cx1_
      refine sm_T_go 3 (c1 := (122, [some (.inr (.inr (some (11, 0)))), some (.inl a1_), some (.inl a2_), some (.inl sh_), some (.inl k_), none, none], [.inl a1_, .inr (.inr (some (104, 0)))], S_)) rfl ?_
      refine sm_T_iald (n := 41) rfl rfl (by omega) (by omega) ?_
      have bx2_ : 0 ≤ S_.2.2.1 104 0 a1_.toNat ∧ S_.2.2.1 104 0 a1_.toNat ≤ 152 := hI_.2 104 0 _
      refine sm_T_go 3 (c1 := (128, [some (.inr (.inr (some (11, 0)))), some (.inl a1_), some (.inl a2_), some (.inl sh_), some (.inl k_), none, none], [.inl a2_, .inr (.inr (some (104, 0))), .inl (S_.2.2.1 104 0 a1_.toNat)], S_)) rfl ?_
      refine sm_T_iald (n := 41) rfl rfl (by omega) (by omega) ?_
      have bx3_ : 0 ≤ S_.2.2.1 104 0 a2_.toNat ∧ S_.2.2.1 104 0 a2_.toNat ≤ 152 := hI_.2 104 0 _
      refine sm_T_br (a := 3) (z := 7) rfl (fun cx4_ => ?_) (fun cx4_ => ?_)
      · have cx4_ : (S_.2.2.1 104 0 a2_.toNat) ≤ (S_.2.2.1 104 0 a1_.toNat) := of_decide_eq_true cx4_
        refine sm_T_go 1 (c1 := (137, [some (.inr (.inr (some (11, 0)))), some (.inl a1_), some (.inl a2_), some (.inl sh_), some (.inl k_), none, none], [.inl 0], S_)) rfl ?_
        refine sm_T_rz rfl (by omega) ⟨_, _, rfl, (by first | rfl | exact hS_.symm), _, rfl, ?_⟩
        omega
      · have cx4_ : ¬ ((S_.2.2.1 104 0 a2_.toNat) ≤ (S_.2.2.1 104 0 a1_.toNat)) := of_decide_eq_false cx4_
        refine sm_T_go 2 (c1 := (137, [some (.inr (.inr (some (11, 0)))), some (.inl a1_), some (.inl a2_), some (.inl sh_), some (.inl k_), none, none], [.inl 1], S_)) rfl ?_
        refine sm_T_rz rfl (by omega) ⟨_, _, rfl, (by first | rfl | exact hS_.symm), _, rfl, ?_⟩
        omega
    · have cx1_ : ¬ (sh_ ≤ k_) := of_decide_eq_false cx1_
      refine sm_T_go 4 (c1 := (69, [some (.inr (.inr (some (11, 0)))), some (.inl a1_), some (.inl a2_), some (.inl sh_), some (.inl k_), none, none], [.inl 152, .inl a1_, .inr (.inr (some (105, 0)))], S_)) rfl ?_
      refine sm_T_bin (w := 152 * a1_) rfl (bi_mul (by omega) (by omega) (by omega)) ?_ -- pc_ 69
      refine sm_T_go 1 (c1 := (72, [some (.inr (.inr (some (11, 0)))), some (.inl a1_), some (.inl a2_), some (.inl sh_), some (.inl k_), none, none], [.inl k_, .inl (152 * a1_), .inr (.inr (some (105, 0)))], S_)) rfl ?_
      refine sm_T_bin (w := 152 * a1_ + k_) rfl (bi_add (by omega) (by omega) (by omega)) ?_ -- pc_ 72
      refine sm_T_iald (n := 6232) rfl rfl (by omega) (by omega) ?_
      have bx5_ : 0 ≤ S_.2.2.1 105 0 (152 * a1_ + k_).toNat ∧ S_.2.2.1 105 0 (152 * a1_ + k_).toNat ≤ 10161 := hI_.2 105 0 _
      refine sm_T_go 5 (c1 := (84, [some (.inr (.inr (some (11, 0)))), some (.inl a1_), some (.inl a2_), some (.inl sh_), some (.inl k_), some (.inl (S_.2.2.1 105 0 (152 * a1_ + k_).toNat)), none], [.inl 152, .inl a2_, .inr (.inr (some (105, 0)))], S_)) rfl ?_
      refine sm_T_bin (w := 152 * a2_) rfl (bi_mul (by omega) (by omega) (by omega)) ?_ -- pc_ 84
      refine sm_T_go 1 (c1 := (87, [some (.inr (.inr (some (11, 0)))), some (.inl a1_), some (.inl a2_), some (.inl sh_), some (.inl k_), some (.inl (S_.2.2.1 105 0 (152 * a1_ + k_).toNat)), none], [.inl k_, .inl (152 * a2_), .inr (.inr (some (105, 0)))], S_)) rfl ?_
      refine sm_T_bin (w := 152 * a2_ + k_) rfl (bi_add (by omega) (by omega) (by omega)) ?_ -- pc_ 87
      refine sm_T_iald (n := 6232) rfl rfl (by omega) (by omega) ?_
      have bx6_ : 0 ≤ S_.2.2.1 105 0 (152 * a2_ + k_).toNat ∧ S_.2.2.1 105 0 (152 * a2_ + k_).toNat ≤ 10161 := hI_.2 105 0 _
      refine sm_T_go 3 (c1 := (95, [some (.inr (.inr (some (11, 0)))), some (.inl a1_), some (.inl a2_), some (.inl sh_), some (.inl k_), some (.inl (S_.2.2.1 105 0 (152 * a1_ + k_).toNat)), some (.inl (S_.2.2.1 105 0 (152 * a2_ + k_).toNat))], [.inl (S_.2.2.1 105 0 (152 * a2_ + k_).toNat), .inl (S_.2.2.1 105 0 (152 * a1_ + k_).toNat)], S_)) rfl ?_
      refine sm_T_br (a := 0) (z := 16) rfl (fun cx7_ => ?_) (fun cx7_ => ?_)
      · have cx7_ : (S_.2.2.1 105 0 (152 * a1_ + k_).toNat) = (S_.2.2.1 105 0 (152 * a2_ + k_).toNat) := of_decide_eq_true cx7_
        refine sm_T_inc (a := 4) (z := 1) (v := k_) (w := k_ + 1) rfl rfl (by omega) (by omega) (by omega) ?_ -- pc_ 111
        refine sm_T_go 1 (c1 := (55, [some (.inr (.inr (some (11, 0)))), some (.inl a1_), some (.inl a2_), some (.inl sh_), some (.inl (k_ + 1)), some (.inl (S_.2.2.1 105 0 (152 * a1_ + k_).toNat)), some (.inl (S_.2.2.1 105 0 (152 * a2_ + k_).toNat))], [], S_)) rfl ?_
        refine sm_T_wk [some (.inr (.inr (some (11, 0)))), some (.inl a1_), some (.inl a2_), some (.inl sh_), some (.inl (k_ + 1)), none, none] (by exact ⟨rfl, rfl, rfl, rfl, rfl, trivial⟩) ?_
        refine ih_ sh_ (k_ + 1) S_ hI_ hF_ ⟨?_, ?_, trivial⟩ ?_
        · omega
        · first | rfl | exact hS_
        · omega
      · have cx7_ : ¬ ((S_.2.2.1 105 0 (152 * a1_ + k_).toNat) = (S_.2.2.1 105 0 (152 * a2_ + k_).toNat)) := of_decide_eq_false cx7_
        refine sm_T_go 2 (c1 := (102, [some (.inr (.inr (some (11, 0)))), some (.inl a1_), some (.inl a2_), some (.inl sh_), some (.inl k_), some (.inl (S_.2.2.1 105 0 (152 * a1_ + k_).toNat)), some (.inl (S_.2.2.1 105 0 (152 * a2_ + k_).toNat))], [.inl (S_.2.2.1 105 0 (152 * a2_ + k_).toNat), .inl (S_.2.2.1 105 0 (152 * a1_ + k_).toNat)], S_)) rfl ?_
        refine sm_T_br (a := 3) (z := 7) rfl (fun cx8_ => ?_) (fun cx8_ => ?_)
        · have cx8_ : (S_.2.2.1 105 0 (152 * a2_ + k_).toNat) ≤ (S_.2.2.1 105 0 (152 * a1_ + k_).toNat) := of_decide_eq_true cx8_
          refine sm_T_go 1 (c1 := (110, [some (.inr (.inr (some (11, 0)))), some (.inl a1_), some (.inl a2_), some (.inl sh_), some (.inl k_), some (.inl (S_.2.2.1 105 0 (152 * a1_ + k_).toNat)), some (.inl (S_.2.2.1 105 0 (152 * a2_ + k_).toNat))], [.inl 0], S_)) rfl ?_
          refine sm_T_rz rfl (by omega) ⟨_, _, rfl, (by first | rfl | exact hS_.symm), _, rfl, ?_⟩
          omega
        · have cx8_ : ¬ ((S_.2.2.1 105 0 (152 * a2_ + k_).toNat) ≤ (S_.2.2.1 105 0 (152 * a1_ + k_).toNat)) := of_decide_eq_false cx8_
          refine sm_T_go 2 (c1 := (110, [some (.inr (.inr (some (11, 0)))), some (.inl a1_), some (.inl a2_), some (.inl sh_), some (.inl k_), some (.inl (S_.2.2.1 105 0 (152 * a1_ + k_).toNat)), some (.inl (S_.2.2.1 105 0 (152 * a2_ + k_).toNat))], [.inl 1], S_)) rfl ?_
          refine sm_T_rz rfl (by omega) ⟨_, _, rfl, (by first | rfl | exact hS_.symm), _, rfl, ?_⟩
          omega
set_option maxHeartbeats 400000 in
theorem vc_204 {sc_ : Nat × (Nat → Int)} (a1_ : Int) (a2_ : Int) (S0_ : sm_S) (hI_ : gi S0_) (h1_ : 0 ≤ a1_ ∧ a1_ ≤ 40) (h2_ : 0 ≤ a2_ ∧ a2_ ≤ 40) : sm_T (mt_P sc_) 0 204 (0, [some (.inr (.inr (some (11, 0)))), some (.inl a1_), some (.inl a2_), none, none, none, none], [], S0_) (fun ro9_ => ∃ u_ S1_, ro9_ = (.inl u_, S1_, 0) ∧ vq_204 a1_ a2_ S0_ u_ S1_) := by
  have hF_ : ai_fr (sx_W vw_204) S0_ S0_ := ai_fr_rf
  refine sm_T_go 3 (c1 := (5, [some (.inr (.inr (some (11, 0)))), some (.inl a1_), some (.inl a2_), none, none, none, none], [.inl a1_, .inr (.inr (some (103, 0)))], S0_)) rfl ?_
  refine sm_T_iald (n := 41) rfl rfl (by omega) (by omega) ?_
  have bx1_ : (-2147483648) ≤ S0_.2.2.1 103 0 a1_.toNat ∧ S0_.2.2.1 103 0 a1_.toNat ≤ 2147483647 := hI_.2 103 0 _
  refine sm_T_go 3 (c1 := (11, [some (.inr (.inr (some (11, 0)))), some (.inl a1_), some (.inl a2_), none, none, none, none], [.inl a2_, .inr (.inr (some (103, 0))), .inl (S0_.2.2.1 103 0 a1_.toNat)], S0_)) rfl ?_
  refine sm_T_iald (n := 41) rfl rfl (by omega) (by omega) ?_
  have bx2_ : (-2147483648) ≤ S0_.2.2.1 103 0 a2_.toNat ∧ S0_.2.2.1 103 0 a2_.toNat ≤ 2147483647 := hI_.2 103 0 _
  refine sm_T_br (a := 0) (z := 24) rfl (fun cx3_ => ?_) (fun cx3_ => ?_)
  · have cx3_ : (S0_.2.2.1 103 0 a1_.toNat) = (S0_.2.2.1 103 0 a2_.toNat) := of_decide_eq_true cx3_
    refine sm_T_go 3 (c1 := (41, [some (.inr (.inr (some (11, 0)))), some (.inl a1_), some (.inl a2_), none, none, none, none], [.inl a1_, .inr (.inr (some (104, 0)))], S0_)) rfl ?_
    refine sm_T_iald (n := 41) rfl rfl (by omega) (by omega) ?_
    have bx4_ : 0 ≤ S0_.2.2.1 104 0 a1_.toNat ∧ S0_.2.2.1 104 0 a1_.toNat ≤ 152 := hI_.2 104 0 _
    refine sm_T_go 3 (c1 := (47, [some (.inr (.inr (some (11, 0)))), some (.inl a1_), some (.inl a2_), none, none, none, none], [.inl a2_, .inr (.inr (some (104, 0))), .inl (S0_.2.2.1 104 0 a1_.toNat)], S0_)) rfl ?_
    refine sm_T_iald (n := 41) rfl rfl (by omega) (by omega) ?_
    have bx5_ : 0 ≤ S0_.2.2.1 104 0 a2_.toNat ∧ S0_.2.2.1 104 0 a2_.toNat ≤ 152 := hI_.2 104 0 _
    refine sm_T_nt (u := some (.inl (sm_mn (S0_.2.2.1 104 0 a1_.toNat) (S0_.2.2.1 104 0 a2_.toNat)))) (S1 := S0_) rfl rfl rfl ?_
    have bx6_ := sm_mn_d (S0_.2.2.1 104 0 a1_.toNat) (S0_.2.2.1 104 0 a2_.toNat)
    refine sm_T_go 3 (c1 := (55, [some (.inr (.inr (some (11, 0)))), some (.inl a1_), some (.inl a2_), some (.inl (sm_mn (S0_.2.2.1 104 0 a1_.toNat) (S0_.2.2.1 104 0 a2_.toNat))), some (.inl 0), none, none], [], S0_)) rfl ?_
    refine (vl_204 a1_ a2_ S0_ h1_ h2_ _) (sm_mn (S0_.2.2.1 104 0 a1_.toNat) (S0_.2.2.1 104 0 a2_.toNat)) 0 S0_ hI_ hF_ ⟨?_, ?_, trivial⟩ (Nat.lt_succ_self _)
    · omega
    · first | rfl | exact hS_
  · have cx3_ : ¬ ((S0_.2.2.1 103 0 a1_.toNat) = (S0_.2.2.1 103 0 a2_.toNat)) := of_decide_eq_false cx3_
    refine sm_T_go 3 (c1 := (20, [some (.inr (.inr (some (11, 0)))), some (.inl a1_), some (.inl a2_), none, none, none, none], [.inl a1_, .inr (.inr (some (103, 0)))], S0_)) rfl ?_
    refine sm_T_iald (n := 41) rfl rfl (by omega) (by omega) ?_
    refine sm_T_go 3 (c1 := (26, [some (.inr (.inr (some (11, 0)))), some (.inl a1_), some (.inl a2_), none, none, none, none], [.inl a2_, .inr (.inr (some (103, 0))), .inl (S0_.2.2.1 103 0 a1_.toNat)], S0_)) rfl ?_
    refine sm_T_iald (n := 41) rfl rfl (by omega) (by omega) ?_
    refine sm_T_br (a := 5) (z := 7) rfl (fun cx7_ => ?_) (fun cx7_ => ?_)
    · have cx7_ : (S0_.2.2.1 103 0 a1_.toNat) ≤ (S0_.2.2.1 103 0 a2_.toNat) := of_decide_eq_true cx7_
      refine sm_T_go 1 (c1 := (35, [some (.inr (.inr (some (11, 0)))), some (.inl a1_), some (.inl a2_), none, none, none, none], [.inl 0], S0_)) rfl ?_
      refine sm_T_rz rfl (by omega) ⟨_, _, rfl, (by first | rfl | exact hS_.symm), _, rfl, ?_⟩
      omega
    · have cx7_ : ¬ ((S0_.2.2.1 103 0 a1_.toNat) ≤ (S0_.2.2.1 103 0 a2_.toNat)) := of_decide_eq_false cx7_
      refine sm_T_go 2 (c1 := (35, [some (.inr (.inr (some (11, 0)))), some (.inl a1_), some (.inl a2_), none, none, none, none], [.inl 1], S0_)) rfl ?_
      refine sm_T_rz rfl (by omega) ⟨_, _, rfl, (by first | rfl | exact hS_.symm), _, rfl, ?_⟩
      omega
end
/-! 99.zm2c -/
section
/-! Times.offer -/
def vw_203 : sx_Wl := ([(11, 5)], [102, 103, 104, 105], [])
def vq_203 (a1_ : Int) (a2_ : Int) (a3_ : Int) (S0_ : sm_S) (u_ : Option sm_V) (S1_ : sm_S) : Prop := u_ = none ∧ gi S1_ ∧ ai_fr (sx_W vw_203) S0_ S1_ ∧ (tpo S1_)
set_option maxHeartbeats 2000000 in
theorem vl_203 {sc_ : Nat × (Nat → Int)} (a1_ : Int) (a2_ : Int) (a3_ : Int) (S0_ : sm_S) (hp_ : tpo S0_) (ht_ : ttr S0_) (h1_ : (0 ≤ a1_ ∧ a1_ ≤ 10161) ∧ (a1_ < 162 ∨ 10000 ≤ a1_)) (hz_ : S0_.1 11 0 11 = 0 → a1_ < 12) : ∀ nn_ : Nat, (∀ (sl_ : Int) (a9_ : Int) (S_ : sm_S), gi S_ → ai_fr (sx_W vw_203) S0_ S_ → ((0 ≤ sl_ ∧ sl_ ≤ 40 ∧ 0 ≤ a9_ ∧ a9_ ≤ S_.1 11 0 5 ∧ S_.1 11 0 5 ≤ 40) ∧ (tsl (S_.2.2.1 104 0) (S_.2.2.1 105 0) sl_.toNat) ∧ (tph (S_.2.2.1 104 0) (S_.2.2.1 105 0) (S_.2.2.1 102 0) (S_.1 11 0 5) a9_) ∧ True) → ((100 + a9_).toNat) < nn_ → sm_T (mt_P sc_) 1 203 (95, [some (.inr (.inr (some (11, 0)))), some (.inl a1_), some (.inl a2_), some (.inl a3_), some (.inl sl_), some (.inl a9_)], [], S_) (fun ro9_ => ∃ u_ S1_, ro9_ = (.inl u_, S1_, 0) ∧ vq_203 a1_ a2_ a3_ S0_ u_ S1_)) := by
  intro nn_
  induction nn_ with
  | zero => exact fun _ _ _ _ _ _ h_ => absurd h_ (Nat.not_lt_zero _)
  | succ nn_ ih_ =>
    rintro sl_ a9_ S_ hI_ hF_ ⟨h0_, hs_, hh_, -⟩ hm_
    have cp_ : 0 ≤ S_.1 11 0 5 ∧ S_.1 11 0 5 ≤ 41 := hI_.1 11 0 5 rfl
    refine sm_T_go 1 (c1 := (97, [some (.inr (.inr (some (11, 0)))), some (.inl a1_), some (.inl a2_), some (.inl a3_), some (.inl sl_), some (.inl a9_)], [.inl a9_], S_)) rfl ?_
    refine sm_T_b0 (a := 5) (z := 43) rfl (fun cx1_ => ?_) (fun cx1_ => ?_)
    · have cx1_ : a9_ ≤ 0 := of_decide_eq_true cx1_
      refine sm_T_go 4 (c1 := (148, [some (.inr (.inr (some (11, 0)))), some (.inl a1_), some (.inl a2_), some (.inl a3_), some (.inl sl_), some (.inl a9_)], [.inl sl_, .inl a9_, .inr (.inr (some (102, 0)))], S_)) rfl ?_
      refine sm_T_iast (n := 41) rfl rfl (by omega) (by omega) ?_
      have hIx2_ : gi (sm_aI S_ 102 0 a9_.toNat sl_) := gi_aI hI_ (show 0 ≤ sl_ ∧ sl_ ≤ 40 from ⟨by omega, by omega⟩)
      have hFx3_ : ai_fr (sx_W vw_203) S0_ (sm_aI S_ 102 0 a9_.toNat sl_) := ai_fr_tr hF_ (ai_fr_aI rfl)
      have bx4_ : 0 ≤ S_.1 11 0 5 ∧ S_.1 11 0 5 ≤ 41 := hI_.1 11 0 5 rfl
      refine sm_T_go 3 (c1 := (155, [some (.inr (.inr (some (11, 0)))), some (.inl a1_), some (.inl a2_), some (.inl a3_), some (.inl sl_), some (.inl a9_)], [.inl 40, .inl (S_.1 11 0 5)], sm_aI S_ 102 0 a9_.toNat sl_)) rfl ?_
      refine sm_T_br (a := 3) (z := 13) rfl (fun cx5_ => ?_) (fun cx5_ => ?_)
      · have cx5_ : 40 ≤ (S_.1 11 0 5) := of_decide_eq_true cx5_
        refine sm_T_rv rfl ⟨_, _, rfl, rfl, hIx2_, hFx3_, ?_⟩
        refine ⟨?_, ?_⟩
        · first | (show S_.1 11 0 5 ≤ 40; omega) | (show S_.1 11 0 5 + 1 ≤ 40; omega)
        · first | exact tph_in (q_ := S_.1 11 0 5) hh_ hs_ (by omega) (fun i_ => rd_eq) (by omega) | exact tph_in (q_ := S_.1 11 0 5 + 1) hh_ hs_ (by omega) (fun i_ => by rw [rd_fa, rd_eq]) (by omega)
      · have cx5_ : ¬ (40 ≤ (S_.1 11 0 5)) := of_decide_eq_false cx5_
        refine sm_T_go 4 (c1 := (164, [some (.inr (.inr (some (11, 0)))), some (.inl a1_), some (.inl a2_), some (.inl a3_), some (.inl sl_), some (.inl a9_)], [.inl 1, .inl (S_.1 11 0 5), .inr (.inr (some (11, 0)))], sm_aI S_ 102 0 a9_.toNat sl_)) rfl ?_
        refine sm_T_bin (w := (S_.1 11 0 5) + 1) rfl (bi_add (by omega) (by omega) (by omega)) ?_ -- pc_ 164
        have hIx6_ : gi (sm_pI (sm_aI S_ 102 0 a9_.toNat sl_) 11 0 5 ((S_.1 11 0 5) + 1)) := gi_pI hIx2_ (show 0 ≤ (S_.1 11 0 5) + 1 ∧ (S_.1 11 0 5) + 1 ≤ 41 from ⟨by omega, by omega⟩)
        have hFx7_ : ai_fr (sx_W vw_203) S0_ (sm_pI (sm_aI S_ 102 0 a9_.toNat sl_) 11 0 5 ((S_.1 11 0 5) + 1)) := ai_fr_tr hFx3_ (ai_fr_pI rfl)
        refine sm_T_go 1 (c1 := (168, [some (.inr (.inr (some (11, 0)))), some (.inl a1_), some (.inl a2_), some (.inl a3_), some (.inl sl_), some (.inl a9_)], [], sm_pI (sm_aI S_ 102 0 a9_.toNat sl_) 11 0 5 ((S_.1 11 0 5) + 1))) rfl ?_
        refine sm_T_rv rfl ⟨_, _, rfl, rfl, hIx6_, hFx7_, ?_⟩
        refine ⟨?_, ?_⟩
        · first | (show S_.1 11 0 5 ≤ 40; omega) | (show S_.1 11 0 5 + 1 ≤ 40; omega)
        · first | exact tph_in (q_ := S_.1 11 0 5) hh_ hs_ (by omega) (fun i_ => rd_eq) (by omega) | exact tph_in (q_ := S_.1 11 0 5 + 1) hh_ hs_ (by omega) (fun i_ => by rw [rd_fa, rd_eq]) (by omega)
    · have cx1_ : ¬ (a9_ ≤ 0) := of_decide_eq_false cx1_
      refine sm_T_go 6 (c1 := (110, [some (.inr (.inr (some (11, 0)))), some (.inl a1_), some (.inl a2_), some (.inl a3_), some (.inl sl_), some (.inl a9_)], [.inl 1, .inl a9_, .inr (.inr (some (102, 0))), .inl sl_, .inr (.inr (some (11, 0)))], S_)) rfl ?_
      refine sm_T_bin (w := a9_ - 1) rfl (bi_sub (by omega) (by omega) (by omega)) ?_ -- pc_ 110
      refine sm_T_iald (n := 41) rfl rfl (by omega) (by omega) ?_
      have bx8_ : 0 ≤ S_.2.2.1 102 0 (a9_ - 1).toNat ∧ S_.2.2.1 102 0 (a9_ - 1).toNat ≤ 40 := hI_.2 102 0 _
      refine sm_T_cal (d1 := 0) (Q1 := vq_204 sl_ (S_.2.2.1 102 0 (a9_ - 1).toNat) S_) rfl rfl (by decide) (vc_204 sl_ (S_.2.2.1 102 0 (a9_ - 1).toNat) S_ hI_ (by omega) (by omega)) (fun u_ Sx9_ px12_ => ?_)
      obtain ⟨rfl, vx14_, rfl, px12_⟩ := px12_
      have c9_ := px12_
      refine sm_T_b0 (a := 0) (z := 25) rfl (fun cx15_ => ?_) (fun cx15_ => ?_)
      · have cx15_ : vx14_ = 0 := of_decide_eq_true cx15_
        refine sm_T_go 4 (c1 := (148, [some (.inr (.inr (some (11, 0)))), some (.inl a1_), some (.inl a2_), some (.inl a3_), some (.inl sl_), some (.inl a9_)], [.inl sl_, .inl a9_, .inr (.inr (some (102, 0)))], S_)) rfl ?_
        refine sm_T_iast (n := 41) rfl rfl (by omega) (by omega) ?_
        have hIx16_ : gi (sm_aI S_ 102 0 a9_.toNat sl_) := gi_aI hI_ (show 0 ≤ sl_ ∧ sl_ ≤ 40 from ⟨by omega, by omega⟩)
        have hFx17_ : ai_fr (sx_W vw_203) S0_ (sm_aI S_ 102 0 a9_.toNat sl_) := ai_fr_tr hF_ (ai_fr_aI rfl)
        have bx18_ : 0 ≤ S_.1 11 0 5 ∧ S_.1 11 0 5 ≤ 41 := hI_.1 11 0 5 rfl
        refine sm_T_go 3 (c1 := (155, [some (.inr (.inr (some (11, 0)))), some (.inl a1_), some (.inl a2_), some (.inl a3_), some (.inl sl_), some (.inl a9_)], [.inl 40, .inl (S_.1 11 0 5)], sm_aI S_ 102 0 a9_.toNat sl_)) rfl ?_
        refine sm_T_br (a := 3) (z := 13) rfl (fun cx19_ => ?_) (fun cx19_ => ?_)
        · have cx19_ : 40 ≤ (S_.1 11 0 5) := of_decide_eq_true cx19_
          refine sm_T_rv rfl ⟨_, _, rfl, rfl, hIx16_, hFx17_, ?_⟩
          refine ⟨?_, ?_⟩
          · first | (show S_.1 11 0 5 ≤ 40; omega) | (show S_.1 11 0 5 + 1 ≤ 40; omega)
          · first | exact tph_in (q_ := S_.1 11 0 5) hh_ hs_ (by omega) (fun i_ => rd_eq) (by omega) | exact tph_in (q_ := S_.1 11 0 5 + 1) hh_ hs_ (by omega) (fun i_ => by rw [rd_fa, rd_eq]) (by omega)
        · have cx19_ : ¬ (40 ≤ (S_.1 11 0 5)) := of_decide_eq_false cx19_
          refine sm_T_go 4 (c1 := (164, [some (.inr (.inr (some (11, 0)))), some (.inl a1_), some (.inl a2_), some (.inl a3_), some (.inl sl_), some (.inl a9_)], [.inl 1, .inl (S_.1 11 0 5), .inr (.inr (some (11, 0)))], sm_aI S_ 102 0 a9_.toNat sl_)) rfl ?_
          refine sm_T_bin (w := (S_.1 11 0 5) + 1) rfl (bi_add (by omega) (by omega) (by omega)) ?_ -- pc_ 164
          have hIx20_ : gi (sm_pI (sm_aI S_ 102 0 a9_.toNat sl_) 11 0 5 ((S_.1 11 0 5) + 1)) := gi_pI hIx16_ (show 0 ≤ (S_.1 11 0 5) + 1 ∧ (S_.1 11 0 5) + 1 ≤ 41 from ⟨by omega, by omega⟩)
          have hFx21_ : ai_fr (sx_W vw_203) S0_ (sm_pI (sm_aI S_ 102 0 a9_.toNat sl_) 11 0 5 ((S_.1 11 0 5) + 1)) := ai_fr_tr hFx17_ (ai_fr_pI rfl)
          refine sm_T_go 1 (c1 := (168, [some (.inr (.inr (some (11, 0)))), some (.inl a1_), some (.inl a2_), some (.inl a3_), some (.inl sl_), some (.inl a9_)], [], sm_pI (sm_aI S_ 102 0 a9_.toNat sl_) 11 0 5 ((S_.1 11 0 5) + 1))) rfl ?_
          refine sm_T_rv rfl ⟨_, _, rfl, rfl, hIx20_, hFx21_, ?_⟩
          refine ⟨?_, ?_⟩
          · first | (show S_.1 11 0 5 ≤ 40; omega) | (show S_.1 11 0 5 + 1 ≤ 40; omega)
          · first | exact tph_in (q_ := S_.1 11 0 5) hh_ hs_ (by omega) (fun i_ => rd_eq) (by omega) | exact tph_in (q_ := S_.1 11 0 5 + 1) hh_ hs_ (by omega) (fun i_ => by rw [rd_fa, rd_eq]) (by omega)
      · have cx15_ : ¬ (vx14_ = 0) := of_decide_eq_false cx15_
        refine sm_T_go 7 (c1 := (131, [some (.inr (.inr (some (11, 0)))), some (.inl a1_), some (.inl a2_), some (.inl a3_), some (.inl sl_), some (.inl a9_)], [.inl 1, .inl a9_, .inr (.inr (some (102, 0))), .inl a9_, .inr (.inr (some (102, 0)))], S_)) rfl ?_
        refine sm_T_bin (w := a9_ - 1) rfl (bi_sub (by omega) (by omega) (by omega)) ?_ -- pc_ 131
        refine sm_T_iald (n := 41) rfl rfl (by omega) (by omega) ?_
        refine sm_T_iast (n := 41) rfl rfl (by omega) (by omega) ?_
        have hIx22_ : gi (sm_aI S_ 102 0 a9_.toNat (S_.2.2.1 102 0 (a9_ - 1).toNat)) := gi_aI hI_ (show 0 ≤ (S_.2.2.1 102 0 (a9_ - 1).toNat) ∧ (S_.2.2.1 102 0 (a9_ - 1).toNat) ≤ 40 from ⟨by omega, by omega⟩)
        have hFx23_ : ai_fr (sx_W vw_203) S0_ (sm_aI S_ 102 0 a9_.toNat (S_.2.2.1 102 0 (a9_ - 1).toNat)) := ai_fr_tr hF_ (ai_fr_aI rfl)
        refine sm_T_inc (a := 5) (z := (-1)) (v := a9_) (w := a9_ - 1) rfl rfl (by omega) (by omega) (by omega) ?_ -- pc_ 134
        refine sm_T_go 1 (c1 := (95, [some (.inr (.inr (some (11, 0)))), some (.inl a1_), some (.inl a2_), some (.inl a3_), some (.inl sl_), some (.inl (a9_ - 1))], [], sm_aI S_ 102 0 a9_.toNat (S_.2.2.1 102 0 (a9_ - 1).toNat))) rfl ?_
        refine ih_ sl_ (a9_ - 1) (sm_aI S_ 102 0 a9_.toNat (S_.2.2.1 102 0 (a9_ - 1).toNat)) hIx22_ hFx23_ ⟨?_, ?_, ?_, trivial⟩ ?_
        · (simp only [rd_af]; omega)
        · exact hs_
        · exact tph_mv (k_ := S_.1 11 0 5) hh_ (by omega) (fun i_ => rd_eq)
        · omega
set_option maxHeartbeats 2000000 in
theorem vc_203 {sc_ : Nat × (Nat → Int)} (a1_ : Int) (a2_ : Int) (a3_ : Int) (S0_ : sm_S) (hI_ : gi S0_) (hp_ : tpo S0_) (ht_ : ttr S0_) (h1_ : (0 ≤ a1_ ∧ a1_ ≤ 10161) ∧ (a1_ < 162 ∨ 10000 ≤ a1_)) (hz_ : S0_.1 11 0 11 = 0 → a1_ < 12) : sm_T (mt_P sc_) 1 203 (0, [some (.inr (.inr (some (11, 0)))), some (.inl a1_), some (.inl a2_), some (.inl a3_), none, none], [], S0_) (fun ro9_ => ∃ u_ S1_, ro9_ = (.inl u_, S1_, 0) ∧ vq_203 a1_ a2_ a3_ S0_ u_ S1_) := by
  have hF_ : ai_fr (sx_W vw_203) S0_ S0_ := ai_fr_rf
  have cp_ : 0 ≤ S0_.1 11 0 5 ∧ S0_.1 11 0 5 ≤ 41 := hI_.1 11 0 5 rfl
  have cs_ : 0 ≤ S0_.1 11 0 11 ∧ S0_.1 11 0 11 ≤ 152 := hI_.1 11 0 11 rfl
  have co_ : 0 ≤ S0_.2.2.1 102 0 (S0_.1 11 0 5).toNat ∧ S0_.2.2.1 102 0 (S0_.1 11 0 5).toNat ≤ 40 := hI_.2 102 0 _
  have p40_ := hp_.1
  refine sm_T_go 2 (c1 := (2, [some (.inr (.inr (some (11, 0)))), some (.inl a1_), some (.inl a2_), some (.inl a3_), none, none], [.inl (-1), .inl a3_], S0_)) rfl ?_
  refine sm_T_br (a := 0) (z := 13) rfl (fun cx1_ => ?_) (fun cx1_ => ?_)
  · have cx1_ : a3_ = (-1) := of_decide_eq_true cx1_
    refine sm_T_rv rfl ⟨_, _, rfl, rfl, hI_, hF_, ?_⟩
    exact hp_
  · have cx1_ : ¬ (a3_ = (-1)) := of_decide_eq_false cx1_
    have bx2_ : 0 ≤ S0_.1 11 0 11 ∧ S0_.1 11 0 11 ≤ 152 := hI_.1 11 0 11 rfl
    refine sm_T_go 3 (c1 := (12, [some (.inr (.inr (some (11, 0)))), some (.inl a1_), some (.inl a2_), some (.inl a3_), none, none], [.inl 152, .inl (S0_.1 11 0 11)], S0_)) rfl ?_
    refine sm_T_br (a := 2) (z := 4) rfl (fun cx3_ => ?_) (fun cx3_ => ?_)
    · have cx3_ : (S0_.1 11 0 11) < 152 := of_decide_eq_true cx3_
      have bx4_ : 0 ≤ S0_.1 11 0 5 ∧ S0_.1 11 0 5 ≤ 41 := hI_.1 11 0 5 rfl
      refine sm_T_go 4 (c1 := (24, [some (.inr (.inr (some (11, 0)))), some (.inl a1_), some (.inl a2_), some (.inl a3_), none, none], [.inl (S0_.1 11 0 5), .inr (.inr (some (102, 0)))], S0_)) rfl ?_
      refine sm_T_iald (n := 41) rfl rfl (by omega) (by omega) ?_
      have bx5_ : 0 ≤ S0_.2.2.1 102 0 (S0_.1 11 0 5).toNat ∧ S0_.2.2.1 102 0 (S0_.1 11 0 5).toNat ≤ 40 := hI_.2 102 0 _
      refine sm_T_go 8 (c1 := (41, [some (.inr (.inr (some (11, 0)))), some (.inl a1_), some (.inl a2_), some (.inl a3_), some (.inl (S0_.2.2.1 102 0 (S0_.1 11 0 5).toNat)), none], [.inl 152, .inl (S0_.2.2.1 102 0 (S0_.1 11 0 5).toNat), .inr (.inr (some (105, 0))), .inl 0, .inr (.inr (some (106, 0)))], S0_)) rfl ?_
      refine sm_T_bin (w := 152 * (S0_.2.2.1 102 0 (S0_.1 11 0 5).toNat)) rfl (bi_mul (by omega) (by omega) (by omega)) ?_ -- pc_ 41
      refine sm_T_go 2 (c1 := (46, [some (.inr (.inr (some (11, 0)))), some (.inl a1_), some (.inl a2_), some (.inl a3_), some (.inl (S0_.2.2.1 102 0 (S0_.1 11 0 5).toNat)), none], [.inl (S0_.1 11 0 11), .inl (152 * (S0_.2.2.1 102 0 (S0_.1 11 0 5).toNat)), .inr (.inr (some (105, 0))), .inl 0, .inr (.inr (some (106, 0)))], S0_)) rfl ?_
      refine sm_T_nt (u := none) (S1 := sm_acI S0_ 106 0 105 0 (0 : Int).toNat (152 * (S0_.2.2.1 102 0 (S0_.1 11 0 5).toNat)).toNat (S0_.1 11 0 11).toNat) rfl rfl (nt_acI (sc := sc_) (t := 106) (i := 0) (t' := 105) (i' := 0) (x := 0) (y := 152 * (S0_.2.2.1 102 0 (S0_.1 11 0 5).toNat)) (m := (S0_.1 11 0 11)) (n := 152) (n1 := 6232) rfl rfl (by omega) (by omega) (by omega) (by omega) (by omega)) ?_
      have hIx6_ : gi (sm_acI S0_ 106 0 105 0 (0 : Int).toNat (152 * (S0_.2.2.1 102 0 (S0_.1 11 0 5).toNat)).toNat (S0_.1 11 0 11).toNat) := gi_ac hI_ (by decide) (by decide)
      have hFx7_ : ai_fr (sx_W vw_203) S0_ (sm_acI S0_ 106 0 105 0 (0 : Int).toNat (152 * (S0_.2.2.1 102 0 (S0_.1 11 0 5).toNat)).toNat (S0_.1 11 0 11).toNat) := ai_fr_tr hF_ (fr_ac rfl)
      refine sm_T_go 4 (c1 := (58, [some (.inr (.inr (some (11, 0)))), some (.inl a1_), some (.inl a2_), some (.inl a3_), some (.inl (S0_.2.2.1 102 0 (S0_.1 11 0 5).toNat)), none], [.inl 152, .inl (S0_.2.2.1 102 0 (S0_.1 11 0 5).toNat), .inr (.inr (some (105, 0)))], sm_acI S0_ 106 0 105 0 (0 : Int).toNat (152 * (S0_.2.2.1 102 0 (S0_.1 11 0 5).toNat)).toNat (S0_.1 11 0 11).toNat)) rfl ?_
      refine sm_T_bin (w := 152 * (S0_.2.2.1 102 0 (S0_.1 11 0 5).toNat)) rfl (bi_mul (by omega) (by omega) (by omega)) ?_ -- pc_ 58
      refine sm_T_go 2 (c1 := (63, [some (.inr (.inr (some (11, 0)))), some (.inl a1_), some (.inl a2_), some (.inl a3_), some (.inl (S0_.2.2.1 102 0 (S0_.1 11 0 5).toNat)), none], [.inl (S0_.1 11 0 11), .inl (152 * (S0_.2.2.1 102 0 (S0_.1 11 0 5).toNat)), .inr (.inr (some (105, 0)))], sm_acI S0_ 106 0 105 0 (0 : Int).toNat (152 * (S0_.2.2.1 102 0 (S0_.1 11 0 5).toNat)).toNat (S0_.1 11 0 11).toNat)) rfl ?_
      refine sm_T_bin (w := 152 * (S0_.2.2.1 102 0 (S0_.1 11 0 5).toNat) + (S0_.1 11 0 11)) rfl (bi_add (by omega) (by omega) (by omega)) ?_ -- pc_ 63
      refine sm_T_go 1 (c1 := (65, [some (.inr (.inr (some (11, 0)))), some (.inl a1_), some (.inl a2_), some (.inl a3_), some (.inl (S0_.2.2.1 102 0 (S0_.1 11 0 5).toNat)), none], [.inl a1_, .inl (152 * (S0_.2.2.1 102 0 (S0_.1 11 0 5).toNat) + (S0_.1 11 0 11)), .inr (.inr (some (105, 0)))], sm_acI S0_ 106 0 105 0 (0 : Int).toNat (152 * (S0_.2.2.1 102 0 (S0_.1 11 0 5).toNat)).toNat (S0_.1 11 0 11).toNat)) rfl ?_
      refine sm_T_iast (n := 6232) rfl rfl (by omega) (by omega) ?_
      have hIx8_ : gi (sm_aI (sm_acI S0_ 106 0 105 0 (0 : Int).toNat (152 * (S0_.2.2.1 102 0 (S0_.1 11 0 5).toNat)).toNat (S0_.1 11 0 11).toNat) 105 0 (152 * (S0_.2.2.1 102 0 (S0_.1 11 0 5).toNat) + (S0_.1 11 0 11)).toNat a1_) := gi_aI hIx6_ (show 0 ≤ a1_ ∧ a1_ ≤ 10161 from ⟨by omega, by omega⟩)
      have hFx9_ : ai_fr (sx_W vw_203) S0_ (sm_aI (sm_acI S0_ 106 0 105 0 (0 : Int).toNat (152 * (S0_.2.2.1 102 0 (S0_.1 11 0 5).toNat)).toNat (S0_.1 11 0 11).toNat) 105 0 (152 * (S0_.2.2.1 102 0 (S0_.1 11 0 5).toNat) + (S0_.1 11 0 11)).toNat a1_) := ai_fr_tr hFx7_ (ai_fr_aI rfl)
      refine sm_T_go 6 (c1 := (77, [some (.inr (.inr (some (11, 0)))), some (.inl a1_), some (.inl a2_), some (.inl a3_), some (.inl (S0_.2.2.1 102 0 (S0_.1 11 0 5).toNat)), none], [.inl 1, .inl (S0_.1 11 0 11), .inl (S0_.2.2.1 102 0 (S0_.1 11 0 5).toNat), .inr (.inr (some (104, 0)))], sm_aI (sm_acI S0_ 106 0 105 0 (0 : Int).toNat (152 * (S0_.2.2.1 102 0 (S0_.1 11 0 5).toNat)).toNat (S0_.1 11 0 11).toNat) 105 0 (152 * (S0_.2.2.1 102 0 (S0_.1 11 0 5).toNat) + (S0_.1 11 0 11)).toNat a1_)) rfl ?_
      refine sm_T_bin (w := (S0_.1 11 0 11) + 1) rfl (bi_add (by omega) (by omega) (by omega)) ?_ -- pc_ 77
      refine sm_T_iast (n := 41) rfl rfl (by omega) (by omega) ?_
      have hIx10_ : gi (sm_aI (sm_aI (sm_acI S0_ 106 0 105 0 (0 : Int).toNat (152 * (S0_.2.2.1 102 0 (S0_.1 11 0 5).toNat)).toNat (S0_.1 11 0 11).toNat) 105 0 (152 * (S0_.2.2.1 102 0 (S0_.1 11 0 5).toNat) + (S0_.1 11 0 11)).toNat a1_) 104 0 (S0_.2.2.1 102 0 (S0_.1 11 0 5).toNat).toNat ((S0_.1 11 0 11) + 1)) := gi_aI hIx8_ (show 0 ≤ (S0_.1 11 0 11) + 1 ∧ (S0_.1 11 0 11) + 1 ≤ 152 from ⟨by omega, by omega⟩)
      have hFx11_ : ai_fr (sx_W vw_203) S0_ (sm_aI (sm_aI (sm_acI S0_ 106 0 105 0 (0 : Int).toNat (152 * (S0_.2.2.1 102 0 (S0_.1 11 0 5).toNat)).toNat (S0_.1 11 0 11).toNat) 105 0 (152 * (S0_.2.2.1 102 0 (S0_.1 11 0 5).toNat) + (S0_.1 11 0 11)).toNat a1_) 104 0 (S0_.2.2.1 102 0 (S0_.1 11 0 5).toNat).toNat ((S0_.1 11 0 11) + 1)) := ai_fr_tr hFx9_ (ai_fr_aI rfl)
      refine sm_T_go 5 (c1 := (87, [some (.inr (.inr (some (11, 0)))), some (.inl a1_), some (.inl a2_), some (.inl a3_), some (.inl (S0_.2.2.1 102 0 (S0_.1 11 0 5).toNat)), none], [.inl a3_, .inl a2_, .inl (S0_.2.2.1 102 0 (S0_.1 11 0 5).toNat), .inr (.inr (some (103, 0)))], sm_aI (sm_aI (sm_acI S0_ 106 0 105 0 (0 : Int).toNat (152 * (S0_.2.2.1 102 0 (S0_.1 11 0 5).toNat)).toNat (S0_.1 11 0 11).toNat) 105 0 (152 * (S0_.2.2.1 102 0 (S0_.1 11 0 5).toNat) + (S0_.1 11 0 11)).toNat a1_) 104 0 (S0_.2.2.1 102 0 (S0_.1 11 0 5).toNat).toNat ((S0_.1 11 0 11) + 1))) rfl ?_
      refine sm_T_bin (w := (i_add a2_ a3_)) rfl rfl ?_ -- pc_ 87
      have bx12_ := i_add_r a2_ a3_
      refine sm_T_iast (n := 41) rfl rfl (by omega) (by omega) ?_
      have hIx13_ : gi (sm_aI (sm_aI (sm_aI (sm_acI S0_ 106 0 105 0 (0 : Int).toNat (152 * (S0_.2.2.1 102 0 (S0_.1 11 0 5).toNat)).toNat (S0_.1 11 0 11).toNat) 105 0 (152 * (S0_.2.2.1 102 0 (S0_.1 11 0 5).toNat) + (S0_.1 11 0 11)).toNat a1_) 104 0 (S0_.2.2.1 102 0 (S0_.1 11 0 5).toNat).toNat ((S0_.1 11 0 11) + 1)) 103 0 (S0_.2.2.1 102 0 (S0_.1 11 0 5).toNat).toNat (i_add a2_ a3_)) := gi_aI hIx10_ (show (-2147483648) ≤ (i_add a2_ a3_) ∧ (i_add a2_ a3_) ≤ 2147483647 from ⟨by omega, by omega⟩)
      have hFx14_ : ai_fr (sx_W vw_203) S0_ (sm_aI (sm_aI (sm_aI (sm_acI S0_ 106 0 105 0 (0 : Int).toNat (152 * (S0_.2.2.1 102 0 (S0_.1 11 0 5).toNat)).toNat (S0_.1 11 0 11).toNat) 105 0 (152 * (S0_.2.2.1 102 0 (S0_.1 11 0 5).toNat) + (S0_.1 11 0 11)).toNat a1_) 104 0 (S0_.2.2.1 102 0 (S0_.1 11 0 5).toNat).toNat ((S0_.1 11 0 11) + 1)) 103 0 (S0_.2.2.1 102 0 (S0_.1 11 0 5).toNat).toNat (i_add a2_ a3_)) := ai_fr_tr hFx11_ (ai_fr_aI rfl)
      refine sm_T_go 3 (c1 := (95, [some (.inr (.inr (some (11, 0)))), some (.inl a1_), some (.inl a2_), some (.inl a3_), some (.inl (S0_.2.2.1 102 0 (S0_.1 11 0 5).toNat)), some (.inl (S0_.1 11 0 5))], [], sm_aI (sm_aI (sm_aI (sm_acI S0_ 106 0 105 0 (0 : Int).toNat (152 * (S0_.2.2.1 102 0 (S0_.1 11 0 5).toNat)).toNat (S0_.1 11 0 11).toNat) 105 0 (152 * (S0_.2.2.1 102 0 (S0_.1 11 0 5).toNat) + (S0_.1 11 0 11)).toNat a1_) 104 0 (S0_.2.2.1 102 0 (S0_.1 11 0 5).toNat).toNat ((S0_.1 11 0 11) + 1)) 103 0 (S0_.2.2.1 102 0 (S0_.1 11 0 5).toNat).toNat (i_add a2_ a3_))) rfl ?_
      refine (vl_203 a1_ a2_ a3_ S0_ hp_ ht_ h1_ hz_ _) (S0_.2.2.1 102 0 (S0_.1 11 0 5).toNat) (S0_.1 11 0 5) (sm_aI (sm_aI (sm_aI (sm_acI S0_ 106 0 105 0 (0 : Int).toNat (152 * (S0_.2.2.1 102 0 (S0_.1 11 0 5).toNat)).toNat (S0_.1 11 0 11).toNat) 105 0 (152 * (S0_.2.2.1 102 0 (S0_.1 11 0 5).toNat) + (S0_.1 11 0 11)).toNat a1_) 104 0 (S0_.2.2.1 102 0 (S0_.1 11 0 5).toNat).toNat ((S0_.1 11 0 11) + 1)) 103 0 (S0_.2.2.1 102 0 (S0_.1 11 0 5).toNat).toNat (i_add a2_ a3_)) hIx13_ hFx14_ ⟨?_, ?_, ?_, trivial⟩ (Nat.lt_succ_self _)
      · (simp only [rd_af]; exact ⟨co_.1, co_.2, by show 0 ≤ S0_.1 11 0 5; omega, Int.le_refl _, p40_⟩)
      · obtain ⟨X9_, hX9_⟩ : ∃ X9_, X9_ = (S0_.2.2.1 102 0 (S0_.1 11 0 5).toNat).toNat := ⟨_, rfl⟩
        have r105_ : ∀ i_, ((sm_aI (sm_aI (sm_aI (sm_acI S0_ 106 0 105 0 (0 : Int).toNat (152 * (S0_.2.2.1 102 0 (S0_.1 11 0 5).toNat)).toNat (S0_.1 11 0 11).toNat) 105 0 (152 * (S0_.2.2.1 102 0 (S0_.1 11 0 5).toNat) + (S0_.1 11 0 11)).toNat a1_) 104 0 (S0_.2.2.1 102 0 (S0_.1 11 0 5).toNat).toNat ((S0_.1 11 0 11) + 1)) 103 0 (S0_.2.2.1 102 0 (S0_.1 11 0 5).toNat).toNat (i_add a2_ a3_))).2.2.1 105 0 i_ = if i_ = (152 * (S0_.2.2.1 102 0 (S0_.1 11 0 5).toNat) + (S0_.1 11 0 11)).toNat then a1_ else sm_cp (S0_.2.2.1 106 0) (S0_.2.2.1 105 0) (0 : Int).toNat (152 * (S0_.2.2.1 102 0 (S0_.1 11 0 5).toNat)).toNat (S0_.1 11 0 11).toNat i_ := fun i_ => by rw [rd_ne (by decide), rd_ne (by decide), rd_eq, sm_acI_at]
        have r104_ : ∀ i_, ((sm_aI (sm_aI (sm_aI (sm_acI S0_ 106 0 105 0 (0 : Int).toNat (152 * (S0_.2.2.1 102 0 (S0_.1 11 0 5).toNat)).toNat (S0_.1 11 0 11).toNat) 105 0 (152 * (S0_.2.2.1 102 0 (S0_.1 11 0 5).toNat) + (S0_.1 11 0 11)).toNat a1_) 104 0 (S0_.2.2.1 102 0 (S0_.1 11 0 5).toNat).toNat ((S0_.1 11 0 11) + 1)) 103 0 (S0_.2.2.1 102 0 (S0_.1 11 0 5).toNat).toNat (i_add a2_ a3_))).2.2.1 104 0 i_ = if i_ = (S0_.2.2.1 102 0 (S0_.1 11 0 5).toNat).toNat then (S0_.1 11 0 11) + 1 else S0_.2.2.1 104 0 i_ := fun i_ => by rw [rd_ne (by decide), rd_eq, rd_ne (by decide), sm_acI_ne (by decide)]
        have TW_ := tsl_nw (z'_ := ((sm_aI (sm_aI (sm_aI (sm_acI S0_ 106 0 105 0 (0 : Int).toNat (152 * (S0_.2.2.1 102 0 (S0_.1 11 0 5).toNat)).toNat (S0_.1 11 0 11).toNat) 105 0 (152 * (S0_.2.2.1 102 0 (S0_.1 11 0 5).toNat) + (S0_.1 11 0 11)).toNat a1_) 104 0 (S0_.2.2.1 102 0 (S0_.1 11 0 5).toNat).toNat ((S0_.1 11 0 11) + 1)) 103 0 (S0_.2.2.1 102 0 (S0_.1 11 0 5).toNat).toNat (i_add a2_ a3_))).2.2.1 104 0) (r'_ := ((sm_aI (sm_aI (sm_aI (sm_acI S0_ 106 0 105 0 (0 : Int).toNat (152 * (S0_.2.2.1 102 0 (S0_.1 11 0 5).toNat)).toNat (S0_.1 11 0 11).toNat) 105 0 (152 * (S0_.2.2.1 102 0 (S0_.1 11 0 5).toNat) + (S0_.1 11 0 11)).toNat a1_) 104 0 (S0_.2.2.1 102 0 (S0_.1 11 0 5).toNat).toNat ((S0_.1 11 0 11) + 1)) 103 0 (S0_.2.2.1 102 0 (S0_.1 11 0 5).toNat).toNat (i_add a2_ a3_))).2.2.1 105 0) (tr_ := S0_.2.2.1 106 0) (s_ := X9_) (n_ := (S0_.1 11 0 11)) (a_ := a1_) (by omega) (by rw [r104_, if_pos hX9_]) (fun j_ hj_ => by rw [r105_, if_neg (by omega), cp_at (by omega) (by omega)]; exact congrArg _ (by show 0 + (152 * X9_ + j_ - _) = j_; omega)) (by rw [r105_, if_pos (by omega)]) ht_.1 ht_.2 hz_ h1_.2
        rw [hX9_] at TW_
        exact TW_
      · obtain ⟨X9_, hX9_⟩ : ∃ X9_, X9_ = (S0_.2.2.1 102 0 (S0_.1 11 0 5).toNat).toNat := ⟨_, rfl⟩
        have r105_ : ∀ i_, ((sm_aI (sm_aI (sm_aI (sm_acI S0_ 106 0 105 0 (0 : Int).toNat (152 * (S0_.2.2.1 102 0 (S0_.1 11 0 5).toNat)).toNat (S0_.1 11 0 11).toNat) 105 0 (152 * (S0_.2.2.1 102 0 (S0_.1 11 0 5).toNat) + (S0_.1 11 0 11)).toNat a1_) 104 0 (S0_.2.2.1 102 0 (S0_.1 11 0 5).toNat).toNat ((S0_.1 11 0 11) + 1)) 103 0 (S0_.2.2.1 102 0 (S0_.1 11 0 5).toNat).toNat (i_add a2_ a3_))).2.2.1 105 0 i_ = if i_ = (152 * (S0_.2.2.1 102 0 (S0_.1 11 0 5).toNat) + (S0_.1 11 0 11)).toNat then a1_ else sm_cp (S0_.2.2.1 106 0) (S0_.2.2.1 105 0) (0 : Int).toNat (152 * (S0_.2.2.1 102 0 (S0_.1 11 0 5).toNat)).toNat (S0_.1 11 0 11).toNat i_ := fun i_ => by rw [rd_ne (by decide), rd_ne (by decide), rd_eq, sm_acI_at]
        have r104_ : ∀ i_, ((sm_aI (sm_aI (sm_aI (sm_acI S0_ 106 0 105 0 (0 : Int).toNat (152 * (S0_.2.2.1 102 0 (S0_.1 11 0 5).toNat)).toNat (S0_.1 11 0 11).toNat) 105 0 (152 * (S0_.2.2.1 102 0 (S0_.1 11 0 5).toNat) + (S0_.1 11 0 11)).toNat a1_) 104 0 (S0_.2.2.1 102 0 (S0_.1 11 0 5).toNat).toNat ((S0_.1 11 0 11) + 1)) 103 0 (S0_.2.2.1 102 0 (S0_.1 11 0 5).toNat).toNat (i_add a2_ a3_))).2.2.1 104 0 i_ = if i_ = (S0_.2.2.1 102 0 (S0_.1 11 0 5).toNat).toNat then (S0_.1 11 0 11) + 1 else S0_.2.2.1 104 0 i_ := fun i_ => by rw [rd_ne (by decide), rd_eq, rd_ne (by decide), sm_acI_ne (by decide)]
        have TW_ := tsl_nw (z'_ := ((sm_aI (sm_aI (sm_aI (sm_acI S0_ 106 0 105 0 (0 : Int).toNat (152 * (S0_.2.2.1 102 0 (S0_.1 11 0 5).toNat)).toNat (S0_.1 11 0 11).toNat) 105 0 (152 * (S0_.2.2.1 102 0 (S0_.1 11 0 5).toNat) + (S0_.1 11 0 11)).toNat a1_) 104 0 (S0_.2.2.1 102 0 (S0_.1 11 0 5).toNat).toNat ((S0_.1 11 0 11) + 1)) 103 0 (S0_.2.2.1 102 0 (S0_.1 11 0 5).toNat).toNat (i_add a2_ a3_))).2.2.1 104 0) (r'_ := ((sm_aI (sm_aI (sm_aI (sm_acI S0_ 106 0 105 0 (0 : Int).toNat (152 * (S0_.2.2.1 102 0 (S0_.1 11 0 5).toNat)).toNat (S0_.1 11 0 11).toNat) 105 0 (152 * (S0_.2.2.1 102 0 (S0_.1 11 0 5).toNat) + (S0_.1 11 0 11)).toNat a1_) 104 0 (S0_.2.2.1 102 0 (S0_.1 11 0 5).toNat).toNat ((S0_.1 11 0 11) + 1)) 103 0 (S0_.2.2.1 102 0 (S0_.1 11 0 5).toNat).toNat (i_add a2_ a3_))).2.2.1 105 0) (tr_ := S0_.2.2.1 106 0) (s_ := X9_) (n_ := (S0_.1 11 0 11)) (a_ := a1_) (by omega) (by rw [r104_, if_pos hX9_]) (fun j_ hj_ => by rw [r105_, if_neg (by omega), cp_at (by omega) (by omega)]; exact congrArg _ (by show 0 + (152 * X9_ + j_ - _) = j_; omega)) (by rw [r105_, if_pos (by omega)]) ht_.1 ht_.2 hz_ h1_.2
        rw [hX9_] at TW_
        intro i_ hi_ hn_
        have TZ_ : tsl (S0_.2.2.1 104 0) (S0_.2.2.1 105 0) (S0_.2.2.1 102 0 i_).toNat := hp_.2 i_ hi_ hn_
        have o9_ : ((sm_aI (sm_aI (sm_aI (sm_acI S0_ 106 0 105 0 (0 : Int).toNat (152 * (S0_.2.2.1 102 0 (S0_.1 11 0 5).toNat)).toNat (S0_.1 11 0 11).toNat) 105 0 (152 * (S0_.2.2.1 102 0 (S0_.1 11 0 5).toNat) + (S0_.1 11 0 11)).toNat a1_) 104 0 (S0_.2.2.1 102 0 (S0_.1 11 0 5).toNat).toNat ((S0_.1 11 0 11) + 1)) 103 0 (S0_.2.2.1 102 0 (S0_.1 11 0 5).toNat).toNat (i_add a2_ a3_))).2.2.1 102 0 i_ = S0_.2.2.1 102 0 i_ := by rw [rd_ne (by decide), rd_ne (by decide), rd_ne (by decide), sm_acI_ne (by decide)]
        rw [o9_]
        by_cases y9_ : (S0_.2.2.1 102 0 i_).toNat = (S0_.2.2.1 102 0 (S0_.1 11 0 5).toNat).toNat
        · rw [y9_]; exact TW_
        · refine tsl_ot TZ_ y9_ (fun k_ hk_ => by rw [r104_, if_neg hk_]) (fun k_ hk_ => ?_)
          rw [r105_, if_neg (by omega), cp_ot (by omega)]
    · have cx3_ : ¬ ((S0_.1 11 0 11) < 152) := of_decide_eq_false cx3_
      refine sm_T_rv rfl ⟨_, _, rfl, rfl, hI_, hF_, ?_⟩
      exact hp_
end
/-! 99.zm2d -/
section
/-! Times.removeAt -/
def vw_202 : sx_Wl := ([(11, 5)], [102], [])
def vq_202 (a1_ : Int) (S0_ : sm_S) (u_ : Option sm_V) (S1_ : sm_S) : Prop := u_ = none ∧ gi S1_ ∧ ai_fr (sx_W vw_202) S0_ S1_ ∧ (tpo S1_)
set_option maxHeartbeats 400000 in
theorem vc_202 {sc_ : Nat × (Nat → Int)} (a1_ : Int) (S0_ : sm_S) (hI_ : gi S0_) (h1_ : 0 ≤ a1_ ∧ a1_ < S0_.1 11 0 5) (hp_ : tpo S0_) : sm_T (mt_P sc_) 0 202 (0, [some (.inr (.inr (some (11, 0)))), some (.inl a1_), none], [], S0_) (fun ro9_ => ∃ u_ S1_, ro9_ = (.inl u_, S1_, 0) ∧ vq_202 a1_ S0_ u_ S1_) := by
  have hF_ : ai_fr (sx_W vw_202) S0_ S0_ := ai_fr_rf
  have p40_ := hp_.1
  refine sm_T_go 3 (c1 := (5, [some (.inr (.inr (some (11, 0)))), some (.inl a1_), none], [.inl a1_, .inr (.inr (some (102, 0)))], S0_)) rfl ?_
  refine sm_T_iald (n := 41) rfl rfl (by omega) (by omega) ?_
  have bx1_ : 0 ≤ S0_.2.2.1 102 0 a1_.toNat ∧ S0_.2.2.1 102 0 a1_.toNat ≤ 40 := hI_.2 102 0 _
  refine sm_T_go 5 (c1 := (13, [some (.inr (.inr (some (11, 0)))), some (.inl a1_), some (.inl (S0_.2.2.1 102 0 a1_.toNat))], [.inl 1, .inl a1_, .inr (.inr (some (102, 0)))], S0_)) rfl ?_
  refine sm_T_bin (w := a1_ + 1) rfl (bi_add (by omega) (by omega) (by omega)) ?_ -- pc_ 13
  refine sm_T_go 5 (c1 := (22, [some (.inr (.inr (some (11, 0)))), some (.inl a1_), some (.inl (S0_.2.2.1 102 0 a1_.toNat))], [.inl a1_, .inl 40, .inl a1_, .inr (.inr (some (102, 0))), .inl (a1_ + 1), .inr (.inr (some (102, 0)))], S0_)) rfl ?_
  refine sm_T_bin (w := -a1_ + 40) rfl (bi_sub (by omega) (by omega) (by omega)) ?_ -- pc_ 22
  refine sm_T_nt (u := none) (S1 := sm_acI S0_ 102 0 102 0 (a1_ + 1).toNat a1_.toNat (-a1_ + 40).toNat) rfl rfl (nt_acI (sc := sc_) (t := 102) (i := 0) (t' := 102) (i' := 0) (x := a1_ + 1) (y := a1_) (m := -a1_ + 40) (n := 41) (n1 := 41) rfl rfl (by omega) (by omega) (by omega) (by omega) (by omega)) ?_
  have hIx2_ : gi (sm_acI S0_ 102 0 102 0 (a1_ + 1).toNat a1_.toNat (-a1_ + 40).toNat) := gi_ac hI_ (by decide) (by decide)
  have hFx3_ : ai_fr (sx_W vw_202) S0_ (sm_acI S0_ 102 0 102 0 (a1_ + 1).toNat a1_.toNat (-a1_ + 40).toNat) := ai_fr_tr hF_ (fr_ac rfl)
  refine sm_T_go 4 (c1 := (33, [some (.inr (.inr (some (11, 0)))), some (.inl a1_), some (.inl (S0_.2.2.1 102 0 a1_.toNat))], [.inl (S0_.2.2.1 102 0 a1_.toNat), .inl 40, .inr (.inr (some (102, 0)))], sm_acI S0_ 102 0 102 0 (a1_ + 1).toNat a1_.toNat (-a1_ + 40).toNat)) rfl ?_
  refine sm_T_iast (n := 41) rfl rfl (by omega) (by omega) ?_
  have hIx4_ : gi (sm_aI (sm_acI S0_ 102 0 102 0 (a1_ + 1).toNat a1_.toNat (-a1_ + 40).toNat) 102 0 (40 : Int).toNat (S0_.2.2.1 102 0 a1_.toNat)) := gi_aI hIx2_ (show 0 ≤ (S0_.2.2.1 102 0 a1_.toNat) ∧ (S0_.2.2.1 102 0 a1_.toNat) ≤ 40 from ⟨by omega, by omega⟩)
  have hFx5_ : ai_fr (sx_W vw_202) S0_ (sm_aI (sm_acI S0_ 102 0 102 0 (a1_ + 1).toNat a1_.toNat (-a1_ + 40).toNat) 102 0 (40 : Int).toNat (S0_.2.2.1 102 0 a1_.toNat)) := ai_fr_tr hFx3_ (ai_fr_aI rfl)
  have bx6_ : 0 ≤ S0_.1 11 0 5 ∧ S0_.1 11 0 5 ≤ 41 := hI_.1 11 0 5 rfl
  refine sm_T_go 4 (c1 := (40, [some (.inr (.inr (some (11, 0)))), some (.inl a1_), some (.inl (S0_.2.2.1 102 0 a1_.toNat))], [.inl 1, .inl (S0_.1 11 0 5), .inr (.inr (some (11, 0)))], sm_aI (sm_acI S0_ 102 0 102 0 (a1_ + 1).toNat a1_.toNat (-a1_ + 40).toNat) 102 0 (40 : Int).toNat (S0_.2.2.1 102 0 a1_.toNat))) rfl ?_
  refine sm_T_bin (w := (S0_.1 11 0 5) - 1) rfl (bi_sub (by omega) (by omega) (by omega)) ?_ -- pc_ 40
  have hIx7_ : gi (sm_pI (sm_aI (sm_acI S0_ 102 0 102 0 (a1_ + 1).toNat a1_.toNat (-a1_ + 40).toNat) 102 0 (40 : Int).toNat (S0_.2.2.1 102 0 a1_.toNat)) 11 0 5 ((S0_.1 11 0 5) - 1)) := gi_pI hIx4_ (show 0 ≤ (S0_.1 11 0 5) - 1 ∧ (S0_.1 11 0 5) - 1 ≤ 41 from ⟨by omega, by omega⟩)
  have hFx8_ : ai_fr (sx_W vw_202) S0_ (sm_pI (sm_aI (sm_acI S0_ 102 0 102 0 (a1_ + 1).toNat a1_.toNat (-a1_ + 40).toNat) 102 0 (40 : Int).toNat (S0_.2.2.1 102 0 a1_.toNat)) 11 0 5 ((S0_.1 11 0 5) - 1)) := ai_fr_tr hFx5_ (ai_fr_pI rfl)
  refine sm_T_go 1 (c1 := (44, [some (.inr (.inr (some (11, 0)))), some (.inl a1_), some (.inl (S0_.2.2.1 102 0 a1_.toNat))], [], sm_pI (sm_aI (sm_acI S0_ 102 0 102 0 (a1_ + 1).toNat a1_.toNat (-a1_ + 40).toNat) 102 0 (40 : Int).toNat (S0_.2.2.1 102 0 a1_.toNat)) 11 0 5 ((S0_.1 11 0 5) - 1))) rfl ?_
  refine sm_T_rv rfl ⟨_, _, rfl, rfl, hIx7_, hFx8_, ?_⟩
  refine ⟨by show S0_.1 11 0 5 - 1 ≤ 40; omega, ?_⟩
  intro i_ hi_ hn_
  have hi2_ : (i_ : Int) ≤ S0_.1 11 0 5 - 1 := hi_
  have hn2_ : (i_ : Int) ≠ S0_.1 11 0 5 - 1 := hn_
  have o9_ : ((sm_pI (sm_aI (sm_acI S0_ 102 0 102 0 (a1_ + 1).toNat a1_.toNat (-a1_ + 40).toNat) 102 0 (40 : Int).toNat (S0_.2.2.1 102 0 a1_.toNat)) 11 0 5 ((S0_.1 11 0 5) - 1))).2.2.1 102 0 i_ = sm_cp (S0_.2.2.1 102 0) (S0_.2.2.1 102 0) (a1_ + 1).toNat a1_.toNat (-a1_ + 40).toNat i_ := by rw [rd_fa, rd_eq, if_neg (by show i_ ≠ 40; omega), sm_acI_at]
  rw [o9_]
  by_cases y9_ : a1_.toNat ≤ i_
  · rw [cp_at y9_ (by omega), show (a1_ + 1).toNat + (i_ - a1_.toNat) = i_ + 1 by omega]; exact hp_.2 (i_ + 1) (by omega) (by omega)
  · rw [cp_ot (by omega)]; exact hp_.2 i_ (by omega) (by omega)
end
/-! 99.zm2e -/
section
/-! Times.pathPart -/
def vw_198 : sx_Wl := ([], [], [])
def vq_198 (a1_ : Int) (a2_ : Int) (S0_ : sm_S) (u_ : Option sm_V) (S1_ : sm_S) : Prop := S0_ = S1_ ∧ ∃ v_ : Int, u_ = some (.inl v_) ∧ (True)
set_option maxHeartbeats 400000 in
theorem vc_198 {sc_ : Nat × (Nat → Int)} (a1_ : Int) (a2_ : Int) (S0_ : sm_S) (hI_ : gi S0_) (h1_ : 0 ≤ a1_ ∧ a1_ ≤ 39) (hp_ : tpo S0_) : sm_T (mt_P sc_) 0 198 (0, [some (.inr (.inr (some (11, 0)))), some (.inl a1_), some (.inl a2_), none, none], [], S0_) (fun ro9_ => ∃ u_ S1_, ro9_ = (.inl u_, S1_, 0) ∧ vq_198 a1_ a2_ S0_ u_ S1_) := by
  have hF_ : ai_fr (sx_W vw_198) S0_ S0_ := ai_fr_rf
  have bx1_ : 0 ≤ S0_.1 11 0 5 ∧ S0_.1 11 0 5 ≤ 41 := hI_.1 11 0 5 rfl
  refine sm_T_go 3 (c1 := (5, [some (.inr (.inr (some (11, 0)))), some (.inl a1_), some (.inl a2_), none, none], [.inl (S0_.1 11 0 5), .inl a1_], S0_)) rfl ?_
  refine sm_T_br (a := 2) (z := 5) rfl (fun cx2_ => ?_) (fun cx2_ => ?_)
  · have cx2_ : a1_ < (S0_.1 11 0 5) := of_decide_eq_true cx2_
    have t9_ := hp_.2 a1_.toNat (by omega) (by omega)
    have t8_ := t9_.1
    have t7_ := t9_.2.1
    refine sm_T_go 3 (c1 := (15, [some (.inr (.inr (some (11, 0)))), some (.inl a1_), some (.inl a2_), none, none], [.inl a1_, .inr (.inr (some (102, 0)))], S0_)) rfl ?_
    refine sm_T_iald (n := 41) rfl rfl (by omega) (by omega) ?_
    have bx3_ : 0 ≤ S0_.2.2.1 102 0 a1_.toNat ∧ S0_.2.2.1 102 0 a1_.toNat ≤ 40 := hI_.2 102 0 _
    refine sm_T_go 4 (c1 := (22, [some (.inr (.inr (some (11, 0)))), some (.inl a1_), some (.inl a2_), some (.inl (S0_.2.2.1 102 0 a1_.toNat)), none], [.inl (S0_.2.2.1 102 0 a1_.toNat), .inr (.inr (some (104, 0)))], S0_)) rfl ?_
    refine sm_T_iald (n := 41) rfl rfl (by omega) (by omega) ?_
    have bx4_ : 0 ≤ S0_.2.2.1 104 0 (S0_.2.2.1 102 0 a1_.toNat).toNat ∧ S0_.2.2.1 104 0 (S0_.2.2.1 102 0 a1_.toNat).toNat ≤ 152 := hI_.2 104 0 _
    refine sm_T_go 1 (c1 := (24, [some (.inr (.inr (some (11, 0)))), some (.inl a1_), some (.inl a2_), some (.inl (S0_.2.2.1 102 0 a1_.toNat)), none], [.inl 1, .inl (S0_.2.2.1 104 0 (S0_.2.2.1 102 0 a1_.toNat).toNat)], S0_)) rfl ?_
    refine sm_T_bin (w := (S0_.2.2.1 104 0 (S0_.2.2.1 102 0 a1_.toNat).toNat) - 1) rfl (bi_sub (by omega) (by omega) (by omega)) ?_ -- pc_ 24
    refine sm_T_go 2 (c1 := (28, [some (.inr (.inr (some (11, 0)))), some (.inl a1_), some (.inl a2_), some (.inl (S0_.2.2.1 102 0 a1_.toNat)), some (.inl ((S0_.2.2.1 104 0 (S0_.2.2.1 102 0 a1_.toNat).toNat) - 1))], [.inl a2_], S0_)) rfl ?_
    by_cases cx5_ : a2_ = (-3)
    · refine sm_T_sw (t := 81) rfl rfl (by rw [cx5_]; rfl) ?_
      refine sm_T_go 1 (c1 := (83, [some (.inr (.inr (some (11, 0)))), some (.inl a1_), some (.inl a2_), some (.inl (S0_.2.2.1 102 0 a1_.toNat)), some (.inl ((S0_.2.2.1 104 0 (S0_.2.2.1 102 0 a1_.toNat).toNat) - 1))], [.inl ((S0_.2.2.1 104 0 (S0_.2.2.1 102 0 a1_.toNat).toNat) - 1)], S0_)) rfl ?_
      refine sm_T_ri rfl ⟨_, _, rfl, rfl, _, rfl, ?_⟩
      trivial
    by_cases cx6_ : a2_ = (-2)
    · refine sm_T_sw (t := 63) rfl rfl (by rw [cx6_]; rfl) ?_
      refine sm_T_go 4 (c1 := (71, [some (.inr (.inr (some (11, 0)))), some (.inl a1_), some (.inl a2_), some (.inl (S0_.2.2.1 102 0 a1_.toNat)), some (.inl ((S0_.2.2.1 104 0 (S0_.2.2.1 102 0 a1_.toNat).toNat) - 1))], [.inl 152, .inl (S0_.2.2.1 102 0 a1_.toNat), .inr (.inr (some (105, 0)))], S0_)) rfl ?_
      refine sm_T_bin (w := 152 * (S0_.2.2.1 102 0 a1_.toNat)) rfl (bi_mul (by omega) (by omega) (by omega)) ?_ -- pc_ 71
      refine sm_T_go 1 (c1 := (74, [some (.inr (.inr (some (11, 0)))), some (.inl a1_), some (.inl a2_), some (.inl (S0_.2.2.1 102 0 a1_.toNat)), some (.inl ((S0_.2.2.1 104 0 (S0_.2.2.1 102 0 a1_.toNat).toNat) - 1))], [.inl ((S0_.2.2.1 104 0 (S0_.2.2.1 102 0 a1_.toNat).toNat) - 1), .inl (152 * (S0_.2.2.1 102 0 a1_.toNat)), .inr (.inr (some (105, 0)))], S0_)) rfl ?_
      refine sm_T_bin (w := 152 * (S0_.2.2.1 102 0 a1_.toNat) + (S0_.2.2.1 104 0 (S0_.2.2.1 102 0 a1_.toNat).toNat) - 1) rfl (bi_add (by omega) (by omega) (by omega)) ?_ -- pc_ 74
      refine sm_T_iald (n := 6232) rfl rfl (by omega) (by omega) ?_
      have bx7_ : 0 ≤ S0_.2.2.1 105 0 (152 * (S0_.2.2.1 102 0 a1_.toNat) + (S0_.2.2.1 104 0 (S0_.2.2.1 102 0 a1_.toNat).toNat) - 1).toNat ∧ S0_.2.2.1 105 0 (152 * (S0_.2.2.1 102 0 a1_.toNat) + (S0_.2.2.1 104 0 (S0_.2.2.1 102 0 a1_.toNat).toNat) - 1).toNat ≤ 10161 := hI_.2 105 0 _
      refine sm_T_go 1 (c1 := (79, [some (.inr (.inr (some (11, 0)))), some (.inl a1_), some (.inl a2_), some (.inl (S0_.2.2.1 102 0 a1_.toNat)), some (.inl ((S0_.2.2.1 104 0 (S0_.2.2.1 102 0 a1_.toNat).toNat) - 1))], [.inl 10000, .inl (S0_.2.2.1 105 0 (152 * (S0_.2.2.1 102 0 a1_.toNat) + (S0_.2.2.1 104 0 (S0_.2.2.1 102 0 a1_.toNat).toNat) - 1).toNat)], S0_)) rfl ?_
      refine sm_T_bin (w := (S0_.2.2.1 105 0 (152 * (S0_.2.2.1 102 0 a1_.toNat) + (S0_.2.2.1 104 0 (S0_.2.2.1 102 0 a1_.toNat).toNat) - 1).toNat) - 10000) rfl (bi_sub (by omega) (by omega) (by omega)) ?_ -- pc_ 79
      refine sm_T_ri rfl ⟨_, _, rfl, rfl, _, rfl, ?_⟩
      trivial
    by_cases cx8_ : a2_ = (-1)
    · refine sm_T_sw (t := 56) rfl rfl (by rw [cx8_]; rfl) ?_
      refine sm_T_go 3 (c1 := (61, [some (.inr (.inr (some (11, 0)))), some (.inl a1_), some (.inl a2_), some (.inl (S0_.2.2.1 102 0 a1_.toNat)), some (.inl ((S0_.2.2.1 104 0 (S0_.2.2.1 102 0 a1_.toNat).toNat) - 1))], [.inl (S0_.2.2.1 102 0 a1_.toNat), .inr (.inr (some (103, 0)))], S0_)) rfl ?_
      refine sm_T_iald (n := 41) rfl rfl (by omega) (by omega) ?_
      have bx9_ : (-2147483648) ≤ S0_.2.2.1 103 0 (S0_.2.2.1 102 0 a1_.toNat).toNat ∧ S0_.2.2.1 103 0 (S0_.2.2.1 102 0 a1_.toNat).toNat ≤ 2147483647 := hI_.2 103 0 _
      refine sm_T_ri rfl ⟨_, _, rfl, rfl, _, rfl, ?_⟩
      trivial
    refine sm_T_sw (t := 84) rfl rfl (by (have hh_ : a2_ < (-3) ∨ 0 ≤ a2_ := by omega); rcases hh_ with hh_ | hh_; (exact sm_swd (Or.inl hh_)); (exact sm_swd (Or.inr (by simp only [List.length_cons, List.length_nil]; omega)))) ?_
    refine sm_T_go 1 (c1 := (85, [some (.inr (.inr (some (11, 0)))), some (.inl a1_), some (.inl a2_), some (.inl (S0_.2.2.1 102 0 a1_.toNat)), some (.inl ((S0_.2.2.1 104 0 (S0_.2.2.1 102 0 a1_.toNat).toNat) - 1))], [.inl a2_], S0_)) rfl ?_
    refine sm_T_b0 (a := 2) (z := 24) rfl (fun cx10_ => ?_) (fun cx10_ => ?_)
    · have cx10_ : a2_ < 0 := of_decide_eq_true cx10_
      refine sm_T_go 1 (c1 := (110, [some (.inr (.inr (some (11, 0)))), some (.inl a1_), some (.inl a2_), some (.inl (S0_.2.2.1 102 0 a1_.toNat)), some (.inl ((S0_.2.2.1 104 0 (S0_.2.2.1 102 0 a1_.toNat).toNat) - 1))], [.inl (-1)], S0_)) rfl ?_
      refine sm_T_ri rfl ⟨_, _, rfl, rfl, _, rfl, ?_⟩
      trivial
    · have cx10_ : ¬ (a2_ < 0) := of_decide_eq_false cx10_
      refine sm_T_go 2 (c1 := (91, [some (.inr (.inr (some (11, 0)))), some (.inl a1_), some (.inl a2_), some (.inl (S0_.2.2.1 102 0 a1_.toNat)), some (.inl ((S0_.2.2.1 104 0 (S0_.2.2.1 102 0 a1_.toNat).toNat) - 1))], [.inl ((S0_.2.2.1 104 0 (S0_.2.2.1 102 0 a1_.toNat).toNat) - 1), .inl a2_], S0_)) rfl ?_
      refine sm_T_br (a := 3) (z := 18) rfl (fun cx11_ => ?_) (fun cx11_ => ?_)
      · have cx11_ : (S0_.2.2.1 104 0 (S0_.2.2.1 102 0 a1_.toNat).toNat) - 1 ≤ a2_ := of_decide_eq_true cx11_
        refine sm_T_go 1 (c1 := (110, [some (.inr (.inr (some (11, 0)))), some (.inl a1_), some (.inl a2_), some (.inl (S0_.2.2.1 102 0 a1_.toNat)), some (.inl ((S0_.2.2.1 104 0 (S0_.2.2.1 102 0 a1_.toNat).toNat) - 1))], [.inl (-1)], S0_)) rfl ?_
        refine sm_T_ri rfl ⟨_, _, rfl, rfl, _, rfl, ?_⟩
        trivial
      · have cx11_ : ¬ ((S0_.2.2.1 104 0 (S0_.2.2.1 102 0 a1_.toNat).toNat) - 1 ≤ a2_) := of_decide_eq_false cx11_
        refine sm_T_go 4 (c1 := (102, [some (.inr (.inr (some (11, 0)))), some (.inl a1_), some (.inl a2_), some (.inl (S0_.2.2.1 102 0 a1_.toNat)), some (.inl ((S0_.2.2.1 104 0 (S0_.2.2.1 102 0 a1_.toNat).toNat) - 1))], [.inl 152, .inl (S0_.2.2.1 102 0 a1_.toNat), .inr (.inr (some (105, 0)))], S0_)) rfl ?_
        refine sm_T_bin (w := 152 * (S0_.2.2.1 102 0 a1_.toNat)) rfl (bi_mul (by omega) (by omega) (by omega)) ?_ -- pc_ 102
        refine sm_T_go 1 (c1 := (104, [some (.inr (.inr (some (11, 0)))), some (.inl a1_), some (.inl a2_), some (.inl (S0_.2.2.1 102 0 a1_.toNat)), some (.inl ((S0_.2.2.1 104 0 (S0_.2.2.1 102 0 a1_.toNat).toNat) - 1))], [.inl a2_, .inl (152 * (S0_.2.2.1 102 0 a1_.toNat)), .inr (.inr (some (105, 0)))], S0_)) rfl ?_
        refine sm_T_bin (w := 152 * (S0_.2.2.1 102 0 a1_.toNat) + a2_) rfl (bi_add (by omega) (by omega) (by omega)) ?_ -- pc_ 104
        refine sm_T_iald (n := 6232) rfl rfl (by omega) (by omega) ?_
        have bx12_ : 0 ≤ S0_.2.2.1 105 0 (152 * (S0_.2.2.1 102 0 a1_.toNat) + a2_).toNat ∧ S0_.2.2.1 105 0 (152 * (S0_.2.2.1 102 0 a1_.toNat) + a2_).toNat ≤ 10161 := hI_.2 105 0 _
        refine sm_T_go 1 (c1 := (110, [some (.inr (.inr (some (11, 0)))), some (.inl a1_), some (.inl a2_), some (.inl (S0_.2.2.1 102 0 a1_.toNat)), some (.inl ((S0_.2.2.1 104 0 (S0_.2.2.1 102 0 a1_.toNat).toNat) - 1))], [.inl (S0_.2.2.1 105 0 (152 * (S0_.2.2.1 102 0 a1_.toNat) + a2_).toNat)], S0_)) rfl ?_
        refine sm_T_ri rfl ⟨_, _, rfl, rfl, _, rfl, ?_⟩
        trivial
  · have cx2_ : ¬ (a1_ < (S0_.1 11 0 5)) := of_decide_eq_false cx2_
    refine sm_T_go 1 (c1 := (9, [some (.inr (.inr (some (11, 0)))), some (.inl a1_), some (.inl a2_), none, none], [.inl (-1)], S0_)) rfl ?_
    refine sm_T_ri rfl ⟨_, _, rfl, rfl, _, rfl, ?_⟩
    trivial
end
