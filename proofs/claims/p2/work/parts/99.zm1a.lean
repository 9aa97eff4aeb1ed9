/-! times and waves; written by wip/p55/gen/vg -/

/-! times and waves -/
theorem dvt {x_ y_ : Int} (hx_ : -2147483648 < x_ ∧ x_ ≤ 2147483647) (hy_ : 0 < y_ ∧ y_ ≤ 2147483647) : (Int32.ofInt x_ / Int32.ofInt y_).toInt = Int.tdiv x_ y_ := by
  have e1_ : (Int32.ofInt x_).toInt = x_ := Int32.toInt_ofInt_of_le (by omega) (by omega)
  have e2_ : (Int32.ofInt y_).toInt = y_ := Int32.toInt_ofInt_of_le (by omega) (by omega)
  rw [Int32.toInt_div, e1_, e2_]
  apply Int.bmod_eq_of_le
  · have : (Int.tdiv x_ y_).natAbs ≤ x_.natAbs := Int.natAbs_tdiv_le_natAbs x_ y_
    omega
  · have : (Int.tdiv x_ y_).natAbs ≤ x_.natAbs := Int.natAbs_tdiv_le_natAbs x_ y_
    omega
theorem tdv_b {x_ y_ M_ : Int} (hx_ : -M_ ≤ x_ ∧ x_ ≤ M_) (_hy : 0 < y_) : -M_ ≤ Int.tdiv x_ y_ ∧ Int.tdiv x_ y_ ≤ M_ := by
  have : (Int.tdiv x_ y_).natAbs ≤ x_.natAbs := Int.natAbs_tdiv_le_natAbs x_ y_
  omega
theorem bi_dvt {x_ y_ : Int} (hx_ : -2147483648 < x_ ∧ x_ ≤ 2147483647) (hy_ : 0 < y_ ∧ y_ ≤ 2147483647) : sm_bin 8 x_ y_ = some (Int.tdiv x_ y_) := by
  show (if Int32.ofInt y_ = 0 then none else some _) = some _
  rw [if_neg (bi_n0 hy_.1 hy_.2), dvt hx_ hy_]
/-! Times.measure -/
def vw_196 : sx_Wl := ([], [99], [])
def vq_196 (cc_ : Nat) (S0_ : sm_S) (u_ : Option sm_V) (S1_ : sm_S) : Prop := u_ = none ∧ gi S1_ ∧ ai_fr (sx_W vw_196) S0_ S1_ ∧ (True)
set_option maxHeartbeats 400000 in
theorem vl_196 {sc_ : Nat × (Nat → Int)} (cc_ : Nat) (S0_ : sm_S) (hs_ : S0_.1 2 cc_ 1 + S0_.1 2 cc_ 2 ≤ 12) : ∀ nn_ : Nat, (∀ (n_ : Int) (S_ : sm_S), gi S_ → ai_fr (sx_W vw_196) S0_ S_ → ((0 ≤ n_ ∧ n_ ≤ 162) ∧ True) → ((500 - n_).toNat) < nn_ → sm_T (mt_P sc_) 1 196 (2, [some (.inr (.inr (some (11, 0)))), some (.inr (.inr (some (2, cc_)))), some (.inl n_), none, none], [], S_) (fun ro9_ => ∃ u_ S1_, ro9_ = (.inl u_, S1_, 0) ∧ vq_196 cc_ S0_ u_ S1_)) := by
  intro nn_
  induction nn_ with
  | zero => exact fun _ _ _ _ _ h_ => absurd h_ (Nat.not_lt_zero _)
  | succ nn_ ih_ =>
    rintro n_ S_ hI_ hF_ ⟨h0_, -⟩ hm_
    have z1_ : S_.1 2 cc_ 1 = S0_.1 2 cc_ 1 := hF_.1 2 cc_ 1 rfl
    have z2_ : S_.1 2 cc_ 2 = S0_.1 2 cc_ 2 := hF_.1 2 cc_ 2 rfl
    have cg9_ : 0 ≤ S_.1 2 cc_ 8 ∧ S_.1 2 cc_ 8 ≤ 150 := hI_.1 2 cc_ 8 rfl
    have ci_ : 0 ≤ S_.1 2 cc_ 1 ∧ S_.1 2 cc_ 1 ≤ 12 := hI_.1 2 cc_ 1 rfl
    have cr : 0 ≤ S_.1 2 cc_ 2 ∧ S_.1 2 cc_ 2 ≤ 6 := hI_.1 2 cc_ 2 rfl
    refine sm_T_go 2 (c1 := (4, [some (.inr (.inr (some (11, 0)))), some (.inr (.inr (some (2, cc_)))), some (.inl n_), none, none], [.inr (.inr (some (2, cc_))), .inl n_], S_)) rfl ?_
    refine sm_T_cal (d1 := 0) (Q1 := vq_55 cc_ S_) rfl rfl (by decide) (vc_55 cc_ S_ hI_ ) (fun u_ Sx1_ px4_ => ?_)
    obtain ⟨rfl, vx6_, rfl, px4_⟩ := px4_
    have nt4_ := px4_.2
    refine sm_T_br (a := 3) (z := 88) rfl (fun cx7_ => ?_) (fun cx7_ => ?_)
    · have cx7_ : vx6_ ≤ n_ := of_decide_eq_true cx7_
      refine sm_T_rv rfl ⟨_, _, rfl, rfl, hI_, hF_, ?_⟩
      trivial
    · have cx7_ : ¬ (vx6_ ≤ n_) := of_decide_eq_false cx7_
      refine sm_T_go 2 (c1 := (12, [some (.inr (.inr (some (11, 0)))), some (.inr (.inr (some (2, cc_)))), some (.inl n_), none, none], [.inr (.inr (some (2, cc_))), .inl n_], S_)) rfl ?_
      refine sm_T_cal (d1 := 0) (Q1 := vq_54 cc_ S_) rfl rfl (by decide) (vc_54 cc_ S_ hI_ ) (fun u_ Sx8_ px11_ => ?_)
      obtain ⟨rfl, vx13_, rfl, px11_⟩ := px11_
      have fg12_ := px11_.2
      refine sm_T_br (a := 3) (z := 7) rfl (fun cx14_ => ?_) (fun cx14_ => ?_)
      · have cx14_ : vx13_ ≤ n_ := of_decide_eq_true cx14_
        refine sm_T_go 7 (c1 := (35, [some (.inr (.inr (some (11, 0)))), some (.inr (.inr (some (2, cc_)))), some (.inl n_), none, none], [.inr (.inr (some (2, cc_))), .inl n_, .inr (.inr (some (35, (0 + cc_)))), .inr (.inr (some (58, (0 + (3 + cc_)))))], S_)) rfl ?_
        refine sm_T_cal (d1 := 0) (Q1 := vq_54 cc_ S_) rfl rfl (by decide) (vc_54 cc_ S_ hI_ ) (fun u_ Sx15_ px18_ => ?_)
        obtain ⟨rfl, vx20_, rfl, px18_⟩ := px18_
        have fg35_ := px18_.2
        refine sm_T_bin (w := n_ - vx20_) rfl (bi_sub (by omega) (by omega) (by omega)) ?_ -- pc_ 38
        refine sm_T_iald (n := 150) rfl rfl (by omega) (by omega) ?_
        have bx21_ : 0 ≤ S_.2.2.1 35 (0 + cc_) (n_ - vx20_).toNat ∧ S_.2.2.1 35 (0 + cc_) (n_ - vx20_).toNat ≤ 11 := hI_.2 35 (0 + cc_) _
        refine sm_T_iald (n := 12) rfl rfl (by omega) (by omega) ?_
        have bx22_ : 0 ≤ S_.2.2.1 58 (0 + (3 + cc_)) (S_.2.2.1 35 (0 + cc_) (n_ - vx20_).toNat).toNat ∧ S_.2.2.1 58 (0 + (3 + cc_)) (S_.2.2.1 35 (0 + cc_) (n_ - vx20_).toNat).toNat ≤ 100 := hI_.2 58 (0 + (3 + cc_)) _
        refine sm_T_go 5 (c1 := (50, [some (.inr (.inr (some (11, 0)))), some (.inr (.inr (some (2, cc_)))), some (.inl n_), some (.inl (S_.2.2.1 58 (0 + (3 + cc_)) (S_.2.2.1 35 (0 + cc_) (n_ - vx20_).toNat).toNat)), none], [.inl n_, .inr (.inr (some (21, (0 + (0 + cc_)))))], S_)) rfl ?_
        refine sm_T_iald (n := 162) rfl rfl (by omega) (by omega) ?_
        have bx23_ : (-9999) ≤ S_.2.2.1 21 (0 + (0 + cc_)) n_.toNat ∧ S_.2.2.1 21 (0 + (0 + cc_)) n_.toNat ≤ 20000 := hI_.2 21 (0 + (0 + cc_)) _
        refine sm_T_go 1 (c1 := (52, [some (.inr (.inr (some (11, 0)))), some (.inr (.inr (some (2, cc_)))), some (.inl n_), some (.inl (S_.2.2.1 58 (0 + (3 + cc_)) (S_.2.2.1 35 (0 + cc_) (n_ - vx20_).toNat).toNat)), none], [.inl 4, .inl (S_.2.2.1 21 (0 + (0 + cc_)) n_.toNat)], S_)) rfl ?_
        refine sm_T_bin (w := (Int.tdiv (S_.2.2.1 21 (0 + (0 + cc_)) n_.toNat) 4)) rfl (bi_dvt (by omega) (by omega)) ?_ -- pc_ 52
        have bx24_ := tdv_b (x_ := (S_.2.2.1 21 (0 + (0 + cc_)) n_.toNat)) (y_ := 4) (M_ := 20000) (by omega) (by omega)
        have bx25_ : 0 ≤ S_.1 2 cc_ 1 ∧ S_.1 2 cc_ 1 ≤ 12 := hI_.1 2 cc_ 1 rfl
        refine sm_T_go 7 (c1 := (65, [some (.inr (.inr (some (11, 0)))), some (.inr (.inr (some (2, cc_)))), some (.inl n_), some (.inl (S_.2.2.1 58 (0 + (3 + cc_)) (S_.2.2.1 35 (0 + cc_) (n_ - vx20_).toNat).toNat)), some (.inl (Int.tdiv (S_.2.2.1 21 (0 + (0 + cc_)) n_.toNat) 4))], [.inl (S_.1 2 cc_ 1), .inl n_, .inl n_, .inr (.inr (some (99, 0)))], S_)) rfl ?_
        refine sm_T_br (a := 3) (z := 7) rfl (fun cx26_ => ?_) (fun cx26_ => ?_)
        · have cx26_ : (S_.1 2 cc_ 1) ≤ n_ := of_decide_eq_true cx26_
          refine sm_T_go 5 (c1 := (81, [some (.inr (.inr (some (11, 0)))), some (.inr (.inr (some (2, cc_)))), some (.inl n_), some (.inl (S_.2.2.1 58 (0 + (3 + cc_)) (S_.2.2.1 35 (0 + cc_) (n_ - vx20_).toNat).toNat)), some (.inl (Int.tdiv (S_.2.2.1 21 (0 + (0 + cc_)) n_.toNat) 4))], [.inl n_, .inr (.inr (some (20, (0 + (0 + cc_))))), .inl (S_.2.2.1 58 (0 + (3 + cc_)) (S_.2.2.1 35 (0 + cc_) (n_ - vx20_).toNat).toNat), .inl n_, .inr (.inr (some (99, 0)))], S_)) rfl ?_
          refine sm_T_iald (n := 162) rfl rfl (by omega) (by omega) ?_
          have bx27_ : 0 ≤ S_.2.2.1 20 (0 + (0 + cc_)) n_.toNat ∧ S_.2.2.1 20 (0 + (0 + cc_)) n_.toNat ≤ 652 := hI_.2 20 (0 + (0 + cc_)) _
          refine sm_T_bin (w := (S_.2.2.1 58 (0 + (3 + cc_)) (S_.2.2.1 35 (0 + cc_) (n_ - vx20_).toNat).toNat) + (S_.2.2.1 20 (0 + (0 + cc_)) n_.toNat)) rfl (bi_add (by omega) (by omega) (by omega)) ?_ -- pc_ 82
          refine sm_T_go 1 (c1 := (84, [some (.inr (.inr (some (11, 0)))), some (.inr (.inr (some (2, cc_)))), some (.inl n_), some (.inl (S_.2.2.1 58 (0 + (3 + cc_)) (S_.2.2.1 35 (0 + cc_) (n_ - vx20_).toNat).toNat)), some (.inl (Int.tdiv (S_.2.2.1 21 (0 + (0 + cc_)) n_.toNat) 4))], [.inl 1, .inl ((S_.2.2.1 58 (0 + (3 + cc_)) (S_.2.2.1 35 (0 + cc_) (n_ - vx20_).toNat).toNat) + (S_.2.2.1 20 (0 + (0 + cc_)) n_.toNat)), .inl n_, .inr (.inr (some (99, 0)))], S_)) rfl ?_
          refine sm_T_bin (w := (S_.2.2.1 58 (0 + (3 + cc_)) (S_.2.2.1 35 (0 + cc_) (n_ - vx20_).toNat).toNat) + (S_.2.2.1 20 (0 + (0 + cc_)) n_.toNat) - 1) rfl (bi_sub (by omega) (by omega) (by omega)) ?_ -- pc_ 84
          refine sm_T_go 1 (c1 := (87, [some (.inr (.inr (some (11, 0)))), some (.inr (.inr (some (2, cc_)))), some (.inl n_), some (.inl (S_.2.2.1 58 (0 + (3 + cc_)) (S_.2.2.1 35 (0 + cc_) (n_ - vx20_).toNat).toNat)), some (.inl (Int.tdiv (S_.2.2.1 21 (0 + (0 + cc_)) n_.toNat) 4))], [.inl (Int.tdiv (S_.2.2.1 21 (0 + (0 + cc_)) n_.toNat) 4), .inl ((S_.2.2.1 58 (0 + (3 + cc_)) (S_.2.2.1 35 (0 + cc_) (n_ - vx20_).toNat).toNat) + (S_.2.2.1 20 (0 + (0 + cc_)) n_.toNat) - 1), .inl n_, .inr (.inr (some (99, 0)))], S_)) rfl ?_
          refine sm_T_bin (w := (S_.2.2.1 58 (0 + (3 + cc_)) (S_.2.2.1 35 (0 + cc_) (n_ - vx20_).toNat).toNat) + (S_.2.2.1 20 (0 + (0 + cc_)) n_.toNat) + (Int.tdiv (S_.2.2.1 21 (0 + (0 + cc_)) n_.toNat) 4) - 1) rfl (bi_add (by omega) (by omega) (by omega)) ?_ -- pc_ 87
          refine sm_T_iast (n := 162) rfl rfl (by omega) (by omega) ?_
          have hIx28_ : gi (sm_aI S_ 99 0 n_.toNat ((S_.2.2.1 58 (0 + (3 + cc_)) (S_.2.2.1 35 (0 + cc_) (n_ - vx20_).toNat).toNat) + (S_.2.2.1 20 (0 + (0 + cc_)) n_.toNat) + (Int.tdiv (S_.2.2.1 21 (0 + (0 + cc_)) n_.toNat) 4) - 1)) := gi_aI hI_ (show (-2147483648) ≤ (S_.2.2.1 58 (0 + (3 + cc_)) (S_.2.2.1 35 (0 + cc_) (n_ - vx20_).toNat).toNat) + (S_.2.2.1 20 (0 + (0 + cc_)) n_.toNat) + (Int.tdiv (S_.2.2.1 21 (0 + (0 + cc_)) n_.toNat) 4) - 1 ∧ (S_.2.2.1 58 (0 + (3 + cc_)) (S_.2.2.1 35 (0 + cc_) (n_ - vx20_).toNat).toNat) + (S_.2.2.1 20 (0 + (0 + cc_)) n_.toNat) + (Int.tdiv (S_.2.2.1 21 (0 + (0 + cc_)) n_.toNat) 4) - 1 ≤ 2147483647 from ⟨by omega, by omega⟩)
          have hFx29_ : ai_fr (sx_W vw_196) S0_ (sm_aI S_ 99 0 n_.toNat ((S_.2.2.1 58 (0 + (3 + cc_)) (S_.2.2.1 35 (0 + cc_) (n_ - vx20_).toNat).toNat) + (S_.2.2.1 20 (0 + (0 + cc_)) n_.toNat) + (Int.tdiv (S_.2.2.1 21 (0 + (0 + cc_)) n_.toNat) 4) - 1)) := ai_fr_tr hF_ (ai_fr_aI rfl)
          refine sm_T_inc (a := 2) (z := 1) (v := n_) (w := n_ + 1) rfl rfl (by omega) (by omega) (by omega) ?_ -- pc_ 89
          refine sm_T_go 1 (c1 := (2, [some (.inr (.inr (some (11, 0)))), some (.inr (.inr (some (2, cc_)))), some (.inl (n_ + 1)), some (.inl (S_.2.2.1 58 (0 + (3 + cc_)) (S_.2.2.1 35 (0 + cc_) (n_ - vx20_).toNat).toNat)), some (.inl (Int.tdiv (S_.2.2.1 21 (0 + (0 + cc_)) n_.toNat) 4))], [], sm_aI S_ 99 0 n_.toNat ((S_.2.2.1 58 (0 + (3 + cc_)) (S_.2.2.1 35 (0 + cc_) (n_ - vx20_).toNat).toNat) + (S_.2.2.1 20 (0 + (0 + cc_)) n_.toNat) + (Int.tdiv (S_.2.2.1 21 (0 + (0 + cc_)) n_.toNat) 4) - 1))) rfl ?_
          refine sm_T_wk [some (.inr (.inr (some (11, 0)))), some (.inr (.inr (some (2, cc_)))), some (.inl (n_ + 1)), none, none] (by exact ⟨rfl, rfl, rfl, trivial⟩) ?_
          refine ih_ (n_ + 1) (sm_aI S_ 99 0 n_.toNat ((S_.2.2.1 58 (0 + (3 + cc_)) (S_.2.2.1 35 (0 + cc_) (n_ - vx20_).toNat).toNat) + (S_.2.2.1 20 (0 + (0 + cc_)) n_.toNat) + (Int.tdiv (S_.2.2.1 21 (0 + (0 + cc_)) n_.toNat) 4) - 1)) hIx28_ hFx29_ ⟨?_, trivial⟩ ?_
          · omega
          · omega
        · have cx26_ : ¬ ((S_.1 2 cc_ 1) ≤ n_) := of_decide_eq_false cx26_
          refine sm_T_go 2 (c1 := (88, [some (.inr (.inr (some (11, 0)))), some (.inr (.inr (some (2, cc_)))), some (.inl n_), some (.inl (S_.2.2.1 58 (0 + (3 + cc_)) (S_.2.2.1 35 (0 + cc_) (n_ - vx20_).toNat).toNat)), some (.inl (Int.tdiv (S_.2.2.1 21 (0 + (0 + cc_)) n_.toNat) 4))], [.inl 0, .inl n_, .inr (.inr (some (99, 0)))], S_)) rfl ?_
          refine sm_T_iast (n := 162) rfl rfl (by omega) (by omega) ?_
          have hIx30_ : gi (sm_aI S_ 99 0 n_.toNat 0) := gi_aI hI_ (show (-2147483648) ≤ 0 ∧ 0 ≤ 2147483647 from ⟨by omega, by omega⟩)
          have hFx31_ : ai_fr (sx_W vw_196) S0_ (sm_aI S_ 99 0 n_.toNat 0) := ai_fr_tr hF_ (ai_fr_aI rfl)
          refine sm_T_inc (a := 2) (z := 1) (v := n_) (w := n_ + 1) rfl rfl (by omega) (by omega) (by omega) ?_ -- pc_ 89
          refine sm_T_go 1 (c1 := (2, [some (.inr (.inr (some (11, 0)))), some (.inr (.inr (some (2, cc_)))), some (.inl (n_ + 1)), some (.inl (S_.2.2.1 58 (0 + (3 + cc_)) (S_.2.2.1 35 (0 + cc_) (n_ - vx20_).toNat).toNat)), some (.inl (Int.tdiv (S_.2.2.1 21 (0 + (0 + cc_)) n_.toNat) 4))], [], sm_aI S_ 99 0 n_.toNat 0)) rfl ?_
          refine sm_T_wk [some (.inr (.inr (some (11, 0)))), some (.inr (.inr (some (2, cc_)))), some (.inl (n_ + 1)), none, none] (by exact ⟨rfl, rfl, rfl, trivial⟩) ?_
          refine ih_ (n_ + 1) (sm_aI S_ 99 0 n_.toNat 0) hIx30_ hFx31_ ⟨?_, trivial⟩ ?_
          · omega
          · omega
      · have cx14_ : ¬ (vx13_ ≤ n_) := of_decide_eq_false cx14_
        refine sm_T_go 7 (c1 := (50, [some (.inr (.inr (some (11, 0)))), some (.inr (.inr (some (2, cc_)))), some (.inl n_), some (.inl 3), none], [.inl n_, .inr (.inr (some (21, (0 + (0 + cc_)))))], S_)) rfl ?_
        refine sm_T_iald (n := 162) rfl rfl (by omega) (by omega) ?_
        have bx32_ : (-9999) ≤ S_.2.2.1 21 (0 + (0 + cc_)) n_.toNat ∧ S_.2.2.1 21 (0 + (0 + cc_)) n_.toNat ≤ 20000 := hI_.2 21 (0 + (0 + cc_)) _
        refine sm_T_go 1 (c1 := (52, [some (.inr (.inr (some (11, 0)))), some (.inr (.inr (some (2, cc_)))), some (.inl n_), some (.inl 3), none], [.inl 4, .inl (S_.2.2.1 21 (0 + (0 + cc_)) n_.toNat)], S_)) rfl ?_
        refine sm_T_bin (w := (Int.tdiv (S_.2.2.1 21 (0 + (0 + cc_)) n_.toNat) 4)) rfl (bi_dvt (by omega) (by omega)) ?_ -- pc_ 52
        have bx33_ := tdv_b (x_ := (S_.2.2.1 21 (0 + (0 + cc_)) n_.toNat)) (y_ := 4) (M_ := 20000) (by omega) (by omega)
        have bx34_ : 0 ≤ S_.1 2 cc_ 1 ∧ S_.1 2 cc_ 1 ≤ 12 := hI_.1 2 cc_ 1 rfl
        refine sm_T_go 7 (c1 := (65, [some (.inr (.inr (some (11, 0)))), some (.inr (.inr (some (2, cc_)))), some (.inl n_), some (.inl 3), some (.inl (Int.tdiv (S_.2.2.1 21 (0 + (0 + cc_)) n_.toNat) 4))], [.inl (S_.1 2 cc_ 1), .inl n_, .inl n_, .inr (.inr (some (99, 0)))], S_)) rfl ?_
        refine sm_T_br (a := 3) (z := 7) rfl (fun cx35_ => ?_) (fun cx35_ => ?_)
        · have cx35_ : (S_.1 2 cc_ 1) ≤ n_ := of_decide_eq_true cx35_
          refine sm_T_go 5 (c1 := (81, [some (.inr (.inr (some (11, 0)))), some (.inr (.inr (some (2, cc_)))), some (.inl n_), some (.inl 3), some (.inl (Int.tdiv (S_.2.2.1 21 (0 + (0 + cc_)) n_.toNat) 4))], [.inl n_, .inr (.inr (some (20, (0 + (0 + cc_))))), .inl 3, .inl n_, .inr (.inr (some (99, 0)))], S_)) rfl ?_
          refine sm_T_iald (n := 162) rfl rfl (by omega) (by omega) ?_
          have bx36_ : 0 ≤ S_.2.2.1 20 (0 + (0 + cc_)) n_.toNat ∧ S_.2.2.1 20 (0 + (0 + cc_)) n_.toNat ≤ 652 := hI_.2 20 (0 + (0 + cc_)) _
          refine sm_T_bin (w := (S_.2.2.1 20 (0 + (0 + cc_)) n_.toNat) + 3) rfl (bi_add (by omega) (by omega) (by omega)) ?_ -- pc_ 82
          refine sm_T_go 1 (c1 := (84, [some (.inr (.inr (some (11, 0)))), some (.inr (.inr (some (2, cc_)))), some (.inl n_), some (.inl 3), some (.inl (Int.tdiv (S_.2.2.1 21 (0 + (0 + cc_)) n_.toNat) 4))], [.inl 1, .inl ((S_.2.2.1 20 (0 + (0 + cc_)) n_.toNat) + 3), .inl n_, .inr (.inr (some (99, 0)))], S_)) rfl ?_
          refine sm_T_bin (w := (S_.2.2.1 20 (0 + (0 + cc_)) n_.toNat) + 2) rfl (bi_sub (by omega) (by omega) (by omega)) ?_ -- pc_ 84
          refine sm_T_go 1 (c1 := (87, [some (.inr (.inr (some (11, 0)))), some (.inr (.inr (some (2, cc_)))), some (.inl n_), some (.inl 3), some (.inl (Int.tdiv (S_.2.2.1 21 (0 + (0 + cc_)) n_.toNat) 4))], [.inl (Int.tdiv (S_.2.2.1 21 (0 + (0 + cc_)) n_.toNat) 4), .inl ((S_.2.2.1 20 (0 + (0 + cc_)) n_.toNat) + 2), .inl n_, .inr (.inr (some (99, 0)))], S_)) rfl ?_
          refine sm_T_bin (w := (S_.2.2.1 20 (0 + (0 + cc_)) n_.toNat) + (Int.tdiv (S_.2.2.1 21 (0 + (0 + cc_)) n_.toNat) 4) + 2) rfl (bi_add (by omega) (by omega) (by omega)) ?_ -- pc_ 87
          refine sm_T_iast (n := 162) rfl rfl (by omega) (by omega) ?_
          have hIx37_ : gi (sm_aI S_ 99 0 n_.toNat ((S_.2.2.1 20 (0 + (0 + cc_)) n_.toNat) + (Int.tdiv (S_.2.2.1 21 (0 + (0 + cc_)) n_.toNat) 4) + 2)) := gi_aI hI_ (show (-2147483648) ≤ (S_.2.2.1 20 (0 + (0 + cc_)) n_.toNat) + (Int.tdiv (S_.2.2.1 21 (0 + (0 + cc_)) n_.toNat) 4) + 2 ∧ (S_.2.2.1 20 (0 + (0 + cc_)) n_.toNat) + (Int.tdiv (S_.2.2.1 21 (0 + (0 + cc_)) n_.toNat) 4) + 2 ≤ 2147483647 from ⟨by omega, by omega⟩)
          have hFx38_ : ai_fr (sx_W vw_196) S0_ (sm_aI S_ 99 0 n_.toNat ((S_.2.2.1 20 (0 + (0 + cc_)) n_.toNat) + (Int.tdiv (S_.2.2.1 21 (0 + (0 + cc_)) n_.toNat) 4) + 2)) := ai_fr_tr hF_ (ai_fr_aI rfl)
          refine sm_T_inc (a := 2) (z := 1) (v := n_) (w := n_ + 1) rfl rfl (by omega) (by omega) (by omega) ?_ -- pc_ 89
          refine sm_T_go 1 (c1 := (2, [some (.inr (.inr (some (11, 0)))), some (.inr (.inr (some (2, cc_)))), some (.inl (n_ + 1)), some (.inl 3), some (.inl (Int.tdiv (S_.2.2.1 21 (0 + (0 + cc_)) n_.toNat) 4))], [], sm_aI S_ 99 0 n_.toNat ((S_.2.2.1 20 (0 + (0 + cc_)) n_.toNat) + (Int.tdiv (S_.2.2.1 21 (0 + (0 + cc_)) n_.toNat) 4) + 2))) rfl ?_
          refine sm_T_wk [some (.inr (.inr (some (11, 0)))), some (.inr (.inr (some (2, cc_)))), some (.inl (n_ + 1)), none, none] (by exact ⟨rfl, rfl, rfl, trivial⟩) ?_
          refine ih_ (n_ + 1) (sm_aI S_ 99 0 n_.toNat ((S_.2.2.1 20 (0 + (0 + cc_)) n_.toNat) + (Int.tdiv (S_.2.2.1 21 (0 + (0 + cc_)) n_.toNat) 4) + 2)) hIx37_ hFx38_ ⟨?_, trivial⟩ ?_
          · omega
          · omega
        · have cx35_ : ¬ ((S_.1 2 cc_ 1) ≤ n_) := of_decide_eq_false cx35_
          refine sm_T_go 2 (c1 := (88, [some (.inr (.inr (some (11, 0)))), some (.inr (.inr (some (2, cc_)))), some (.inl n_), some (.inl 3), some (.inl (Int.tdiv (S_.2.2.1 21 (0 + (0 + cc_)) n_.toNat) 4))], [.inl 0, .inl n_, .inr (.inr (some (99, 0)))], S_)) rfl ?_
          refine sm_T_iast (n := 162) rfl rfl (by omega) (by omega) ?_
          have hIx39_ : gi (sm_aI S_ 99 0 n_.toNat 0) := gi_aI hI_ (show (-2147483648) ≤ 0 ∧ 0 ≤ 2147483647 from ⟨by omega, by omega⟩)
          have hFx40_ : ai_fr (sx_W vw_196) S0_ (sm_aI S_ 99 0 n_.toNat 0) := ai_fr_tr hF_ (ai_fr_aI rfl)
          refine sm_T_inc (a := 2) (z := 1) (v := n_) (w := n_ + 1) rfl rfl (by omega) (by omega) (by omega) ?_ -- pc_ 89
          refine sm_T_go 1 (c1 := (2, [some (.inr (.inr (some (11, 0)))), some (.inr (.inr (some (2, cc_)))), some (.inl (n_ + 1)), some (.inl 3), some (.inl (Int.tdiv (S_.2.2.1 21 (0 + (0 + cc_)) n_.toNat) 4))], [], sm_aI S_ 99 0 n_.toNat 0)) rfl ?_
          refine sm_T_wk [some (.inr (.inr (some (11, 0)))), some (.inr (.inr (some (2, cc_)))), some (.inl (n_ + 1)), none, none] (by exact ⟨rfl, rfl, rfl, trivial⟩) ?_
          refine ih_ (n_ + 1) (sm_aI S_ 99 0 n_.toNat 0) hIx39_ hFx40_ ⟨?_, trivial⟩ ?_
          · omega
          · omega
set_option maxHeartbeats 400000 in
theorem vc_196 {sc_ : Nat × (Nat → Int)} (cc_ : Nat) (S0_ : sm_S) (hI_ : gi S0_) (hs_ : S0_.1 2 cc_ 1 + S0_.1 2 cc_ 2 ≤ 12) : sm_T (mt_P sc_) 1 196 (0, [some (.inr (.inr (some (11, 0)))), some (.inr (.inr (some (2, cc_)))), none, none, none], [], S0_) (fun ro9_ => ∃ u_ S1_, ro9_ = (.inl u_, S1_, 0) ∧ vq_196 cc_ S0_ u_ S1_) := by
  have hF_ : ai_fr (sx_W vw_196) S0_ S0_ := ai_fr_rf
  refine sm_T_go 2 (c1 := (2, [some (.inr (.inr (some (11, 0)))), some (.inr (.inr (some (2, cc_)))), some (.inl 0), none, none], [], S0_)) rfl ?_
  refine (vl_196 cc_ S0_ hs_ _) 0 S0_ hI_ hF_ ⟨?_, trivial⟩ (Nat.lt_succ_self _)
  · omega
