/-! Times.findRest -/
def vw_200 : sx_Wl := ([], [101], [])
def vq_200 (cc_ : Nat) (S0_ : sm_S) (u_ : Option sm_V) (S1_ : sm_S) : Prop := u_ = none ∧ gi S1_ ∧ ai_fr (sx_W vw_200) S0_ S1_ ∧ (True)
set_option maxHeartbeats 400000 in
set_option maxRecDepth 20000 in
theorem vl_200 {sc_ : Nat × (Nat → Int)} (cc_ : Nat) (S0_ : sm_S) (hs_ : S0_.1 2 cc_ 1 + S0_.1 2 cc_ 2 ≤ 12) : ∀ nn_ : Nat, (∀ (n_ : Int) (S_ : sm_S), gi S_ → ai_fr (sx_W vw_200) S0_ S_ → ((0 ≤ n_ ∧ n_ ≤ 12) ∧ True) → ((100000 * (20 - n_) + 90000).toNat) < nn_ → sm_T (mt_P sc_) 1 200 (10, [some (.inr (.inr (some (11, 0)))), some (.inr (.inr (some (2, cc_)))), some (.inl n_), none, none, none, none, none], [], S_) (fun ro9_ => ∃ u_ S1_, ro9_ = (.inl u_, S1_, 0) ∧ vq_200 cc_ S0_ u_ S1_)) ∧ (∀ (n_ : Int) (bs_ : Int) (e_ : Int) (S_ : sm_S), gi S_ → ai_fr (sx_W vw_200) S0_ S_ → ((0 ≤ n_ ∧ n_ < 12 ∧ bs_ = 162 * n_ ∧ 0 ≤ e_ ∧ e_ ≤ 22) ∧ True) → ((100000 * (20 - n_) + 80000 - e_).toNat) < nn_ → sm_T (mt_P sc_) 1 200 (27, [some (.inr (.inr (some (11, 0)))), some (.inr (.inr (some (2, cc_)))), some (.inl n_), some (.inl bs_), some (.inl e_), none, none, none], [], S_) (fun ro9_ => ∃ u_ S1_, ro9_ = (.inl u_, S1_, 0) ∧ vq_200 cc_ S0_ u_ S1_)) ∧ (∀ (n_ : Int) (bs_ : Int) (g_ : Int) (S_ : sm_S), gi S_ → ai_fr (sx_W vw_200) S0_ S_ → ((0 ≤ n_ ∧ n_ < 12 ∧ bs_ = 162 * n_ ∧ -1 ≤ g_ ∧ g_ ≤ 149) ∧ True) → ((100000 * (20 - n_) + 10 * g_ + 20).toNat) < nn_ → sm_T (mt_P sc_) 1 200 (112, [some (.inr (.inr (some (11, 0)))), some (.inr (.inr (some (2, cc_)))), some (.inl n_), some (.inl bs_), some (.inl g_), none, none, none], [], S_) (fun ro9_ => ∃ u_ S1_, ro9_ = (.inl u_, S1_, 0) ∧ vq_200 cc_ S0_ u_ S1_)) ∧ (∀ (n_ : Int) (bs_ : Int) (g_ : Int) (nt_ : Int) (k_ : Int) (S_ : sm_S), gi S_ → ai_fr (sx_W vw_200) S0_ S_ → ((0 ≤ n_ ∧ n_ < 12 ∧ bs_ = 162 * n_ ∧ 0 ≤ g_ ∧ g_ ≤ 149 ∧ 0 ≤ nt_ ∧ nt_ ≤ 161 ∧ 0 ≤ k_ ∧ k_ ≤ 3) ∧ True) → ((100000 * (20 - n_) + 10 * g_ + 19 - k_).toNat) < nn_ → sm_T (mt_P sc_) 1 200 (129, [some (.inr (.inr (some (11, 0)))), some (.inr (.inr (some (2, cc_)))), some (.inl n_), some (.inl bs_), some (.inl g_), some (.inl nt_), some (.inl k_), none], [], S_) (fun ro9_ => ∃ u_ S1_, ro9_ = (.inl u_, S1_, 0) ∧ vq_200 cc_ S0_ u_ S1_)) := by
  intro nn_
  induction nn_ with
  | zero => exact ⟨fun _ _ _ _ _ h_ => absurd h_ (Nat.not_lt_zero _), fun _ _ _ _ _ _ _ h_ => absurd h_ (Nat.not_lt_zero _), fun _ _ _ _ _ _ _ h_ => absurd h_ (Nat.not_lt_zero _), fun _ _ _ _ _ _ _ _ _ h_ => absurd h_ (Nat.not_lt_zero _)⟩
  | succ nn_ ih_ =>
    refine ⟨?_, ?_, ?_, ?_⟩
    · rintro n_ S_ hI_ hF_ ⟨h0_, -⟩ hm_
      have z1_ : S_.1 2 cc_ 1 = S0_.1 2 cc_ 1 := hF_.1 2 cc_ 1 rfl
      have z2_ : S_.1 2 cc_ 2 = S0_.1 2 cc_ 2 := hF_.1 2 cc_ 2 rfl
      have cg9_ : 0 ≤ S_.1 2 cc_ 8 ∧ S_.1 2 cc_ 8 ≤ 150 := hI_.1 2 cc_ 8 rfl
      have ci_ : 0 ≤ S_.1 2 cc_ 1 ∧ S_.1 2 cc_ 1 ≤ 12 := hI_.1 2 cc_ 1 rfl
      have cr : 0 ≤ S_.1 2 cc_ 2 ∧ S_.1 2 cc_ 2 ≤ 6 := hI_.1 2 cc_ 2 rfl
      have co_ : 0 ≤ S_.1 2 cc_ 3 ∧ S_.1 2 cc_ 3 ≤ 16 := hI_.1 2 cc_ 3 rfl
      refine sm_T_go 2 (c1 := (12, [some (.inr (.inr (some (11, 0)))), some (.inr (.inr (some (2, cc_)))), some (.inl n_), none, none, none, none, none], [.inr (.inr (some (2, cc_))), .inl n_], S_)) rfl ?_
      refine sm_T_cal (d1 := 0) (Q1 := vq_54 cc_ S_) rfl rfl (by decide) (vc_54 cc_ S_ hI_ ) (fun u_ Sx1_ px4_ => ?_)
      obtain ⟨rfl, vx6_, rfl, px4_⟩ := px4_
      have fg12_ := px4_.2
      refine sm_T_br (a := 3) (z := 206) rfl (fun cx7_ => ?_) (fun cx7_ => ?_)
      · have cx7_ : vx6_ ≤ n_ := of_decide_eq_true cx7_
        refine sm_T_rv rfl ⟨_, _, rfl, rfl, hI_, hF_, ?_⟩
        trivial
      · have cx7_ : ¬ (vx6_ ≤ n_) := of_decide_eq_false cx7_
        refine sm_T_go 2 (c1 := (22, [some (.inr (.inr (some (11, 0)))), some (.inr (.inr (some (2, cc_)))), some (.inl n_), none, none, none, none, none], [.inl 162, .inl n_], S_)) rfl ?_
        refine sm_T_bin (w := 162 * n_) rfl (bi_mul (by omega) (by omega) (by omega)) ?_ -- pc_ 22
        refine sm_T_go 3 (c1 := (27, [some (.inr (.inr (some (11, 0)))), some (.inr (.inr (some (2, cc_)))), some (.inl n_), some (.inl (162 * n_)), some (.inl 0), none, none, none], [], S_)) rfl ?_
        refine ih_.2.1 n_ (162 * n_) 0 S_ hI_ hF_ ⟨?_, trivial⟩ ?_
        · omega
        · omega
    · rintro n_ bs_ e_ S_ hI_ hF_ ⟨h0_, -⟩ hm_
      have z1_ : S_.1 2 cc_ 1 = S0_.1 2 cc_ 1 := hF_.1 2 cc_ 1 rfl
      have z2_ : S_.1 2 cc_ 2 = S0_.1 2 cc_ 2 := hF_.1 2 cc_ 2 rfl
      have cg9_ : 0 ≤ S_.1 2 cc_ 8 ∧ S_.1 2 cc_ 8 ≤ 150 := hI_.1 2 cc_ 8 rfl
      have ci_ : 0 ≤ S_.1 2 cc_ 1 ∧ S_.1 2 cc_ 1 ≤ 12 := hI_.1 2 cc_ 1 rfl
      have cr : 0 ≤ S_.1 2 cc_ 2 ∧ S_.1 2 cc_ 2 ≤ 6 := hI_.1 2 cc_ 2 rfl
      have co_ : 0 ≤ S_.1 2 cc_ 3 ∧ S_.1 2 cc_ 3 ≤ 16 := hI_.1 2 cc_ 3 rfl
      refine sm_T_go 2 (c1 := (30, [some (.inr (.inr (some (11, 0)))), some (.inr (.inr (some (2, cc_)))), some (.inl n_), some (.inl bs_), some (.inl e_), none, none, none], [.inr (.inr (some (2, cc_))), .inl e_], S_)) rfl ?_
      refine sm_T_cal (d1 := 0) (Q1 := vq_57 cc_ S_) rfl rfl (by decide) (vc_57 cc_ S_ hI_ ) (fun u_ Sx1_ px4_ => ?_)
      obtain ⟨rfl, vx6_, rfl, px4_⟩ := px4_
      have nt30_ := px4_.2
      refine sm_T_br (a := 3) (z := 71) rfl (fun cx7_ => ?_) (fun cx7_ => ?_)
      · have cx7_ : vx6_ ≤ e_ := of_decide_eq_true cx7_
        have bx8_ : 0 ≤ S_.1 2 cc_ 8 ∧ S_.1 2 cc_ 8 ≤ 150 := hI_.1 2 cc_ 8 rfl
        refine sm_T_go 3 (c1 := (109, [some (.inr (.inr (some (11, 0)))), some (.inr (.inr (some (2, cc_)))), some (.inl n_), some (.inl bs_), some (.inl e_), none, none, none], [.inl 1, .inl (S_.1 2 cc_ 8)], S_)) rfl ?_
        refine sm_T_bin (w := (S_.1 2 cc_ 8) - 1) rfl (bi_sub (by omega) (by omega) (by omega)) ?_ -- pc_ 109
        refine sm_T_go 1 (c1 := (112, [some (.inr (.inr (some (11, 0)))), some (.inr (.inr (some (2, cc_)))), some (.inl n_), some (.inl bs_), some (.inl ((S_.1 2 cc_ 8) - 1)), none, none, none], [], S_)) rfl ?_
        refine ih_.2.2.1 n_ bs_ ((S_.1 2 cc_ 8) - 1) S_ hI_ hF_ ⟨?_, trivial⟩ ?_
        · omega
        · omega
      · have cx7_ : ¬ (vx6_ ≤ e_) := of_decide_eq_false cx7_
        refine sm_T_go 2 (c1 := (39, [some (.inr (.inr (some (11, 0)))), some (.inr (.inr (some (2, cc_)))), some (.inl n_), some (.inl bs_), some (.inl e_), none, none, none], [.inl e_, .inr (.inr (some (2, cc_)))], S_)) rfl ?_
        refine sm_T_cal (d1 := 0) (Q1 := vq_58 e_ cc_ S_) rfl rfl (by decide) (vc_58 e_ cc_ S_ hI_ (by omega)) (fun u_ Sx9_ px12_ => ?_)
        obtain ⟨rfl, vx14_, rfl, px12_⟩ := px12_
        have en39_ := px12_
        refine sm_T_go 2 (c1 := (46, [some (.inr (.inr (some (11, 0)))), some (.inr (.inr (some (2, cc_)))), some (.inl n_), some (.inl bs_), some (.inl e_), some (.inl vx14_), none, none], [.inl vx14_], S_)) rfl ?_
        refine sm_T_b0 (a := 2) (z := 52) rfl (fun cx15_ => ?_) (fun cx15_ => ?_)
        · have cx15_ : vx14_ < 0 := of_decide_eq_true cx15_
          refine sm_T_inc (a := 4) (z := 1) (v := e_) (w := e_ + 1) rfl rfl (by omega) (by omega) (by omega) ?_ -- pc_ 98
          refine sm_T_go 1 (c1 := (27, [some (.inr (.inr (some (11, 0)))), some (.inr (.inr (some (2, cc_)))), some (.inl n_), some (.inl bs_), some (.inl (e_ + 1)), some (.inl vx14_), none, none], [], S_)) rfl ?_
          refine sm_T_wk [some (.inr (.inr (some (11, 0)))), some (.inr (.inr (some (2, cc_)))), some (.inl n_), some (.inl bs_), some (.inl (e_ + 1)), none, none, none] (by exact ⟨rfl, rfl, rfl, rfl, rfl, trivial⟩) ?_
          refine ih_.2.1 n_ bs_ (e_ + 1) S_ hI_ hF_ ⟨?_, trivial⟩ ?_
          · omega
          · omega
        · have cx15_ : ¬ (vx14_ < 0) := of_decide_eq_false cx15_
          refine sm_T_go 3 (c1 := (54, [some (.inr (.inr (some (11, 0)))), some (.inr (.inr (some (2, cc_)))), some (.inl n_), some (.inl bs_), some (.inl e_), some (.inl vx14_), none, none], [.inl n_, .inr (.inr (some (39, (0 + cc_))))], S_)) rfl ?_
          refine sm_T_iald (n := 12) rfl rfl (by omega) (by omega) ?_
          have bx16_ : 0 ≤ S_.2.2.1 39 (0 + cc_) n_.toNat ∧ S_.2.2.1 39 (0 + cc_) n_.toNat ≤ 4194303 := hI_.2 39 (0 + cc_) _
          refine sm_T_go 1 (c1 := (57, [some (.inr (.inr (some (11, 0)))), some (.inr (.inr (some (2, cc_)))), some (.inl n_), some (.inl bs_), some (.inl e_), some (.inl vx14_), none, none], [.inl e_, .inl (S_.2.2.1 39 (0 + cc_) n_.toNat)], S_)) rfl ?_
          refine sm_T_bin (w := (i_shr (S_.2.2.1 39 (0 + cc_) n_.toNat) e_)) rfl rfl ?_ -- pc_ 57
          first | have bx17_ := i_shr_p (x_ := (S_.2.2.1 39 (0 + cc_) n_.toNat)) (e_ := e_) (by omega) (by omega) (by omega) | have bx17_ := i_shr_n (S_.2.2.1 39 (0 + cc_) n_.toNat) e_
          refine sm_T_go 1 (c1 := (59, [some (.inr (.inr (some (11, 0)))), some (.inr (.inr (some (2, cc_)))), some (.inl n_), some (.inl bs_), some (.inl e_), some (.inl vx14_), none, none], [.inl 1, .inl (i_shr (S_.2.2.1 39 (0 + cc_) n_.toNat) e_)], S_)) rfl ?_
          refine sm_T_bin (w := ((i_shr (S_.2.2.1 39 (0 + cc_) n_.toNat) e_) % 2)) rfl (bi_msk (k := 1) (by decide)) ?_ -- pc_ 59
          refine sm_T_b0 (a := 1) (z := 38) rfl (fun cx18_ => ?_) (fun cx18_ => ?_)
          · have cx18_ : ((i_shr (S_.2.2.1 39 (0 + cc_) n_.toNat) e_) % 2) ≠ 0 := of_decide_eq_true cx18_
            refine sm_T_inc (a := 4) (z := 1) (v := e_) (w := e_ + 1) rfl rfl (by omega) (by omega) (by omega) ?_ -- pc_ 98
            refine sm_T_go 1 (c1 := (27, [some (.inr (.inr (some (11, 0)))), some (.inr (.inr (some (2, cc_)))), some (.inl n_), some (.inl bs_), some (.inl (e_ + 1)), some (.inl vx14_), none, none], [], S_)) rfl ?_
            refine sm_T_wk [some (.inr (.inr (some (11, 0)))), some (.inr (.inr (some (2, cc_)))), some (.inl n_), some (.inl bs_), some (.inl (e_ + 1)), none, none, none] (by exact ⟨rfl, rfl, rfl, rfl, rfl, trivial⟩) ?_
            refine ih_.2.1 n_ bs_ (e_ + 1) S_ hI_ hF_ ⟨?_, trivial⟩ ?_
            · omega
            · omega
          · have cx18_ : ¬ (((i_shr (S_.2.2.1 39 (0 + cc_) n_.toNat) e_) % 2) ≠ 0) := of_decide_eq_false cx18_
            refine sm_T_go 4 (c1 := (70, [some (.inr (.inr (some (11, 0)))), some (.inr (.inr (some (2, cc_)))), some (.inl n_), some (.inl bs_), some (.inl e_), some (.inl vx14_), none, none], [.inl vx14_, .inl bs_, .inr (.inr (some (101, 0)))], S_)) rfl ?_
            refine sm_T_bin (w := bs_ + vx14_) rfl (bi_add (by omega) (by omega) (by omega)) ?_ -- pc_ 70
            refine sm_T_go 4 (c1 := (78, [some (.inr (.inr (some (11, 0)))), some (.inr (.inr (some (2, cc_)))), some (.inl n_), some (.inl bs_), some (.inl e_), some (.inl vx14_), none, none], [.inl vx14_, .inl bs_, .inr (.inr (some (101, 0))), .inl (bs_ + vx14_), .inr (.inr (some (101, 0)))], S_)) rfl ?_
            refine sm_T_bin (w := bs_ + vx14_) rfl (bi_add (by omega) (by omega) (by omega)) ?_ -- pc_ 78
            refine sm_T_iald (n := 1944) rfl rfl (by omega) (by omega) ?_
            have bx19_ : (-2147483648) ≤ S_.2.2.1 101 0 (bs_ + vx14_).toNat ∧ S_.2.2.1 101 0 (bs_ + vx14_).toNat ≤ 2147483647 := hI_.2 101 0 _
            have bx20_ : 0 ≤ S_.1 2 cc_ 3 ∧ S_.1 2 cc_ 3 ≤ 16 := hI_.1 2 cc_ 3 rfl
            refine sm_T_go 3 (c1 := (86, [some (.inr (.inr (some (11, 0)))), some (.inr (.inr (some (2, cc_)))), some (.inl n_), some (.inl bs_), some (.inl e_), some (.inl vx14_), none, none], [.inl (S_.1 2 cc_ 3), .inl e_, .inl (S_.2.2.1 101 0 (bs_ + vx14_).toNat), .inl (bs_ + vx14_), .inr (.inr (some (101, 0)))], S_)) rfl ?_
            refine sm_T_br (a := 3) (z := 7) rfl (fun cx21_ => ?_) (fun cx21_ => ?_)
            · have cx21_ : (S_.1 2 cc_ 3) ≤ e_ := of_decide_eq_true cx21_
              refine sm_T_go 1 (c1 := (94, [some (.inr (.inr (some (11, 0)))), some (.inr (.inr (some (2, cc_)))), some (.inl n_), some (.inl bs_), some (.inl e_), some (.inl vx14_), none, none], [.inl 2, .inl (S_.2.2.1 101 0 (bs_ + vx14_).toNat), .inl (bs_ + vx14_), .inr (.inr (some (101, 0)))], S_)) rfl ?_
              refine sm_T_nt (u := some (.inl (sm_mx (S_.2.2.1 101 0 (bs_ + vx14_).toNat) 2))) (S1 := S_) rfl rfl rfl ?_
              have bx22_ := sm_mx_d (S_.2.2.1 101 0 (bs_ + vx14_).toNat) 2
              refine sm_T_iast (n := 1944) rfl rfl (by omega) (by omega) ?_
              have hIx23_ : gi (sm_aI S_ 101 0 (bs_ + vx14_).toNat (sm_mx (S_.2.2.1 101 0 (bs_ + vx14_).toNat) 2)) := gi_aI hI_ (show (-2147483648) ≤ (sm_mx (S_.2.2.1 101 0 (bs_ + vx14_).toNat) 2) ∧ (sm_mx (S_.2.2.1 101 0 (bs_ + vx14_).toNat) 2) ≤ 2147483647 from ⟨by omega, by omega⟩)
              have hFx24_ : ai_fr (sx_W vw_200) S0_ (sm_aI S_ 101 0 (bs_ + vx14_).toNat (sm_mx (S_.2.2.1 101 0 (bs_ + vx14_).toNat) 2)) := ai_fr_tr hF_ (ai_fr_aI rfl)
              refine sm_T_inc (a := 4) (z := 1) (v := e_) (w := e_ + 1) rfl rfl (by omega) (by omega) (by omega) ?_ -- pc_ 98
              refine sm_T_go 1 (c1 := (27, [some (.inr (.inr (some (11, 0)))), some (.inr (.inr (some (2, cc_)))), some (.inl n_), some (.inl bs_), some (.inl (e_ + 1)), some (.inl vx14_), none, none], [], sm_aI S_ 101 0 (bs_ + vx14_).toNat (sm_mx (S_.2.2.1 101 0 (bs_ + vx14_).toNat) 2))) rfl ?_
              refine sm_T_wk [some (.inr (.inr (some (11, 0)))), some (.inr (.inr (some (2, cc_)))), some (.inl n_), some (.inl bs_), some (.inl (e_ + 1)), none, none, none] (by exact ⟨rfl, rfl, rfl, rfl, rfl, trivial⟩) ?_
              refine ih_.2.1 n_ bs_ (e_ + 1) (sm_aI S_ 101 0 (bs_ + vx14_).toNat (sm_mx (S_.2.2.1 101 0 (bs_ + vx14_).toNat) 2)) hIx23_ hFx24_ ⟨?_, trivial⟩ ?_
              · omega
              · omega
            · have cx21_ : ¬ ((S_.1 2 cc_ 3) ≤ e_) := of_decide_eq_false cx21_
              refine sm_T_go 2 (c1 := (94, [some (.inr (.inr (some (11, 0)))), some (.inr (.inr (some (2, cc_)))), some (.inl n_), some (.inl bs_), some (.inl e_), some (.inl vx14_), none, none], [.inl 0, .inl (S_.2.2.1 101 0 (bs_ + vx14_).toNat), .inl (bs_ + vx14_), .inr (.inr (some (101, 0)))], S_)) rfl ?_
              refine sm_T_nt (u := some (.inl (sm_mx (S_.2.2.1 101 0 (bs_ + vx14_).toNat) 0))) (S1 := S_) rfl rfl rfl ?_
              have bx25_ := sm_mx_d (S_.2.2.1 101 0 (bs_ + vx14_).toNat) 0
              refine sm_T_iast (n := 1944) rfl rfl (by omega) (by omega) ?_
              have hIx26_ : gi (sm_aI S_ 101 0 (bs_ + vx14_).toNat (sm_mx (S_.2.2.1 101 0 (bs_ + vx14_).toNat) 0)) := gi_aI hI_ (show (-2147483648) ≤ (sm_mx (S_.2.2.1 101 0 (bs_ + vx14_).toNat) 0) ∧ (sm_mx (S_.2.2.1 101 0 (bs_ + vx14_).toNat) 0) ≤ 2147483647 from ⟨by omega, by omega⟩)
              have hFx27_ : ai_fr (sx_W vw_200) S0_ (sm_aI S_ 101 0 (bs_ + vx14_).toNat (sm_mx (S_.2.2.1 101 0 (bs_ + vx14_).toNat) 0)) := ai_fr_tr hF_ (ai_fr_aI rfl)
              refine sm_T_inc (a := 4) (z := 1) (v := e_) (w := e_ + 1) rfl rfl (by omega) (by omega) (by omega) ?_ -- pc_ 98
              refine sm_T_go 1 (c1 := (27, [some (.inr (.inr (some (11, 0)))), some (.inr (.inr (some (2, cc_)))), some (.inl n_), some (.inl bs_), some (.inl (e_ + 1)), some (.inl vx14_), none, none], [], sm_aI S_ 101 0 (bs_ + vx14_).toNat (sm_mx (S_.2.2.1 101 0 (bs_ + vx14_).toNat) 0))) rfl ?_
              refine sm_T_wk [some (.inr (.inr (some (11, 0)))), some (.inr (.inr (some (2, cc_)))), some (.inl n_), some (.inl bs_), some (.inl (e_ + 1)), none, none, none] (by exact ⟨rfl, rfl, rfl, rfl, rfl, trivial⟩) ?_
              refine ih_.2.1 n_ bs_ (e_ + 1) (sm_aI S_ 101 0 (bs_ + vx14_).toNat (sm_mx (S_.2.2.1 101 0 (bs_ + vx14_).toNat) 0)) hIx26_ hFx27_ ⟨?_, trivial⟩ ?_
              · omega
              · omega
    · rintro n_ bs_ g_ S_ hI_ hF_ ⟨h0_, -⟩ hm_
      have z1_ : S_.1 2 cc_ 1 = S0_.1 2 cc_ 1 := hF_.1 2 cc_ 1 rfl
      have z2_ : S_.1 2 cc_ 2 = S0_.1 2 cc_ 2 := hF_.1 2 cc_ 2 rfl
      have cg9_ : 0 ≤ S_.1 2 cc_ 8 ∧ S_.1 2 cc_ 8 ≤ 150 := hI_.1 2 cc_ 8 rfl
      have ci_ : 0 ≤ S_.1 2 cc_ 1 ∧ S_.1 2 cc_ 1 ≤ 12 := hI_.1 2 cc_ 1 rfl
      have cr : 0 ≤ S_.1 2 cc_ 2 ∧ S_.1 2 cc_ 2 ≤ 6 := hI_.1 2 cc_ 2 rfl
      have co_ : 0 ≤ S_.1 2 cc_ 3 ∧ S_.1 2 cc_ 3 ≤ 16 := hI_.1 2 cc_ 3 rfl
      refine sm_T_go 1 (c1 := (114, [some (.inr (.inr (some (11, 0)))), some (.inr (.inr (some (2, cc_)))), some (.inl n_), some (.inl bs_), some (.inl g_), none, none, none], [.inl g_], S_)) rfl ?_
      refine sm_T_b0 (a := 2) (z := 101) rfl (fun cx1_ => ?_) (fun cx1_ => ?_)
      · have cx1_ : g_ < 0 := of_decide_eq_true cx1_
        refine sm_T_inc (a := 2) (z := 1) (v := n_) (w := n_ + 1) rfl rfl (by omega) (by omega) (by omega) ?_ -- pc_ 215
        refine sm_T_go 1 (c1 := (10, [some (.inr (.inr (some (11, 0)))), some (.inr (.inr (some (2, cc_)))), some (.inl (n_ + 1)), some (.inl bs_), some (.inl g_), none, none, none], [], S_)) rfl ?_
        refine sm_T_wk [some (.inr (.inr (some (11, 0)))), some (.inr (.inr (some (2, cc_)))), some (.inl (n_ + 1)), none, none, none, none, none] (by exact ⟨rfl, rfl, rfl, trivial⟩) ?_
        refine ih_.1 (n_ + 1) S_ hI_ hF_ ⟨?_, trivial⟩ ?_
        · omega
        · omega
      · have cx1_ : ¬ (g_ < 0) := of_decide_eq_false cx1_
        refine sm_T_go 1 (c1 := (118, [some (.inr (.inr (some (11, 0)))), some (.inr (.inr (some (2, cc_)))), some (.inl n_), some (.inl bs_), some (.inl g_), none, none, none], [.inr (.inr (some (2, cc_)))], S_)) rfl ?_
        refine sm_T_cal (d1 := 0) (Q1 := vq_54 cc_ S_) rfl rfl (by decide) (vc_54 cc_ S_ hI_ ) (fun u_ Sx2_ px5_ => ?_)
        obtain ⟨rfl, vx7_, rfl, px5_⟩ := px5_
        have fg118_ := px5_.2
        refine sm_T_go 1 (c1 := (123, [some (.inr (.inr (some (11, 0)))), some (.inr (.inr (some (2, cc_)))), some (.inl n_), some (.inl bs_), some (.inl g_), none, none, none], [.inl g_, .inl vx7_], S_)) rfl ?_
        refine sm_T_bin (w := vx7_ + g_) rfl (bi_add (by omega) (by omega) (by omega)) ?_ -- pc_ 123
        refine sm_T_go 3 (c1 := (129, [some (.inr (.inr (some (11, 0)))), some (.inr (.inr (some (2, cc_)))), some (.inl n_), some (.inl bs_), some (.inl g_), some (.inl (vx7_ + g_)), some (.inl 0), none], [], S_)) rfl ?_
        refine ih_.2.2.2 n_ bs_ g_ (vx7_ + g_) 0 S_ hI_ hF_ ⟨?_, trivial⟩ ?_
        · omega
        · omega
    · rintro n_ bs_ g_ nt_ k_ S_ hI_ hF_ ⟨h0_, -⟩ hm_
      have z1_ : S_.1 2 cc_ 1 = S0_.1 2 cc_ 1 := hF_.1 2 cc_ 1 rfl
      have z2_ : S_.1 2 cc_ 2 = S0_.1 2 cc_ 2 := hF_.1 2 cc_ 2 rfl
      have cg9_ : 0 ≤ S_.1 2 cc_ 8 ∧ S_.1 2 cc_ 8 ≤ 150 := hI_.1 2 cc_ 8 rfl
      have ci_ : 0 ≤ S_.1 2 cc_ 1 ∧ S_.1 2 cc_ 1 ≤ 12 := hI_.1 2 cc_ 1 rfl
      have cr : 0 ≤ S_.1 2 cc_ 2 ∧ S_.1 2 cc_ 2 ≤ 6 := hI_.1 2 cc_ 2 rfl
      have co_ : 0 ≤ S_.1 2 cc_ 3 ∧ S_.1 2 cc_ 3 ≤ 16 := hI_.1 2 cc_ 3 rfl
      refine sm_T_go 4 (c1 := (136, [some (.inr (.inr (some (11, 0)))), some (.inr (.inr (some (2, cc_)))), some (.inl n_), some (.inl bs_), some (.inl g_), some (.inl nt_), some (.inl k_), none], [.inl nt_, .inl bs_, .inr (.inr (some (101, 0)))], S_)) rfl ?_
      refine sm_T_bin (w := bs_ + nt_) rfl (bi_add (by omega) (by omega) (by omega)) ?_ -- pc_ 136
      refine sm_T_iald (n := 1944) rfl rfl (by omega) (by omega) ?_
      have bx1_ : (-2147483648) ≤ S_.2.2.1 101 0 (bs_ + nt_).toNat ∧ S_.2.2.1 101 0 (bs_ + nt_).toNat ≤ 2147483647 := hI_.2 101 0 _
      refine sm_T_go 1 (c1 := (139, [some (.inr (.inr (some (11, 0)))), some (.inr (.inr (some (2, cc_)))), some (.inl n_), some (.inl bs_), some (.inl g_), some (.inl nt_), some (.inl k_), none], [.inl (-1), .inl (S_.2.2.1 101 0 (bs_ + nt_).toNat)], S_)) rfl ?_
      refine sm_T_br (a := 0) (z := 70) rfl (fun cx2_ => ?_) (fun cx2_ => ?_)
      · have cx2_ : (S_.2.2.1 101 0 (bs_ + nt_).toNat) = (-1) := of_decide_eq_true cx2_
        refine sm_T_inc (a := 4) (z := (-1)) (v := g_) (w := g_ - 1) rfl rfl (by omega) (by omega) (by omega) ?_ -- pc_ 209
        refine sm_T_go 1 (c1 := (112, [some (.inr (.inr (some (11, 0)))), some (.inr (.inr (some (2, cc_)))), some (.inl n_), some (.inl bs_), some (.inl (g_ - 1)), some (.inl nt_), some (.inl k_), none], [], S_)) rfl ?_
        refine sm_T_wk [some (.inr (.inr (some (11, 0)))), some (.inr (.inr (some (2, cc_)))), some (.inl n_), some (.inl bs_), some (.inl (g_ - 1)), none, none, none] (by exact ⟨rfl, rfl, rfl, rfl, rfl, trivial⟩) ?_
        refine ih_.2.2.1 n_ bs_ (g_ - 1) S_ hI_ hF_ ⟨?_, trivial⟩ ?_
        · omega
        · omega
      · have cx2_ : ¬ ((S_.2.2.1 101 0 (bs_ + nt_).toNat) = (-1)) := of_decide_eq_false cx2_
        refine sm_T_go 3 (c1 := (147, [some (.inr (.inr (some (11, 0)))), some (.inr (.inr (some (2, cc_)))), some (.inl n_), some (.inl bs_), some (.inl g_), some (.inl nt_), some (.inl k_), none], [.inl g_, .inr (.inr (some (2, cc_))), .inl k_], S_)) rfl ?_
        refine sm_T_cal (d1 := 0) (Q1 := vq_59 g_ cc_ S_) rfl rfl (by decide) (vc_59 g_ cc_ S_ hI_ (by omega)) (fun u_ Sx3_ px6_ => ?_)
        obtain ⟨rfl, vx8_, rfl, px6_⟩ := px6_
        have gi147_ := px6_.1
        refine sm_T_br (a := 3) (z := 59) rfl (fun cx9_ => ?_) (fun cx9_ => ?_)
        · have cx9_ : vx8_ ≤ k_ := of_decide_eq_true cx9_
          refine sm_T_inc (a := 4) (z := (-1)) (v := g_) (w := g_ - 1) rfl rfl (by omega) (by omega) (by omega) ?_ -- pc_ 209
          refine sm_T_go 1 (c1 := (112, [some (.inr (.inr (some (11, 0)))), some (.inr (.inr (some (2, cc_)))), some (.inl n_), some (.inl bs_), some (.inl (g_ - 1)), some (.inl nt_), some (.inl k_), none], [], S_)) rfl ?_
          refine sm_T_wk [some (.inr (.inr (some (11, 0)))), some (.inr (.inr (some (2, cc_)))), some (.inl n_), some (.inl bs_), some (.inl (g_ - 1)), none, none, none] (by exact ⟨rfl, rfl, rfl, rfl, rfl, trivial⟩) ?_
          refine ih_.2.2.1 n_ bs_ (g_ - 1) S_ hI_ hF_ ⟨?_, trivial⟩ ?_
          · omega
          · omega
        · have cx9_ : ¬ (vx8_ ≤ k_) := of_decide_eq_false cx9_
          refine sm_T_go 5 (c1 := (161, [some (.inr (.inr (some (11, 0)))), some (.inr (.inr (some (2, cc_)))), some (.inl n_), some (.inl bs_), some (.inl g_), some (.inl nt_), some (.inl k_), none], [.inl g_, .inl 3, .inr (.inr (some (36, (0 + cc_)))), .inl bs_], S_)) rfl ?_
          refine sm_T_bin (w := 3 * g_) rfl (bi_mul (by omega) (by omega) (by omega)) ?_ -- pc_ 161
          refine sm_T_go 1 (c1 := (164, [some (.inr (.inr (some (11, 0)))), some (.inr (.inr (some (2, cc_)))), some (.inl n_), some (.inl bs_), some (.inl g_), some (.inl nt_), some (.inl k_), none], [.inl k_, .inl (3 * g_), .inr (.inr (some (36, (0 + cc_)))), .inl bs_], S_)) rfl ?_
          refine sm_T_bin (w := 3 * g_ + k_) rfl (bi_add (by omega) (by omega) (by omega)) ?_ -- pc_ 164
          refine sm_T_iald (n := 450) rfl rfl (by omega) (by omega) ?_
          have bx10_ : 0 ≤ S_.2.2.1 36 (0 + cc_) (3 * g_ + k_).toNat ∧ S_.2.2.1 36 (0 + cc_) (3 * g_ + k_).toNat ≤ 161 := hI_.2 36 (0 + cc_) _
          refine sm_T_bin (w := bs_ + (S_.2.2.1 36 (0 + cc_) (3 * g_ + k_).toNat)) rfl (bi_add (by omega) (by omega) (by omega)) ?_ -- pc_ 166
          refine sm_T_go 7 (c1 := (181, [some (.inr (.inr (some (11, 0)))), some (.inr (.inr (some (2, cc_)))), some (.inl n_), some (.inl bs_), some (.inl g_), some (.inl nt_), some (.inl k_), some (.inl (bs_ + (S_.2.2.1 36 (0 + cc_) (3 * g_ + k_).toNat)))], [.inl (bs_ + (S_.2.2.1 36 (0 + cc_) (3 * g_ + k_).toNat)), .inr (.inr (some (101, 0))), .inl (bs_ + (S_.2.2.1 36 (0 + cc_) (3 * g_ + k_).toNat)), .inr (.inr (some (101, 0)))], S_)) rfl ?_
          refine sm_T_iald (n := 1944) rfl rfl (by omega) (by omega) ?_
          have bx11_ : (-2147483648) ≤ S_.2.2.1 101 0 (bs_ + (S_.2.2.1 36 (0 + cc_) (3 * g_ + k_).toNat)).toNat ∧ S_.2.2.1 101 0 (bs_ + (S_.2.2.1 36 (0 + cc_) (3 * g_ + k_).toNat)).toNat ≤ 2147483647 := hI_.2 101 0 _
          refine sm_T_go 3 (c1 := (188, [some (.inr (.inr (some (11, 0)))), some (.inr (.inr (some (2, cc_)))), some (.inl n_), some (.inl bs_), some (.inl g_), some (.inl nt_), some (.inl k_), some (.inl (bs_ + (S_.2.2.1 36 (0 + cc_) (3 * g_ + k_).toNat)))], [.inl nt_, .inr (.inr (some (99, 0))), .inl (S_.2.2.1 101 0 (bs_ + (S_.2.2.1 36 (0 + cc_) (3 * g_ + k_).toNat)).toNat), .inl (bs_ + (S_.2.2.1 36 (0 + cc_) (3 * g_ + k_).toNat)), .inr (.inr (some (101, 0)))], S_)) rfl ?_
          refine sm_T_iald (n := 162) rfl rfl (by omega) (by omega) ?_
          have bx12_ : (-2147483648) ≤ S_.2.2.1 99 0 nt_.toNat ∧ S_.2.2.1 99 0 nt_.toNat ≤ 2147483647 := hI_.2 99 0 _
          refine sm_T_go 4 (c1 := (196, [some (.inr (.inr (some (11, 0)))), some (.inr (.inr (some (2, cc_)))), some (.inl n_), some (.inl bs_), some (.inl g_), some (.inl nt_), some (.inl k_), some (.inl (bs_ + (S_.2.2.1 36 (0 + cc_) (3 * g_ + k_).toNat)))], [.inl nt_, .inl bs_, .inr (.inr (some (101, 0))), .inl (S_.2.2.1 99 0 nt_.toNat), .inl (S_.2.2.1 101 0 (bs_ + (S_.2.2.1 36 (0 + cc_) (3 * g_ + k_).toNat)).toNat), .inl (bs_ + (S_.2.2.1 36 (0 + cc_) (3 * g_ + k_).toNat)), .inr (.inr (some (101, 0)))], S_)) rfl ?_
          refine sm_T_bin (w := bs_ + nt_) rfl (bi_add (by omega) (by omega) (by omega)) ?_ -- pc_ 196
          refine sm_T_iald (n := 1944) rfl rfl (by omega) (by omega) ?_
          refine sm_T_bin (w := (i_add (S_.2.2.1 99 0 nt_.toNat) (S_.2.2.1 101 0 (bs_ + nt_).toNat))) rfl rfl ?_ -- pc_ 198
          have bx13_ := i_add_r (S_.2.2.1 99 0 nt_.toNat) (S_.2.2.1 101 0 (bs_ + nt_).toNat)
          refine sm_T_nt (u := some (.inl (sm_mx (S_.2.2.1 101 0 (bs_ + (S_.2.2.1 36 (0 + cc_) (3 * g_ + k_).toNat)).toNat) (i_add (S_.2.2.1 99 0 nt_.toNat) (S_.2.2.1 101 0 (bs_ + nt_).toNat))))) (S1 := S_) rfl rfl rfl ?_
          have bx14_ := sm_mx_d (S_.2.2.1 101 0 (bs_ + (S_.2.2.1 36 (0 + cc_) (3 * g_ + k_).toNat)).toNat) (i_add (S_.2.2.1 99 0 nt_.toNat) (S_.2.2.1 101 0 (bs_ + nt_).toNat))
          refine sm_T_iast (n := 1944) rfl rfl (by omega) (by omega) ?_
          have hIx15_ : gi (sm_aI S_ 101 0 (bs_ + (S_.2.2.1 36 (0 + cc_) (3 * g_ + k_).toNat)).toNat (sm_mx (S_.2.2.1 101 0 (bs_ + (S_.2.2.1 36 (0 + cc_) (3 * g_ + k_).toNat)).toNat) (i_add (S_.2.2.1 99 0 nt_.toNat) (S_.2.2.1 101 0 (bs_ + nt_).toNat)))) := gi_aI hI_ (show (-2147483648) ≤ (sm_mx (S_.2.2.1 101 0 (bs_ + (S_.2.2.1 36 (0 + cc_) (3 * g_ + k_).toNat)).toNat) (i_add (S_.2.2.1 99 0 nt_.toNat) (S_.2.2.1 101 0 (bs_ + nt_).toNat))) ∧ (sm_mx (S_.2.2.1 101 0 (bs_ + (S_.2.2.1 36 (0 + cc_) (3 * g_ + k_).toNat)).toNat) (i_add (S_.2.2.1 99 0 nt_.toNat) (S_.2.2.1 101 0 (bs_ + nt_).toNat))) ≤ 2147483647 from ⟨by omega, by omega⟩)
          have hFx16_ : ai_fr (sx_W vw_200) S0_ (sm_aI S_ 101 0 (bs_ + (S_.2.2.1 36 (0 + cc_) (3 * g_ + k_).toNat)).toNat (sm_mx (S_.2.2.1 101 0 (bs_ + (S_.2.2.1 36 (0 + cc_) (3 * g_ + k_).toNat)).toNat) (i_add (S_.2.2.1 99 0 nt_.toNat) (S_.2.2.1 101 0 (bs_ + nt_).toNat)))) := ai_fr_tr hF_ (ai_fr_aI rfl)
          refine sm_T_inc (a := 6) (z := 1) (v := k_) (w := k_ + 1) rfl rfl (by omega) (by omega) (by omega) ?_ -- pc_ 203
          refine sm_T_go 1 (c1 := (129, [some (.inr (.inr (some (11, 0)))), some (.inr (.inr (some (2, cc_)))), some (.inl n_), some (.inl bs_), some (.inl g_), some (.inl nt_), some (.inl (k_ + 1)), some (.inl (bs_ + (S_.2.2.1 36 (0 + cc_) (3 * g_ + k_).toNat)))], [], sm_aI S_ 101 0 (bs_ + (S_.2.2.1 36 (0 + cc_) (3 * g_ + k_).toNat)).toNat (sm_mx (S_.2.2.1 101 0 (bs_ + (S_.2.2.1 36 (0 + cc_) (3 * g_ + k_).toNat)).toNat) (i_add (S_.2.2.1 99 0 nt_.toNat) (S_.2.2.1 101 0 (bs_ + nt_).toNat))))) rfl ?_
          refine sm_T_wk [some (.inr (.inr (some (11, 0)))), some (.inr (.inr (some (2, cc_)))), some (.inl n_), some (.inl bs_), some (.inl g_), some (.inl nt_), some (.inl (k_ + 1)), none] (by exact ⟨rfl, rfl, rfl, rfl, rfl, rfl, rfl, trivial⟩) ?_
          refine ih_.2.2.2 n_ bs_ g_ nt_ (k_ + 1) (sm_aI S_ 101 0 (bs_ + (S_.2.2.1 36 (0 + cc_) (3 * g_ + k_).toNat)).toNat (sm_mx (S_.2.2.1 101 0 (bs_ + (S_.2.2.1 36 (0 + cc_) (3 * g_ + k_).toNat)).toNat) (i_add (S_.2.2.1 99 0 nt_.toNat) (S_.2.2.1 101 0 (bs_ + nt_).toNat)))) hIx15_ hFx16_ ⟨?_, trivial⟩ ?_
          · omega
          · omega
set_option maxHeartbeats 400000 in
set_option maxRecDepth 20000 in
theorem vc_200 {sc_ : Nat × (Nat → Int)} (cc_ : Nat) (S0_ : sm_S) (hI_ : gi S0_) (hs_ : S0_.1 2 cc_ 1 + S0_.1 2 cc_ 2 ≤ 12) : sm_T (mt_P sc_) 1 200 (0, [some (.inr (.inr (some (11, 0)))), some (.inr (.inr (some (2, cc_)))), none, none, none, none, none, none], [], S0_) (fun ro9_ => ∃ u_ S1_, ro9_ = (.inl u_, S1_, 0) ∧ vq_200 cc_ S0_ u_ S1_) := by
  have hF_ : ai_fr (sx_W vw_200) S0_ S0_ := ai_fr_rf
  refine sm_T_go 3 (c1 := (5, [some (.inr (.inr (some (11, 0)))), some (.inr (.inr (some (2, cc_)))), none, none, none, none, none, none], [.inl (-1), .inr (.inr (some (101, 0)))], S0_)) rfl ?_
  refine sm_T_cal (d1 := 0) (Q1 := vq_2r1 (-1) S0_) rfl rfl (by decide) (vc_2r1 (-1) S0_ hI_ (by decide)) (fun u_ Sx1_ px4_ => ?_)
  obtain ⟨rfl, hIx2_, hFx3_, px4_⟩ := px4_
  have hFx5_ : ai_fr (sx_W vw_200) S0_ Sx1_ := ai_fr_tr hF_ (fr_le hFx3_ rfl)
  refine sm_T_go 2 (c1 := (10, [some (.inr (.inr (some (11, 0)))), some (.inr (.inr (some (2, cc_)))), some (.inl 0), none, none, none, none, none], [], Sx1_)) rfl ?_
  refine (vl_200 cc_ S0_ hs_ _).1 0 Sx1_ hIx2_ hFx5_ ⟨?_, trivial⟩ (Nat.lt_succ_self _)
  · omega
