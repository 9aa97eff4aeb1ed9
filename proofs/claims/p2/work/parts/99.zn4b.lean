/-! Mapper.findRoots -/
def vw_95 : sx_Wl := ([], [60], [])
def vq_95 (dd_ : Nat) (F_ : Nat) (S0_ : sm_S) (u_ : Option sm_V) (S1_ : sm_S) : Prop := u_ = none ∧ gi S1_ ∧ ai_fr (sx_W vw_95) S0_ S1_ ∧ (∀ i_ : Int, 0 ≤ i_ → i_ < S0_.1 3 dd_ 3 + S0_.1 3 dd_ 2 → S1_.2.2.1 60 0 (srp dd_ S0_ (rtv dd_ S0_ i_)) ≠ 0)
set_option maxHeartbeats 3000000 in
theorem vl_95 {sc_ : Nat × (Nat → Int)} (dd_ : Nat) (F_ : Nat) (S0_ : sm_S) (hd_ : S0_.2.1 6 0 0 = some dd_) (hr_ : drt dd_ S0_) (hg_ : dgr dd_ F_ S0_) (hs_ : swp dd_ F_ S0_) : ∀ nn_ : Nat, (∀ (k_ : Int) (S_ : sm_S), gi S_ → ai_fr (sx_W vw_95) S0_ S_ → ((0 ≤ k_ ∧ k_ ≤ S0_.1 3 dd_ 3 + S0_.1 3 dd_ 2) ∧ (∀ j_ : Nat, j_ < 1013 → 0 ≤ S_.2.2.1 60 0 j_ ∧ S_.2.2.1 60 0 j_ ≤ 2 * k_) ∧ (∀ i_ : Int, 0 ≤ i_ → i_ < k_ → 2 ≤ S_.2.2.1 60 0 (srp dd_ S0_ (rtv dd_ S0_ i_))) ∧ True) → ((9000 - k_).toNat) < nn_ → sm_T (mt_P sc_) 2 95 (10, [some (.inr (.inr (some (6, 0)))), some (.inl k_)], [], S_) (fun ro9_ => ∃ u_ S1_, ro9_ = (.inl u_, S1_, 0) ∧ vq_95 dd_ F_ S0_ u_ S1_)) ∧ (∀ (n_ : Int) (S_ : sm_S), gi S_ → ai_fr (sx_W vw_95) S0_ S_ → ((0 ≤ n_ ∧ n_ ≤ 1013) ∧ (∀ j_ : Nat, j_ < 1013 → 0 ≤ S_.2.2.1 60 0 j_ ∧ S_.2.2.1 60 0 j_ ≤ 100 + 2 * n_) ∧ (∀ i_ : Int, 0 ≤ i_ → i_ < S0_.1 3 dd_ 3 + S0_.1 3 dd_ 2 → 2 ≤ S_.2.2.1 60 0 (srp dd_ S0_ (rtv dd_ S0_ i_))) ∧ True) → ((5000 - n_).toNat) < nn_ → sm_T (mt_P sc_) 2 95 (61, [some (.inr (.inr (some (6, 0)))), some (.inl n_)], [], S_) (fun ro9_ => ∃ u_ S1_, ro9_ = (.inl u_, S1_, 0) ∧ vq_95 dd_ F_ S0_ u_ S1_)) ∧ (∀ (n_ : Int) (S_ : sm_S), gi S_ → ai_fr (sx_W vw_95) S0_ S_ → ((0 ≤ n_ ∧ n_ ≤ 1013) ∧ (∀ i_ : Int, 0 ≤ i_ → i_ < S0_.1 3 dd_ 3 + S0_.1 3 dd_ 2 → imq ((srp dd_ S0_ (rtv dd_ S0_ i_) : Int) < n_) (S_.2.2.1 60 0 (srp dd_ S0_ (rtv dd_ S0_ i_)) = 1) ∧ imq (n_ ≤ (srp dd_ S0_ (rtv dd_ S0_ i_) : Int)) (2 ≤ S_.2.2.1 60 0 (srp dd_ S0_ (rtv dd_ S0_ i_)))) ∧ True) → ((2000 - n_).toNat) < nn_ → sm_T (mt_P sc_) 2 95 (117, [some (.inr (.inr (some (6, 0)))), some (.inl n_)], [], S_) (fun ro9_ => ∃ u_ S1_, ro9_ = (.inl u_, S1_, 0) ∧ vq_95 dd_ F_ S0_ u_ S1_)) := by
  intro nn_
  induction nn_ with
  | zero => exact ⟨fun _ _ _ _ _ h_ => absurd h_ (Nat.not_lt_zero _), fun _ _ _ _ _ h_ => absurd h_ (Nat.not_lt_zero _), fun _ _ _ _ _ h_ => absurd h_ (Nat.not_lt_zero _)⟩
  | succ nn_ ih_ =>
    refine ⟨?_, ?_, ?_⟩
    · rintro k_ S_ hI_ hF_ ⟨h0_, hb_, hq_, -⟩ hm_
      have r1_ := hr_.1
      have c1_ : 0 ≤ S_.1 3 dd_ 1 ∧ S_.1 3 dd_ 1 ≤ 320 := hI_.1 3 dd_ 1 rfl
      have n13_ : 0 ≤ S_.1 3 dd_ 4 ∧ S_.1 3 dd_ 4 ≤ 1013 := hI_.1 3 dd_ 4 rfl
      have f1_ : S_.1 3 dd_ 1 = S0_.1 3 dd_ 1 := hF_.1 3 dd_ 1 rfl
      have f2_ : S_.1 3 dd_ 2 = S0_.1 3 dd_ 2 := hF_.1 3 dd_ 2 rfl
      have f3_ : S_.1 3 dd_ 3 = S0_.1 3 dd_ 3 := hF_.1 3 dd_ 3 rfl
      have f4_ : S_.1 3 dd_ 4 = S0_.1 3 dd_ 4 := hF_.1 3 dd_ 4 rfl
      have g1_ := hg_.1
      have f44_ : S_.2.2.1 44 (0 + dd_) = S0_.2.2.1 44 (0 + dd_) := fr_arr hF_ rfl
      have f45_ : S_.2.2.1 45 (0 + dd_) = S0_.2.2.1 45 (0 + dd_) := fr_arr hF_ rfl
      have f46_ : S_.2.2.1 46 (0 + dd_) = S0_.2.2.1 46 (0 + dd_) := fr_arr hF_ rfl
      refine sm_T_go 2 (c1 := (12, [some (.inr (.inr (some (6, 0)))), some (.inl k_)], [.inr (.inr (some (6, 0))), .inl k_], S_)) rfl ?_
      refine sm_T_gr rfl rfl ((hF_.2.1 6 0 0 rfl).trans hd_) ?_
      refine sm_T_cal (d1 := 0) (Q1 := vq_66 dd_ S_) rfl rfl (by decide) (vc_66 dd_ S_ hI_ (by omega)) (fun u_ Sx1_ px4_ => ?_)
      obtain ⟨rfl, vx6_, rfl, px4_⟩ := px4_
      have r15_ := px4_
      refine sm_T_br (a := 3) (z := 35) rfl (fun cx7_ => ?_) (fun cx7_ => ?_)
      · have cx7_ : vx6_ ≤ k_ := of_decide_eq_true cx7_
        refine sm_T_go 1 (c1 := (54, [some (.inr (.inr (some (6, 0)))), some (.inl k_)], [.inr (.inr (some (6, 0)))], S_)) rfl ?_
        refine sm_T_gr rfl rfl ((hF_.2.1 6 0 0 rfl).trans hd_) ?_
        refine sm_T_cal (d1 := 0) (Q1 := vq_63 dd_ S_) rfl rfl (by decide) (vc_63 dd_ S_ hI_ (by omega)) (fun u_ Sx8_ px11_ => ?_)
        obtain ⟨rfl, vx13_, rfl, px11_⟩ := px11_
        have a57_ := px11_
        refine sm_T_go 1 (c1 := (61, [some (.inr (.inr (some (6, 0)))), some (.inl vx13_)], [], S_)) rfl ?_
        refine ih_.2.1 vx13_ S_ hI_ hF_ ⟨?_, ?_, ?_, trivial⟩ ?_
        · omega
        · (intro j_ hj_; have w9_ := hb_ j_ hj_; omega)
        · (intro i_ u_ w_; exact hq_ i_ u_ (by omega))
        · omega
      · have cx7_ : ¬ (vx6_ ≤ k_) := of_decide_eq_false cx7_
        refine sm_T_go 3 (c1 := (26, [some (.inr (.inr (some (6, 0)))), some (.inl k_)], [.inr (.inr (some (6, 0))), .inr (.inr (some (60, 0)))], S_)) rfl ?_
        refine sm_T_gr rfl rfl ((hF_.2.1 6 0 0 rfl).trans hd_) ?_
        refine sm_T_go 1 (c1 := (30, [some (.inr (.inr (some (6, 0)))), some (.inl k_)], [.inr (.inr (some (6, 0))), .inr (.inr (some (3, dd_))), .inr (.inr (some (60, 0)))], S_)) rfl ?_
        refine sm_T_gr rfl rfl ((hF_.2.1 6 0 0 rfl).trans hd_) ?_
        refine sm_T_go 1 (c1 := (34, [some (.inr (.inr (some (6, 0)))), some (.inl k_)], [.inl k_, .inr (.inr (some (3, dd_))), .inr (.inr (some (3, dd_))), .inr (.inr (some (60, 0)))], S_)) rfl ?_
        refine sm_T_cal (d1 := 0) (Q1 := vq_65 k_ dd_ S_) rfl rfl (by decide) (vc_65 k_ dd_ S_ hI_ (by exact drt_fr hr_ hF_ rfl rfl rfl rfl rfl) (by omega)) (fun u_ Sx14_ px17_ => ?_)
        obtain ⟨rfl, vx19_, rfl, px17_⟩ := px17_
        have t34_ := px17_
        have v34_ : vx19_ = rtv dd_ S0_ k_ := by (rw [t34_.1]; unfold rtv; rw [f3_, f45_, f46_])
        refine sm_T_cal (d1 := 0) (Q1 := vq_64 vx19_ dd_ S_) rfl rfl (by decide) (vc_64 vx19_ dd_ S_ hI_ (by omega)) (fun u_ Sx20_ px23_ => ?_)
        obtain ⟨rfl, vx25_, rfl, px23_⟩ := px23_
        have e37_ := px23_
        have x37_ : 0 ≤ vx25_ ∧ vx25_ ≤ 2025 := by (rw [e37_]; exact swx (hI_.2 44 (0 + dd_) _) (by omega))
        rw [f44_, v34_] at e37_
        have rb9_ := (rtv_b hr_ hs_ h0_.1 (show k_ < S0_.1 3 dd_ 3 + S0_.1 3 dd_ 2 by omega)).1
        have sw9_ := swl_n hs_ (l_ := rtv dd_ S0_ k_) rb9_.1 rb9_.2 (by omega)
        rw [← e37_] at sw9_
        have tn9_ : (vx25_ / 2).toNat = srp dd_ S0_ (rtv dd_ S0_ k_) := by omega
        have hb9_ := hb_ (vx25_ / 2).toNat (by omega)
        refine sm_T_go 1 (c1 := (41, [some (.inr (.inr (some (6, 0)))), some (.inl k_)], [.inl 1, .inl vx25_, .inr (.inr (some (60, 0)))], S_)) rfl ?_
        refine sm_T_bin (w := (vx25_ / 2)) rfl (bi_shr (k := 1) (by decide) (by omega) (by omega)) ?_ -- pc_ 41
        refine sm_T_go 1 (c1 := (43, [some (.inr (.inr (some (6, 0)))), some (.inl k_)], [.inl (vx25_ / 2), .inr (.inr (some (60, 0))), .inl (vx25_ / 2), .inr (.inr (some (60, 0)))], S_)) rfl ?_
        refine sm_T_iald (n := 1013) rfl rfl (by omega) (by omega) ?_
        have bx26_ : (-2147483648) ≤ S_.2.2.1 60 0 (vx25_ / 2).toNat ∧ S_.2.2.1 60 0 (vx25_ / 2).toNat ≤ 2147483647 := hI_.2 60 0 _
        refine sm_T_go 1 (c1 := (45, [some (.inr (.inr (some (6, 0)))), some (.inl k_)], [.inl 2, .inl (S_.2.2.1 60 0 (vx25_ / 2).toNat), .inl (vx25_ / 2), .inr (.inr (some (60, 0)))], S_)) rfl ?_
        refine sm_T_bin (w := (S_.2.2.1 60 0 (vx25_ / 2).toNat) + 2) rfl (bi_add (by omega) (by omega) (by omega)) ?_ -- pc_ 45
        refine sm_T_iast (n := 1013) rfl rfl (by omega) (by omega) ?_
        have hIx27_ : gi (sm_aI S_ 60 0 (vx25_ / 2).toNat ((S_.2.2.1 60 0 (vx25_ / 2).toNat) + 2)) := gi_aI hI_ (show (-2147483648) ≤ (S_.2.2.1 60 0 (vx25_ / 2).toNat) + 2 ∧ (S_.2.2.1 60 0 (vx25_ / 2).toNat) + 2 ≤ 2147483647 from ⟨by omega, by omega⟩)
        have hFx28_ : ai_fr (sx_W vw_95) S0_ (sm_aI S_ 60 0 (vx25_ / 2).toNat ((S_.2.2.1 60 0 (vx25_ / 2).toNat) + 2)) := ai_fr_tr hF_ (ai_fr_aI rfl)
        refine sm_T_inc (a := 1) (z := 1) (v := k_) (w := k_ + 1) rfl rfl (by omega) (by omega) (by omega) ?_ -- pc_ 47
        refine sm_T_go 1 (c1 := (10, [some (.inr (.inr (some (6, 0)))), some (.inl (k_ + 1))], [], sm_aI S_ 60 0 (vx25_ / 2).toNat ((S_.2.2.1 60 0 (vx25_ / 2).toNat) + 2))) rfl ?_
        refine ih_.1 (k_ + 1) (sm_aI S_ 60 0 (vx25_ / 2).toNat ((S_.2.2.1 60 0 (vx25_ / 2).toNat) + 2)) hIx27_ hFx28_ ⟨?_, ?_, ?_, trivial⟩ ?_
        · omega
        · intro j_ hj_
          rw [rd_eq]
          have w9_ := hb_ j_ hj_
          split
          · omega
          · omega
        · intro i_ u_ w_
          rw [rd_eq]
          by_cases y_ : i_ = k_
          · rw [if_pos (by rw [y_, tn9_])]; omega
          · have w8_ := hq_ i_ u_ (by omega)
            split
            · omega
            · exact w8_
        · omega
    · rintro n_ S_ hI_ hF_ ⟨h0_, hb_, hq_, -⟩ hm_
      have r1_ := hr_.1
      have c1_ : 0 ≤ S_.1 3 dd_ 1 ∧ S_.1 3 dd_ 1 ≤ 320 := hI_.1 3 dd_ 1 rfl
      have n13_ : 0 ≤ S_.1 3 dd_ 4 ∧ S_.1 3 dd_ 4 ≤ 1013 := hI_.1 3 dd_ 4 rfl
      have f1_ : S_.1 3 dd_ 1 = S0_.1 3 dd_ 1 := hF_.1 3 dd_ 1 rfl
      have f2_ : S_.1 3 dd_ 2 = S0_.1 3 dd_ 2 := hF_.1 3 dd_ 2 rfl
      have f3_ : S_.1 3 dd_ 3 = S0_.1 3 dd_ 3 := hF_.1 3 dd_ 3 rfl
      have f4_ : S_.1 3 dd_ 4 = S0_.1 3 dd_ 4 := hF_.1 3 dd_ 4 rfl
      have g1_ := hg_.1
      have f44_ : S_.2.2.1 44 (0 + dd_) = S0_.2.2.1 44 (0 + dd_) := fr_arr hF_ rfl
      have f45_ : S_.2.2.1 45 (0 + dd_) = S0_.2.2.1 45 (0 + dd_) := fr_arr hF_ rfl
      have f46_ : S_.2.2.1 46 (0 + dd_) = S0_.2.2.1 46 (0 + dd_) := fr_arr hF_ rfl
      refine sm_T_go 2 (c1 := (63, [some (.inr (.inr (some (6, 0)))), some (.inl n_)], [.inr (.inr (some (6, 0))), .inl n_], S_)) rfl ?_
      refine sm_T_gr rfl rfl ((hF_.2.1 6 0 0 rfl).trans hd_) ?_
      have bx1_ : 0 ≤ S_.1 3 dd_ 4 ∧ S_.1 3 dd_ 4 ≤ 1013 := hI_.1 3 dd_ 4 rfl
      refine sm_T_go 1 (c1 := (69, [some (.inr (.inr (some (6, 0)))), some (.inl n_)], [.inl (S_.1 3 dd_ 4), .inl n_], S_)) rfl ?_
      refine sm_T_br (a := 3) (z := 46) rfl (fun cx2_ => ?_) (fun cx2_ => ?_)
      · have cx2_ : (S_.1 3 dd_ 4) ≤ n_ := of_decide_eq_true cx2_
        refine sm_T_go 2 (c1 := (117, [some (.inr (.inr (some (6, 0)))), some (.inl 0)], [], S_)) rfl ?_
        refine ih_.2.2 0 S_ hI_ hF_ ⟨?_, ?_, trivial⟩ ?_
        · omega
        · intro i_ u_ w_
          exact ⟨fun q9_ => by (exfalso; omega), fun _ => hq_ i_ u_ w_⟩
        · omega
      · have cx2_ : ¬ ((S_.1 3 dd_ 4) ≤ n_) := of_decide_eq_false cx2_
        refine sm_T_go 3 (c1 := (77, [some (.inr (.inr (some (6, 0)))), some (.inl n_)], [.inl n_, .inr (.inr (some (59, 0)))], S_)) rfl ?_
        refine sm_T_iald (n := 1013) rfl rfl (by omega) (by omega) ?_
        have bx3_ : 0 ≤ S_.2.2.1 59 0 n_.toNat ∧ S_.2.2.1 59 0 n_.toNat ≤ 1 := hI_.2 59 0 _
        refine sm_T_b0 (a := 0) (z := 31) rfl (fun cx4_ => ?_) (fun cx4_ => ?_)
        · have cx4_ : (S_.2.2.1 59 0 n_.toNat) = 0 := of_decide_eq_true cx4_
          refine sm_T_inc (a := 1) (z := 1) (v := n_) (w := n_ + 1) rfl rfl (by omega) (by omega) (by omega) ?_ -- pc_ 109
          refine sm_T_go 1 (c1 := (61, [some (.inr (.inr (some (6, 0)))), some (.inl (n_ + 1))], [], S_)) rfl ?_
          refine ih_.2.1 (n_ + 1) S_ hI_ hF_ ⟨?_, ?_, ?_, trivial⟩ ?_
          · omega
          · first | (intro j_ hj_; rw [rd_eq]; have w9_ := hb6_ j_ hj_; split; (omega); (omega)) | (intro j_ hj_; have w9_ := hb_ j_ hj_; omega)
          · first | exact hq_ | (intro i_ u_ w_; rw [rd_eq]; have w9_ := hq6_ _ (hq_ i_ u_ w_); split; (rename_i z9_; rw [z9_] at w9_; omega); (exact w9_))
          · omega
        · have cx4_ : ¬ ((S_.2.2.1 59 0 n_.toNat) = 0) := of_decide_eq_false cx4_
          refine sm_T_go 4 (c1 := (87, [some (.inr (.inr (some (6, 0)))), some (.inl n_)], [.inl n_, .inr (.inr (some (6, 0))), .inr (.inr (some (60, 0)))], S_)) rfl ?_
          refine sm_T_cal (d1 := 1) (Q1 := vq_92 n_ dd_ S_) rfl rfl (by decide) (vc_92 n_ dd_ S_ hI_ (by exact (hF_.2.1 6 0 0 rfl).trans hd_) (by omega)) (fun u_ Sx5_ px8_ => ?_)
          obtain ⟨rfl, vx10_, rfl, px8_⟩ := px8_
          have l87_ := px8_.1
          have hb8_ := hb_ (vx10_).toNat (by omega)
          refine sm_T_go 1 (c1 := (91, [some (.inr (.inr (some (6, 0)))), some (.inl n_)], [.inl vx10_, .inr (.inr (some (60, 0))), .inl vx10_, .inr (.inr (some (60, 0)))], S_)) rfl ?_
          refine sm_T_iald (n := 1013) rfl rfl (by omega) (by omega) ?_
          have bx11_ : (-2147483648) ≤ S_.2.2.1 60 0 vx10_.toNat ∧ S_.2.2.1 60 0 vx10_.toNat ≤ 2147483647 := hI_.2 60 0 _
          refine sm_T_go 1 (c1 := (93, [some (.inr (.inr (some (6, 0)))), some (.inl n_)], [.inl 1, .inl (S_.2.2.1 60 0 vx10_.toNat), .inl vx10_, .inr (.inr (some (60, 0)))], S_)) rfl ?_
          refine sm_T_bin (w := (S_.2.2.1 60 0 vx10_.toNat) + 1) rfl (bi_add (by omega) (by omega) (by omega)) ?_ -- pc_ 93
          refine sm_T_iast (n := 1013) rfl rfl (by omega) (by omega) ?_
          have hIx12_ : gi (sm_aI S_ 60 0 vx10_.toNat ((S_.2.2.1 60 0 vx10_.toNat) + 1)) := gi_aI hI_ (show (-2147483648) ≤ (S_.2.2.1 60 0 vx10_.toNat) + 1 ∧ (S_.2.2.1 60 0 vx10_.toNat) + 1 ≤ 2147483647 from ⟨by omega, by omega⟩)
          have hFx13_ : ai_fr (sx_W vw_95) S0_ (sm_aI S_ 60 0 vx10_.toNat ((S_.2.2.1 60 0 vx10_.toNat) + 1)) := ai_fr_tr hF_ (ai_fr_aI rfl)
          refine sm_T_go 4 (c1 := (101, [some (.inr (.inr (some (6, 0)))), some (.inl n_)], [.inl n_, .inr (.inr (some (6, 0))), .inr (.inr (some (60, 0)))], sm_aI S_ 60 0 vx10_.toNat ((S_.2.2.1 60 0 vx10_.toNat) + 1))) rfl ?_
          refine sm_T_cal (d1 := 1) (Q1 := vq_93 n_ dd_ (sm_aI S_ 60 0 vx10_.toNat ((S_.2.2.1 60 0 vx10_.toNat) + 1))) rfl rfl (by decide) (vc_93 n_ dd_ (sm_aI S_ 60 0 vx10_.toNat ((S_.2.2.1 60 0 vx10_.toNat) + 1)) hIx12_ (by exact (hFx13_.2.1 6 0 0 rfl).trans hd_) (by omega)) (fun u_ Sx14_ px17_ => ?_)
          obtain ⟨rfl, vx19_, rfl, px17_⟩ := px17_
          have l101_ := px17_.1
          have hb6_ : ∀ j_ : Nat, j_ < 1013 → 0 ≤ (sm_aI S_ 60 0 vx10_.toNat ((S_.2.2.1 60 0 vx10_.toNat) + 1)).2.2.1 60 0 j_ ∧ (sm_aI S_ 60 0 vx10_.toNat ((S_.2.2.1 60 0 vx10_.toNat) + 1)).2.2.1 60 0 j_ ≤ 101 + 2 * n_ := by (intro j_ hj_; rw [rd_eq]; have w9_ := hb_ j_ hj_; split; (omega); (omega))
          have hb7_ := hb6_ (vx19_).toNat (by omega)
          have hq6_ : ∀ j_ : Nat, 2 ≤ S_.2.2.1 60 0 j_ → 2 ≤ (sm_aI S_ 60 0 vx10_.toNat ((S_.2.2.1 60 0 vx10_.toNat) + 1)).2.2.1 60 0 j_ := by (intro j_ hj_; rw [rd_eq]; split; (rename_i z9_; rw [z9_] at hj_; omega); (omega))
          refine sm_T_go 1 (c1 := (105, [some (.inr (.inr (some (6, 0)))), some (.inl n_)], [.inl vx19_, .inr (.inr (some (60, 0))), .inl vx19_, .inr (.inr (some (60, 0)))], sm_aI S_ 60 0 vx10_.toNat ((S_.2.2.1 60 0 vx10_.toNat) + 1))) rfl ?_
          refine sm_T_iald (n := 1013) rfl rfl (by omega) (by omega) ?_
          have bx20_ : (-2147483648) ≤ (sm_aI S_ 60 0 vx10_.toNat ((S_.2.2.1 60 0 vx10_.toNat) + 1)).2.2.1 60 0 vx19_.toNat ∧ (sm_aI S_ 60 0 vx10_.toNat ((S_.2.2.1 60 0 vx10_.toNat) + 1)).2.2.1 60 0 vx19_.toNat ≤ 2147483647 := hIx12_.2 60 0 _
          refine sm_T_go 1 (c1 := (107, [some (.inr (.inr (some (6, 0)))), some (.inl n_)], [.inl 1, .inl ((sm_aI S_ 60 0 vx10_.toNat ((S_.2.2.1 60 0 vx10_.toNat) + 1)).2.2.1 60 0 vx19_.toNat), .inl vx19_, .inr (.inr (some (60, 0)))], sm_aI S_ 60 0 vx10_.toNat ((S_.2.2.1 60 0 vx10_.toNat) + 1))) rfl ?_
          refine sm_T_bin (w := ((sm_aI S_ 60 0 vx10_.toNat ((S_.2.2.1 60 0 vx10_.toNat) + 1)).2.2.1 60 0 vx19_.toNat) + 1) rfl (bi_add (by omega) (by omega) (by omega)) ?_ -- pc_ 107
          refine sm_T_iast (n := 1013) rfl rfl (by omega) (by omega) ?_
          have hIx21_ : gi (sm_aI (sm_aI S_ 60 0 vx10_.toNat ((S_.2.2.1 60 0 vx10_.toNat) + 1)) 60 0 vx19_.toNat (((sm_aI S_ 60 0 vx10_.toNat ((S_.2.2.1 60 0 vx10_.toNat) + 1)).2.2.1 60 0 vx19_.toNat) + 1)) := gi_aI hIx12_ (show (-2147483648) ≤ ((sm_aI S_ 60 0 vx10_.toNat ((S_.2.2.1 60 0 vx10_.toNat) + 1)).2.2.1 60 0 vx19_.toNat) + 1 ∧ ((sm_aI S_ 60 0 vx10_.toNat ((S_.2.2.1 60 0 vx10_.toNat) + 1)).2.2.1 60 0 vx19_.toNat) + 1 ≤ 2147483647 from ⟨by omega, by omega⟩)
          have hFx22_ : ai_fr (sx_W vw_95) S0_ (sm_aI (sm_aI S_ 60 0 vx10_.toNat ((S_.2.2.1 60 0 vx10_.toNat) + 1)) 60 0 vx19_.toNat (((sm_aI S_ 60 0 vx10_.toNat ((S_.2.2.1 60 0 vx10_.toNat) + 1)).2.2.1 60 0 vx19_.toNat) + 1)) := ai_fr_tr hFx13_ (ai_fr_aI rfl)
          refine sm_T_inc (a := 1) (z := 1) (v := n_) (w := n_ + 1) rfl rfl (by omega) (by omega) (by omega) ?_ -- pc_ 109
          refine sm_T_go 1 (c1 := (61, [some (.inr (.inr (some (6, 0)))), some (.inl (n_ + 1))], [], sm_aI (sm_aI S_ 60 0 vx10_.toNat ((S_.2.2.1 60 0 vx10_.toNat) + 1)) 60 0 vx19_.toNat (((sm_aI S_ 60 0 vx10_.toNat ((S_.2.2.1 60 0 vx10_.toNat) + 1)).2.2.1 60 0 vx19_.toNat) + 1))) rfl ?_
          refine ih_.2.1 (n_ + 1) (sm_aI (sm_aI S_ 60 0 vx10_.toNat ((S_.2.2.1 60 0 vx10_.toNat) + 1)) 60 0 vx19_.toNat (((sm_aI S_ 60 0 vx10_.toNat ((S_.2.2.1 60 0 vx10_.toNat) + 1)).2.2.1 60 0 vx19_.toNat) + 1)) hIx21_ hFx22_ ⟨?_, ?_, ?_, trivial⟩ ?_
          · omega
          · first | (intro j_ hj_; rw [rd_eq]; have w9_ := hb6_ j_ hj_; split; (omega); (omega)) | (intro j_ hj_; have w9_ := hb_ j_ hj_; omega)
          · first | exact hq_ | (intro i_ u_ w_; rw [rd_eq]; have w9_ := hq6_ _ (hq_ i_ u_ w_); split; (rename_i z9_; rw [z9_] at w9_; omega); (exact w9_))
          · omega
    · rintro n_ S_ hI_ hF_ ⟨h0_, hq2_, -⟩ hm_
      have r1_ := hr_.1
      have c1_ : 0 ≤ S_.1 3 dd_ 1 ∧ S_.1 3 dd_ 1 ≤ 320 := hI_.1 3 dd_ 1 rfl
      have n13_ : 0 ≤ S_.1 3 dd_ 4 ∧ S_.1 3 dd_ 4 ≤ 1013 := hI_.1 3 dd_ 4 rfl
      have f1_ : S_.1 3 dd_ 1 = S0_.1 3 dd_ 1 := hF_.1 3 dd_ 1 rfl
      have f2_ : S_.1 3 dd_ 2 = S0_.1 3 dd_ 2 := hF_.1 3 dd_ 2 rfl
      have f3_ : S_.1 3 dd_ 3 = S0_.1 3 dd_ 3 := hF_.1 3 dd_ 3 rfl
      have f4_ : S_.1 3 dd_ 4 = S0_.1 3 dd_ 4 := hF_.1 3 dd_ 4 rfl
      have g1_ := hg_.1
      have f44_ : S_.2.2.1 44 (0 + dd_) = S0_.2.2.1 44 (0 + dd_) := fr_arr hF_ rfl
      have f45_ : S_.2.2.1 45 (0 + dd_) = S0_.2.2.1 45 (0 + dd_) := fr_arr hF_ rfl
      have f46_ : S_.2.2.1 46 (0 + dd_) = S0_.2.2.1 46 (0 + dd_) := fr_arr hF_ rfl
      refine sm_T_go 2 (c1 := (119, [some (.inr (.inr (some (6, 0)))), some (.inl n_)], [.inr (.inr (some (6, 0))), .inl n_], S_)) rfl ?_
      refine sm_T_gr rfl rfl ((hF_.2.1 6 0 0 rfl).trans hd_) ?_
      have bx1_ : 0 ≤ S_.1 3 dd_ 4 ∧ S_.1 3 dd_ 4 ≤ 1013 := hI_.1 3 dd_ 4 rfl
      refine sm_T_go 1 (c1 := (125, [some (.inr (.inr (some (6, 0)))), some (.inl n_)], [.inl (S_.1 3 dd_ 4), .inl n_], S_)) rfl ?_
      refine sm_T_br (a := 3) (z := 30) rfl (fun cx2_ => ?_) (fun cx2_ => ?_)
      · have cx2_ : (S_.1 3 dd_ 4) ≤ n_ := of_decide_eq_true cx2_
        refine sm_T_rv rfl ⟨_, _, rfl, rfl, hI_, hF_, ?_⟩
        intro i_ u_ w_
        have z9_ := (hq2_ i_ u_ w_).1
        have zb_ := (rtv_b hr_ hs_ u_ w_).2
        have z7_ := z9_ (by omega)
        omega
      · have cx2_ : ¬ ((S_.1 3 dd_ 4) ≤ n_) := of_decide_eq_false cx2_
        refine sm_T_go 6 (c1 := (138, [some (.inr (.inr (some (6, 0)))), some (.inl n_)], [.inl n_, .inr (.inr (some (60, 0))), .inl n_, .inr (.inr (some (60, 0)))], S_)) rfl ?_
        refine sm_T_iald (n := 1013) rfl rfl (by omega) (by omega) ?_
        have bx3_ : (-2147483648) ≤ S_.2.2.1 60 0 n_.toNat ∧ S_.2.2.1 60 0 n_.toNat ≤ 2147483647 := hI_.2 60 0 _
        refine sm_T_go 1 (c1 := (140, [some (.inr (.inr (some (6, 0)))), some (.inl n_)], [.inl 1, .inl (S_.2.2.1 60 0 n_.toNat), .inl n_, .inr (.inr (some (60, 0)))], S_)) rfl ?_
        refine sm_T_br (a := 5) (z := 7) rfl (fun cx4_ => ?_) (fun cx4_ => ?_)
        · have cx4_ : (S_.2.2.1 60 0 n_.toNat) ≤ 1 := of_decide_eq_true cx4_
          refine sm_T_go 1 (c1 := (148, [some (.inr (.inr (some (6, 0)))), some (.inl n_)], [.inl 0, .inl n_, .inr (.inr (some (60, 0)))], S_)) rfl ?_
          refine sm_T_iast (n := 1013) rfl rfl (by omega) (by omega) ?_
          have hIx5_ : gi (sm_aI S_ 60 0 n_.toNat 0) := gi_aI hI_ (show (-2147483648) ≤ 0 ∧ 0 ≤ 2147483647 from ⟨by omega, by omega⟩)
          have hFx6_ : ai_fr (sx_W vw_95) S0_ (sm_aI S_ 60 0 n_.toNat 0) := ai_fr_tr hF_ (ai_fr_aI rfl)
          refine sm_T_inc (a := 1) (z := 1) (v := n_) (w := n_ + 1) rfl rfl (by omega) (by omega) (by omega) ?_ -- pc_ 149
          refine sm_T_go 1 (c1 := (117, [some (.inr (.inr (some (6, 0)))), some (.inl (n_ + 1))], [], sm_aI S_ 60 0 n_.toNat 0)) rfl ?_
          refine ih_.2.2 (n_ + 1) (sm_aI S_ 60 0 n_.toNat 0) hIx5_ hFx6_ ⟨?_, ?_, trivial⟩ ?_
          · omega
          · intro i_ u_ w_
            have z9_ := hq2_ i_ u_ w_
            rw [rd_eq]
            by_cases y_ : (srp dd_ S0_ (rtv dd_ S0_ i_) : Int) = n_
            · have z8_ := z9_.2 (by omega)
              rw [if_pos (by omega)]
              refine ⟨fun _ => ?_, fun q9_ => ?_⟩
              · first | rfl | (exfalso; have z6_ : srp dd_ S0_ (rtv dd_ S0_ i_) = n_.toNat := (by omega); rw [z6_] at z8_; omega)
              · exfalso; omega
            · rw [if_neg (by omega)]
              exact ⟨fun q9_ => z9_.1 (by omega), fun q9_ => z9_.2 (by omega)⟩
          · omega
        · have cx4_ : ¬ ((S_.2.2.1 60 0 n_.toNat) ≤ 1) := of_decide_eq_false cx4_
          refine sm_T_go 2 (c1 := (148, [some (.inr (.inr (some (6, 0)))), some (.inl n_)], [.inl 1, .inl n_, .inr (.inr (some (60, 0)))], S_)) rfl ?_
          refine sm_T_iast (n := 1013) rfl rfl (by omega) (by omega) ?_
          have hIx7_ : gi (sm_aI S_ 60 0 n_.toNat 1) := gi_aI hI_ (show (-2147483648) ≤ 1 ∧ 1 ≤ 2147483647 from ⟨by omega, by omega⟩)
          have hFx8_ : ai_fr (sx_W vw_95) S0_ (sm_aI S_ 60 0 n_.toNat 1) := ai_fr_tr hF_ (ai_fr_aI rfl)
          refine sm_T_inc (a := 1) (z := 1) (v := n_) (w := n_ + 1) rfl rfl (by omega) (by omega) (by omega) ?_ -- pc_ 149
          refine sm_T_go 1 (c1 := (117, [some (.inr (.inr (some (6, 0)))), some (.inl (n_ + 1))], [], sm_aI S_ 60 0 n_.toNat 1)) rfl ?_
          refine ih_.2.2 (n_ + 1) (sm_aI S_ 60 0 n_.toNat 1) hIx7_ hFx8_ ⟨?_, ?_, trivial⟩ ?_
          · omega
          · intro i_ u_ w_
            have z9_ := hq2_ i_ u_ w_
            rw [rd_eq]
            by_cases y_ : (srp dd_ S0_ (rtv dd_ S0_ i_) : Int) = n_
            · have z8_ := z9_.2 (by omega)
              rw [if_pos (by omega)]
              refine ⟨fun _ => ?_, fun q9_ => ?_⟩
              · first | rfl | (exfalso; have z6_ : srp dd_ S0_ (rtv dd_ S0_ i_) = n_.toNat := (by omega); rw [z6_] at z8_; omega)
              · exfalso; omega
            · rw [if_neg (by omega)]
              exact ⟨fun q9_ => z9_.1 (by omega), fun q9_ => z9_.2 (by omega)⟩
          · omega
set_option maxHeartbeats 3000000 in
theorem vc_95 {sc_ : Nat × (Nat → Int)} (dd_ : Nat) (F_ : Nat) (S0_ : sm_S) (hI_ : gi S0_) (hd_ : S0_.2.1 6 0 0 = some dd_) (hr_ : drt dd_ S0_) (hg_ : dgr dd_ F_ S0_) (hs_ : swp dd_ F_ S0_) : sm_T (mt_P sc_) 2 95 (0, [some (.inr (.inr (some (6, 0)))), none], [], S0_) (fun ro9_ => ∃ u_ S1_, ro9_ = (.inl u_, S1_, 0) ∧ vq_95 dd_ F_ S0_ u_ S1_) := by
  have hF_ : ai_fr (sx_W vw_95) S0_ S0_ := ai_fr_rf
  have r1_ := hr_.1
  have g1_ := hg_.1
  refine sm_T_go 3 (c1 := (5, [some (.inr (.inr (some (6, 0)))), none], [.inl 0, .inr (.inr (some (60, 0)))], S0_)) rfl ?_
  refine sm_T_cal (d1 := 0) (Q1 := vq_2r0 0 S0_) rfl rfl (by decide) (vc_2r0 0 S0_ hI_ (by decide)) (fun u_ Sx1_ px4_ => ?_)
  obtain ⟨rfl, hIx2_, hFx3_, px4_⟩ := px4_
  have hFx5_ : ai_fr (sx_W vw_95) S0_ Sx1_ := ai_fr_tr hF_ (fr_le hFx3_ rfl)
  have e5_ := px4_
  refine sm_T_go 2 (c1 := (10, [some (.inr (.inr (some (6, 0)))), some (.inl 0)], [], Sx1_)) rfl ?_
  refine (vl_95 dd_ F_ S0_ hd_ hr_ hg_ hs_ _).1 0 Sx1_ hIx2_ hFx5_ ⟨?_, ?_, ?_, trivial⟩ (Nat.lt_succ_self _)
  · omega
  · (intro j_ hj_; rw [e5_ j_ hj_]; omega)
  · (intro i_ u_ w_; exfalso; omega)
