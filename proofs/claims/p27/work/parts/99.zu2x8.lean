/-! a chip is built: the class, with the stamp; written by wip/p55/gen/vg -/
/-! Chip.start -/
def vw_53m : sx_Wl := ([(2, 1), (2, 2), (2, 3), (2, 4), (2, 5), (2, 8), (2, 14), (2, 15), (2, 19), (5, 1), (5, 2)], [39, 55, 56, 57, 58], [])
def vq_53m (ii_ : Nat) (dd_ : Nat) (ll_ : Nat) (S0_ : sm_S) (u_ : Option sm_V) (S1_ : sm_S) : Prop := u_ = none ∧ gi S1_ ∧ ai_fr (sx_W vw_53m) S0_ S1_ ∧ (cdf ii_ S0_ S1_ ∧ ((S1_.1 2 ii_ 1 = S0_.1 3 dd_ 1 ∧ S1_.1 2 ii_ 2 = S0_.1 3 dd_ 2 ∧ S1_.1 2 ii_ 3 = S0_.1 3 dd_ 3 ∧ S1_.1 2 ii_ 4 = S0_.1 3 dd_ 5 ∧ S1_.1 2 ii_ 5 = S0_.1 3 dd_ 5 ∧ S1_.1 2 ii_ 8 = 0) ∧ clc ii_ ll_ S0_ S1_ ∧ S1_.1 2 ii_ 19 = S0_.1 2 ii_ 19 + 1))
set_option maxHeartbeats 400000 in
theorem vc_53m {sc_ : Nat × (Nat → Int)} (ii_ : Nat) (dd_ : Nat) (ll_ : Nat) (S0_ : sm_S) (hI_ : gi S0_) (hd_ : dOk dd_ S0_) (hls_ : 0 ≤ S0_.1 2 ii_ 19 ∧ S0_.1 2 ii_ 19 ≤ 1000000) : sm_T (mt_P sc_) 1 53 (0, [some (.inr (.inr (some (2, ii_)))), some (.inr (.inr (some (3, dd_)))), some (.inr (.inr (some (5, ll_))))], [], S0_) (fun ro9_ => ∃ u_ S1_, ro9_ = (.inl u_, S1_, 0) ∧ vq_53m ii_ dd_ ll_ S0_ u_ S1_) := by
  have hF_ : ai_fr (sx_W vw_53m) S0_ S0_ := ai_fr_rf
  have hC_ : cdf ii_ S0_ S0_ := cdf_rf
  have J9_ := dOk_b hd_
  have J9a := J9_.1
  have J9b := J9_.2.1
  have J9c := J9_.2.2.1
  have pw9_ := pw_le (n := (S0_.1 3 dd_ 2).toNat) (m := 6) (by omega)
  have bx1_ : 0 ≤ S0_.1 3 dd_ 1 ∧ S0_.1 3 dd_ 1 ≤ 320 := hI_.1 3 dd_ 1 rfl
  have hIx2_ : gi (sm_pI S0_ 2 ii_ 1 (S0_.1 3 dd_ 1)) := gi_pI hI_ (show 0 ≤ (S0_.1 3 dd_ 1) ∧ (S0_.1 3 dd_ 1) ≤ 12 from ⟨by omega, by omega⟩)
  have hFx3_ : ai_fr (sx_W vw_53m) S0_ (sm_pI S0_ 2 ii_ 1 (S0_.1 3 dd_ 1)) := ai_fr_tr hF_ (ai_fr_pI rfl)
  have hCx4_ : cdf ii_ S0_ (sm_pI S0_ 2 ii_ 1 (S0_.1 3 dd_ 1)) := cdf_pI hC_ (Or.inr (by rw [show cof 2 = 0 from rfl] <;> omega))
  have bx5_ : 0 ≤ S0_.1 3 dd_ 2 ∧ S0_.1 3 dd_ 2 ≤ 100000 := hI_.1 3 dd_ 2 rfl
  have hIx6_ : gi (sm_pI (sm_pI S0_ 2 ii_ 1 (S0_.1 3 dd_ 1)) 2 ii_ 2 (S0_.1 3 dd_ 2)) := gi_pI hIx2_ (show 0 ≤ (S0_.1 3 dd_ 2) ∧ (S0_.1 3 dd_ 2) ≤ 6 from ⟨by omega, by omega⟩)
  have hFx7_ : ai_fr (sx_W vw_53m) S0_ (sm_pI (sm_pI S0_ 2 ii_ 1 (S0_.1 3 dd_ 1)) 2 ii_ 2 (S0_.1 3 dd_ 2)) := ai_fr_tr hFx3_ (ai_fr_pI rfl)
  have hCx8_ : cdf ii_ S0_ (sm_pI (sm_pI S0_ 2 ii_ 1 (S0_.1 3 dd_ 1)) 2 ii_ 2 (S0_.1 3 dd_ 2)) := cdf_pI hCx4_ (Or.inr (by rw [show cof 2 = 0 from rfl] <;> omega))
  have bx9_ : 0 ≤ S0_.1 3 dd_ 3 ∧ S0_.1 3 dd_ 3 ≤ 320 := hI_.1 3 dd_ 3 rfl
  have hIx10_ : gi (sm_pI (sm_pI (sm_pI S0_ 2 ii_ 1 (S0_.1 3 dd_ 1)) 2 ii_ 2 (S0_.1 3 dd_ 2)) 2 ii_ 3 (S0_.1 3 dd_ 3)) := gi_pI hIx6_ (show 0 ≤ (S0_.1 3 dd_ 3) ∧ (S0_.1 3 dd_ 3) ≤ 16 from ⟨by omega, by omega⟩)
  have hFx11_ : ai_fr (sx_W vw_53m) S0_ (sm_pI (sm_pI (sm_pI S0_ 2 ii_ 1 (S0_.1 3 dd_ 1)) 2 ii_ 2 (S0_.1 3 dd_ 2)) 2 ii_ 3 (S0_.1 3 dd_ 3)) := ai_fr_tr hFx7_ (ai_fr_pI rfl)
  have hCx12_ : cdf ii_ S0_ (sm_pI (sm_pI (sm_pI S0_ 2 ii_ 1 (S0_.1 3 dd_ 1)) 2 ii_ 2 (S0_.1 3 dd_ 2)) 2 ii_ 3 (S0_.1 3 dd_ 3)) := cdf_pI hCx8_ (Or.inr (by rw [show cof 2 = 0 from rfl] <;> omega))
  have bx13_ : 0 ≤ S0_.1 3 dd_ 5 ∧ S0_.1 3 dd_ 5 ≤ 63 := hI_.1 3 dd_ 5 rfl
  have hIx14_ : gi (sm_pI (sm_pI (sm_pI (sm_pI S0_ 2 ii_ 1 (S0_.1 3 dd_ 1)) 2 ii_ 2 (S0_.1 3 dd_ 2)) 2 ii_ 3 (S0_.1 3 dd_ 3)) 2 ii_ 4 (S0_.1 3 dd_ 5)) := gi_pI hIx10_ (show 0 ≤ (S0_.1 3 dd_ 5) ∧ (S0_.1 3 dd_ 5) ≤ 63 from ⟨by omega, by omega⟩)
  have hFx15_ : ai_fr (sx_W vw_53m) S0_ (sm_pI (sm_pI (sm_pI (sm_pI S0_ 2 ii_ 1 (S0_.1 3 dd_ 1)) 2 ii_ 2 (S0_.1 3 dd_ 2)) 2 ii_ 3 (S0_.1 3 dd_ 3)) 2 ii_ 4 (S0_.1 3 dd_ 5)) := ai_fr_tr hFx11_ (ai_fr_pI rfl)
  have hCx16_ : cdf ii_ S0_ (sm_pI (sm_pI (sm_pI (sm_pI S0_ 2 ii_ 1 (S0_.1 3 dd_ 1)) 2 ii_ 2 (S0_.1 3 dd_ 2)) 2 ii_ 3 (S0_.1 3 dd_ 3)) 2 ii_ 4 (S0_.1 3 dd_ 5)) := cdf_pI hCx12_ (Or.inr (by rw [show cof 2 = 0 from rfl] <;> omega))
  have hIx17_ : gi (sm_pI (sm_pI (sm_pI (sm_pI (sm_pI S0_ 2 ii_ 1 (S0_.1 3 dd_ 1)) 2 ii_ 2 (S0_.1 3 dd_ 2)) 2 ii_ 3 (S0_.1 3 dd_ 3)) 2 ii_ 4 (S0_.1 3 dd_ 5)) 2 ii_ 5 (S0_.1 3 dd_ 5)) := gi_pI hIx14_ (show 0 ≤ (S0_.1 3 dd_ 5) ∧ (S0_.1 3 dd_ 5) ≤ 63 from ⟨by omega, by omega⟩)
  have hFx18_ : ai_fr (sx_W vw_53m) S0_ (sm_pI (sm_pI (sm_pI (sm_pI (sm_pI S0_ 2 ii_ 1 (S0_.1 3 dd_ 1)) 2 ii_ 2 (S0_.1 3 dd_ 2)) 2 ii_ 3 (S0_.1 3 dd_ 3)) 2 ii_ 4 (S0_.1 3 dd_ 5)) 2 ii_ 5 (S0_.1 3 dd_ 5)) := ai_fr_tr hFx15_ (ai_fr_pI rfl)
  have hCx19_ : cdf ii_ S0_ (sm_pI (sm_pI (sm_pI (sm_pI (sm_pI S0_ 2 ii_ 1 (S0_.1 3 dd_ 1)) 2 ii_ 2 (S0_.1 3 dd_ 2)) 2 ii_ 3 (S0_.1 3 dd_ 3)) 2 ii_ 4 (S0_.1 3 dd_ 5)) 2 ii_ 5 (S0_.1 3 dd_ 5)) := cdf_pI hCx16_ (Or.inr (by rw [show cof 2 = 0 from rfl] <;> omega))
  refine sm_T_go 23 (c1 := (45, [some (.inr (.inr (some (2, ii_)))), some (.inr (.inr (some (3, dd_)))), some (.inr (.inr (some (5, ll_))))], [.inr (.inr (some (5, ll_))), .inr (.inr (some (5, (3 + ii_))))], sm_pI (sm_pI (sm_pI (sm_pI (sm_pI S0_ 2 ii_ 1 (S0_.1 3 dd_ 1)) 2 ii_ 2 (S0_.1 3 dd_ 2)) 2 ii_ 3 (S0_.1 3 dd_ 3)) 2 ii_ 4 (S0_.1 3 dd_ 5)) 2 ii_ 5 (S0_.1 3 dd_ 5))) rfl ?_
  refine sm_T_cal (d1 := 0) (Q1 := vq_90n ii_ ll_ (sm_pI (sm_pI (sm_pI (sm_pI (sm_pI S0_ 2 ii_ 1 (S0_.1 3 dd_ 1)) 2 ii_ 2 (S0_.1 3 dd_ 2)) 2 ii_ 3 (S0_.1 3 dd_ 3)) 2 ii_ 4 (S0_.1 3 dd_ 5)) 2 ii_ 5 (S0_.1 3 dd_ 5))) rfl rfl (by decide) (vc_90n ii_ ll_ (sm_pI (sm_pI (sm_pI (sm_pI (sm_pI S0_ 2 ii_ 1 (S0_.1 3 dd_ 1)) 2 ii_ 2 (S0_.1 3 dd_ 2)) 2 ii_ 3 (S0_.1 3 dd_ 3)) 2 ii_ 4 (S0_.1 3 dd_ 5)) 2 ii_ 5 (S0_.1 3 dd_ 5)) hIx17_ ) (fun u_ Sx20_ px23_ => ?_)
  obtain ⟨rfl, hIx21_, hFx22_, px23_⟩ := px23_
  have hFx24_ : ai_fr (sx_W vw_53m) S0_ Sx20_ := ai_fr_tr hFx18_ (fr_le hFx22_ rfl)
  obtain ⟨dx26_, px23_⟩ := px23_
  have hCx25_ : cdf ii_ S0_ Sx20_ := cdf_tr hCx19_ (cdf_cg (by omega) dx26_)
  have u19_ := hFx22_.1 2 ii_ 19 rfl
  simp only [rf_eq, rf_nt, rf_nk, rd_fa, rd_af, ne_eq, Nat.reduceEqDiff, not_false_eq_true] at u19_
  have L45_ : clc ii_ ll_ S0_ Sx20_ := by (have z9_ := px23_; unfold clc at z9_ ⊢; (try simp only [rf_eq, rf_nt, rf_nk, rd_fa, rd_af, ne_eq, Nat.reduceEqDiff, not_false_eq_true] at z9_); exact z9_)
  have u1_ := hFx22_.1 2 ii_ 1 rfl
  have u2_ := hFx22_.1 2 ii_ 2 rfl
  have u3_ := hFx22_.1 2 ii_ 3 rfl
  have u4_ := hFx22_.1 2 ii_ 4 rfl
  have u5_ := hFx22_.1 2 ii_ 5 rfl
  simp only [rf_eq, rf_nt, rf_nk, rd_fa, rd_af, ne_eq, Nat.reduceEqDiff, not_false_eq_true] at u1_ u2_ u3_ u4_ u5_
  have hIx27_ : gi (sm_pI Sx20_ 2 ii_ 8 0) := gi_pI hIx21_ (show 0 ≤ 0 ∧ 0 ≤ 150 from ⟨by omega, by omega⟩)
  have hFx28_ : ai_fr (sx_W vw_53m) S0_ (sm_pI Sx20_ 2 ii_ 8 0) := ai_fr_tr hFx24_ (ai_fr_pI rfl)
  have hCx29_ : cdf ii_ S0_ (sm_pI Sx20_ 2 ii_ 8 0) := cdf_pI hCx25_ (Or.inr (by rw [show cof 2 = 0 from rfl] <;> omega))
  refine sm_T_go 6 (c1 := (58, [some (.inr (.inr (some (2, ii_)))), some (.inr (.inr (some (3, dd_)))), some (.inr (.inr (some (5, ll_))))], [.inl 0, .inr (.inr (some (39, (0 + ii_))))], sm_pI Sx20_ 2 ii_ 8 0)) rfl ?_
  refine sm_T_cal (d1 := 0) (Q1 := vq_2e9 0 ii_ (sm_pI Sx20_ 2 ii_ 8 0)) rfl rfl (by decide) (vc_2e9 0 ii_ (sm_pI Sx20_ 2 ii_ 8 0) hIx27_ (by decide)) (fun u_ Sx30_ px33_ => ?_)
  obtain ⟨rfl, hIx31_, hFx32_, px33_⟩ := px33_
  have hFx34_ : ai_fr (sx_W vw_53m) S0_ Sx30_ := ai_fr_tr hFx28_ (fr_le hFx32_ rfl)
  obtain ⟨dx36_, px33_⟩ := px33_
  have hCx35_ : cdf ii_ S0_ Sx30_ := cdf_tr hCx29_ (cdf_cg (by omega) dx36_)
  have w19_ := hFx32_.1 2 ii_ 19 rfl
  simp only [rf_eq, rf_nt, rf_nk, rd_fa, rd_af, ne_eq, Nat.reduceEqDiff, not_false_eq_true] at w19_
  have L58_ : clc ii_ ll_ S0_ Sx30_ := by (have z9_ := L45_; unfold clc at z9_ ⊢; rw [hFx32_.1 5 (3 + ii_) 1 rfl, hFx32_.1 5 (3 + ii_) 2 rfl, fr_arr (t := 55) (i := 0 + (3 + ii_)) hFx32_ rfl, fr_arr (t := 56) (i := 0 + (3 + ii_)) hFx32_ rfl, fr_arr (t := 57) (i := 0 + (3 + ii_)) hFx32_ rfl, fr_arr (t := 58) (i := 0 + (3 + ii_)) hFx32_ rfl]; (try simp only [rf_eq, rf_nt, rf_nk, rd_fa, rd_af, ne_eq, Nat.reduceEqDiff, not_false_eq_true]); exact z9_)
  have w1_ := hFx32_.1 2 ii_ 1 rfl
  have w2_ := hFx32_.1 2 ii_ 2 rfl
  have w3_ := hFx32_.1 2 ii_ 3 rfl
  have w4_ := hFx32_.1 2 ii_ 4 rfl
  have w5_ := hFx32_.1 2 ii_ 5 rfl
  have w8_ := hFx32_.1 2 ii_ 8 rfl
  simp only [rf_eq, rf_nt, rf_nk, rd_fa, rd_af, ne_eq, Nat.reduceEqDiff, not_false_eq_true] at w1_ w2_ w3_ w4_ w5_ w8_
  have hIx37_ : gi (sm_pI Sx30_ 2 ii_ 14 0) := gi_pI hIx31_ (show 0 ≤ 0 ∧ 0 ≤ 40 from ⟨by omega, by omega⟩)
  have hFx38_ : ai_fr (sx_W vw_53m) S0_ (sm_pI Sx30_ 2 ii_ 14 0) := ai_fr_tr hFx34_ (ai_fr_pI rfl)
  have hCx39_ : cdf ii_ S0_ (sm_pI Sx30_ 2 ii_ 14 0) := cdf_pI hCx35_ (Or.inr (by rw [show cof 2 = 0 from rfl] <;> omega))
  have hIx40_ : gi (sm_pI (sm_pI Sx30_ 2 ii_ 14 0) 2 ii_ 15 (-1)) := gi_pI hIx37_ (show (-1) ≤ (-1) ∧ (-1) ≤ 1224 from ⟨by omega, by omega⟩)
  have hFx41_ : ai_fr (sx_W vw_53m) S0_ (sm_pI (sm_pI Sx30_ 2 ii_ 14 0) 2 ii_ 15 (-1)) := ai_fr_tr hFx38_ (ai_fr_pI rfl)
  have hCx42_ : cdf ii_ S0_ (sm_pI (sm_pI Sx30_ 2 ii_ 14 0) 2 ii_ 15 (-1)) := cdf_pI hCx39_ (Or.inr (by rw [show cof 2 = 0 from rfl] <;> omega))
  have bx43_ : (-2147483648) ≤ Sx30_.1 2 ii_ 19 ∧ Sx30_.1 2 ii_ 19 ≤ 2147483647 := hIx31_.1 2 ii_ 19 rfl
  have ex44_ : (sm_pI (sm_pI Sx30_ 2 ii_ 14 0) 2 ii_ 15 (-1)).1 2 ii_ 19 = (Sx30_.1 2 ii_ 19) := by (try simp only [rf_eq, rf_nk, rf_nt, rd_fa, rd_af, ne_eq, Nat.reduceEqDiff, not_false_eq_true])
  refine sm_T_go 10 (c1 := (77, [some (.inr (.inr (some (2, ii_)))), some (.inr (.inr (some (3, dd_)))), some (.inr (.inr (some (5, ll_))))], [.inl 1, .inl ((sm_pI (sm_pI Sx30_ 2 ii_ 14 0) 2 ii_ 15 (-1)).1 2 ii_ 19), .inr (.inr (some (2, ii_)))], sm_pI (sm_pI Sx30_ 2 ii_ 14 0) 2 ii_ 15 (-1))) rfl ?_
  refine sm_T_bin (w := ((sm_pI (sm_pI Sx30_ 2 ii_ 14 0) 2 ii_ 15 (-1)).1 2 ii_ 19) + 1) rfl (bi_add (by omega) (by omega) (by omega)) ?_ -- pc_ 77
  have hIx45_ : gi (sm_pI (sm_pI (sm_pI Sx30_ 2 ii_ 14 0) 2 ii_ 15 (-1)) 2 ii_ 19 (((sm_pI (sm_pI Sx30_ 2 ii_ 14 0) 2 ii_ 15 (-1)).1 2 ii_ 19) + 1)) := gi_pI hIx40_ (show (-2147483648) ≤ ((sm_pI (sm_pI Sx30_ 2 ii_ 14 0) 2 ii_ 15 (-1)).1 2 ii_ 19) + 1 ∧ ((sm_pI (sm_pI Sx30_ 2 ii_ 14 0) 2 ii_ 15 (-1)).1 2 ii_ 19) + 1 ≤ 2147483647 from ⟨by omega, by omega⟩)
  have hFx46_ : ai_fr (sx_W vw_53m) S0_ (sm_pI (sm_pI (sm_pI Sx30_ 2 ii_ 14 0) 2 ii_ 15 (-1)) 2 ii_ 19 (((sm_pI (sm_pI Sx30_ 2 ii_ 14 0) 2 ii_ 15 (-1)).1 2 ii_ 19) + 1)) := ai_fr_tr hFx41_ (ai_fr_pI rfl)
  have hCx47_ : cdf ii_ S0_ (sm_pI (sm_pI (sm_pI Sx30_ 2 ii_ 14 0) 2 ii_ 15 (-1)) 2 ii_ 19 (((sm_pI (sm_pI Sx30_ 2 ii_ 14 0) 2 ii_ 15 (-1)).1 2 ii_ 19) + 1)) := cdf_pI hCx42_ (Or.inr (by rw [show cof 2 = 0 from rfl] <;> omega))
  refine sm_T_go 1 (c1 := (81, [some (.inr (.inr (some (2, ii_)))), some (.inr (.inr (some (3, dd_)))), some (.inr (.inr (some (5, ll_))))], [], sm_pI (sm_pI (sm_pI Sx30_ 2 ii_ 14 0) 2 ii_ 15 (-1)) 2 ii_ 19 (((sm_pI (sm_pI Sx30_ 2 ii_ 14 0) 2 ii_ 15 (-1)).1 2 ii_ 19) + 1))) rfl ?_
  refine sm_T_rv rfl ⟨_, _, rfl, rfl, hIx45_, hFx46_, ?_⟩
  refine ⟨hCx47_, ?_⟩
  refine ⟨?_, ?_, ?_⟩
  · simp only [rf_eq, rf_nt, rf_nk, rd_fa, rd_af, ne_eq, Nat.reduceEqDiff, not_false_eq_true]
    exact ⟨by omega, by omega, by omega, by omega, by omega, by omega⟩
  · have z9_ := L58_
    unfold clc at z9_ ⊢
    simp only [rf_eq, rf_nt, rf_nk, rd_fa, rd_af, ne_eq, Nat.reduceEqDiff, not_false_eq_true]
    exact z9_
  · simp only [rf_eq, rf_nt, rf_nk, rd_fa, rd_af, ne_eq, Nat.reduceEqDiff, not_false_eq_true]
    omega
/-! Mapper.build -/
def vw_91m : sx_Wl := ([(0, 1), (0, 11), (0, 16), (2, 1), (2, 2), (2, 3), (2, 4), (2, 5), (2, 8), (2, 14), (2, 15), (2, 19), (4, 0), (5, 1), (5, 2), (6, 11), (6, 13)], [16, 17, 18, 19, 20, 21, 35, 36, 37, 38, 39, 55, 56, 57, 58, 59, 60, 61, 62, 63, 64, 65, 66, 67, 68, 69, 70, 71, 72, 73], [(6, 0), (6, 1)])
def vq_91m (dd_ : Nat) (ll_ : Nat) (cc_ : Nat) (F_ : Nat) (S0_ : sm_S) (u_ : Option sm_V) (S1_ : sm_S) : Prop := ∃ v_ : Int, u_ = some (.inl v_) ∧ gi S1_ ∧ ai_fr (sx_W vw_91m) S0_ S1_ ∧ (cdf cc_ S0_ S1_ ∧ (((S1_.1 2 cc_ 19 = S0_.1 2 cc_ 19 ∨ S1_.1 2 cc_ 19 = S0_.1 2 cc_ 19 + 1) ∧ imq (v_ = 0) (S1_.1 2 cc_ 19 = S0_.1 2 cc_ 19 + 1)) ∧ ((v_ = 0 ∧ (S1_.1 2 cc_ 1 = S0_.1 3 dd_ 1 ∧ S1_.1 2 cc_ 2 = S0_.1 3 dd_ 2 ∧ S1_.1 2 cc_ 3 = S0_.1 3 dd_ 3 ∧ S1_.1 2 cc_ 4 = S0_.1 3 dd_ 5 ∧ S1_.1 2 cc_ 5 = S0_.1 3 dd_ 5) ∧ bpn (0 + cc_) S1_ ∧ bpp (0 + cc_) cc_ S1_ ∧ S1_.1 0 (0 + cc_) 1 = 0 ∧ S1_.1 0 (0 + cc_) 11 = 0 ∧ S1_.1 4 (0 + (0 + cc_)) 0 = 0) ∨ v_ = -1 ∨ v_ = -2) ∧ imq (v_ = 0) (clc cc_ ll_ S1_ S1_) ∧ bcm dd_ F_ S1_ ∧ bvw ll_ S1_ ∧ ((v_ = -1 ∧ ((∃ n_ : Nat, btn dd_ F_ S1_ n_ ∧ S1_.2.2.1 60 0 n_ ≠ 0 ∧ 268435456 ≤ S1_.2.2.1 61 0 (2 * n_) ∧ ∀ x_, btn dd_ F_ S1_ x_ → x_ ≤ n_ → cnw dd_ F_ ll_ (btn dd_ F_ S1_) S1_ x_) ∨ (ball dd_ F_ ll_ S1_ ∧ S1_.1 5 ll_ 2 = -1 ∧ ∃ i_ : Int, 0 ≤ i_ ∧ i_ < S0_.1 3 dd_ 3 + S0_.1 3 dd_ 2 ∧ 1 < slv dd_ S1_ i_ ∧ slv dd_ S1_ i_ % 2 = 1))) ∨ (v_ ≠ -1 ∧ ball dd_ F_ ll_ S1_ ∧ (S1_.1 5 ll_ 2 ≠ -1 ∨ ∀ i_ : Int, 0 ≤ i_ → i_ < S0_.1 3 dd_ 3 + S0_.1 3 dd_ 2 → slv dd_ S1_ i_ ≤ 1 ∨ slv dd_ S1_ i_ % 2 = 0) ∧ ∃ M_ : Nat → Int, inm (F_ : Int) M_ ∧ ((v_ = -2 ∧ 150 < (rtq (cpn ll_ S1_) (cpv (F_ : Int) S1_) (cgc ll_ S1_) ((F_ : Int) - 1) (fun j_ => slv dd_ S1_ (j_ : Int)) (S0_.1 3 dd_ 3 + S0_.1 3 dd_ 2).toNat (M_, [])).2.length) ∨ (v_ = 0 ∧ ∃ g9_ : List (Int × List Int), cgz cc_ S1_ g9_ ∧ (S1_.2.2.1 72 0, g9_) = rtq (cpn ll_ S1_) (cpv (F_ : Int) S1_) (cgc ll_ S1_) ((F_ : Int) - 1) (fun j_ => slv dd_ S1_ (j_ : Int)) (S0_.1 3 dd_ 3 + S0_.1 3 dd_ 2).toNat (M_, []) ∧ ∀ j_ : Nat, j_ < (S0_.1 3 dd_ 3 + S0_.1 3 dd_ 2).toNat → (if (j_ : Int) < S0_.1 3 dd_ 3 then S1_.2.2.1 37 (0 + cc_) j_ else S1_.2.2.1 38 (0 + cc_) (j_ - (S0_.1 3 dd_ 3).toNat)) = ntq (fun j_ => slv dd_ S1_ (j_ : Int)) (S1_.2.2.1 72 0) j_))))))
set_option maxHeartbeats 4000000 in
theorem vl_91m {sc_ : Nat × (Nat → Int)} (dd_ : Nat) (ll_ : Nat) (cc_ : Nat) (F_ : Nat) (S0_ : sm_S) (hls_ : 0 ≤ S0_.1 2 cc_ 19 ∧ S0_.1 2 cc_ 19 ≤ 1000000) (hsw : swd F_ (S0_.1 3 dd_ 4).toNat (S0_.2.2.1 42 (0 + dd_)) (S0_.2.2.1 43 (0 + dd_)) (S0_.2.2.1 44 (0 + dd_))) (hok_ : dOk dd_ S0_) (hg_ : dgr dd_ F_ S0_) (hr_ : drt dd_ S0_) (hs_ : swp dd_ F_ S0_) (hl_ : ll_ < 3) : ∀ nn_ : Nat, (∀ (n_ : Int) (S_ : sm_S), gi S_ → ai_fr (sx_W vw_91m) S0_ S_ → (((F_ : Int) ≤ n_ ∧ n_ ≤ S0_.1 3 dd_ 4) ∧ (S_.2.1 6 0 0 = some dd_) ∧ (S_.2.1 6 0 1 = some ll_) ∧ (mkd dd_ F_ S_ (S_.2.2.1 59 0)) ∧ (rtm dd_ S_) ∧ (wal (1 + S0_.1 3 dd_ 1 + S0_.1 3 dd_ 2) n_ ll_ S_) ∧ (S_.1 2 cc_ 19 = S0_.1 2 cc_ 19) ∧ (bcm dd_ F_ S_) ∧ (bvw ll_ S_) ∧ (∀ x_ : Nat, btn dd_ F_ S_ x_ → (x_ : Int) < n_ → cnw dd_ F_ ll_ (btn dd_ F_ S_) S_ x_ ∧ (S_.2.2.1 60 0 x_ ≠ 0 → S_.2.2.1 61 0 (2 * x_) < 268435456)) ∧ (cdf cc_ S0_ S_) ∧ True) → ((9000 - n_).toNat) < nn_ → sm_T (mt_P sc_) 6 91 (39, [some (.inr (.inr (some (6, 0)))), some (.inr (.inr (some (3, dd_)))), some (.inr (.inr (some (5, ll_)))), some (.inr (.inr (some (2, cc_)))), some (.inl n_)], [], S_) (fun ro9_ => ∃ u_ S1_, ro9_ = (.inl u_, S1_, 0) ∧ vq_91m dd_ ll_ cc_ F_ S0_ u_ S1_)) := by
  intro nn_
  induction nn_ with
  | zero => exact fun _ _ _ _ _ h_ => absurd h_ (Nat.not_lt_zero _)
  | succ nn_ ih_ =>
    rintro n_ S_ hI_ hF_ ⟨h0_, htk_, htk2_, hk_, hrr_, hwl_, h19_, hbc_, hvw_, hcn_, hC_, -⟩ hm_
    have f1_ : S_.1 3 dd_ 1 = S0_.1 3 dd_ 1 := hF_.1 3 dd_ 1 rfl
    have f2_ : S_.1 3 dd_ 2 = S0_.1 3 dd_ 2 := hF_.1 3 dd_ 2 rfl
    have f3_ : S_.1 3 dd_ 3 = S0_.1 3 dd_ 3 := hF_.1 3 dd_ 3 rfl
    have f4_ : S_.1 3 dd_ 4 = S0_.1 3 dd_ 4 := hF_.1 3 dd_ 4 rfl
    have f6_ : S_.1 3 dd_ 5 = S0_.1 3 dd_ 5 := hF_.1 3 dd_ 5 rfl
    have g1_ := hg_.1
    have g2_ := hg_.2.1
    have cN_ : 0 ≤ S_.1 3 dd_ 4 ∧ S_.1 3 dd_ 4 ≤ 1013 := hI_.1 3 dd_ 4 rfl
    refine sm_T_go 2 (c1 := (42, [some (.inr (.inr (some (6, 0)))), some (.inr (.inr (some (3, dd_)))), some (.inr (.inr (some (5, ll_)))), some (.inr (.inr (some (2, cc_)))), some (.inl n_)], [.inr (.inr (some (6, 0))), .inl n_], S_)) rfl ?_
    refine sm_T_gr rfl rfl htk_ ?_
    have bx1_ : 0 ≤ S_.1 3 dd_ 4 ∧ S_.1 3 dd_ 4 ≤ 1013 := hI_.1 3 dd_ 4 rfl
    refine sm_T_go 1 (c1 := (48, [some (.inr (.inr (some (6, 0)))), some (.inr (.inr (some (3, dd_)))), some (.inr (.inr (some (5, ll_)))), some (.inr (.inr (some (2, cc_)))), some (.inl n_)], [.inl (S_.1 3 dd_ 4), .inl n_], S_)) rfl ?_
    refine sm_T_br (a := 3) (z := 51) rfl (fun cx2_ => ?_) (fun cx2_ => ?_)
    · have cx2_ : (S_.1 3 dd_ 4) ≤ n_ := of_decide_eq_true cx2_
      have A9_ : ball dd_ F_ ll_ S_ := ⟨fun x_ hx_ => (hcn_ x_ hx_ (by (have z9_ := hx_.2.1; omega))).1, fun x_ hx_ => (hcn_ x_ hx_ (by (have z9_ := hx_.2.1; omega))).2⟩
      have W9_ : wal (1 + S0_.1 3 dd_ 1 + S0_.1 3 dd_ 2) (S_.1 3 dd_ 4) ll_ S_ := by (rw [f4_, show S0_.1 3 dd_ 4 = n_ by omega]; exact hwl_)
      refine sm_T_go 1 (c1 := (100, [some (.inr (.inr (some (6, 0)))), some (.inr (.inr (some (3, dd_)))), some (.inr (.inr (some (5, ll_)))), some (.inr (.inr (some (2, cc_)))), some (.inl n_)], [.inr (.inr (some (6, 0)))], S_)) rfl ?_
      refine sm_T_gr rfl rfl htk2_ ?_
      have bx3_ : (-1) ≤ S_.1 5 ll_ 2 ∧ S_.1 5 ll_ 2 ≤ 11 := hI_.1 5 ll_ 2 rfl
      refine sm_T_go 2 (c1 := (107, [some (.inr (.inr (some (6, 0)))), some (.inr (.inr (some (3, dd_)))), some (.inr (.inr (some (5, ll_)))), some (.inr (.inr (some (2, cc_)))), some (.inl n_)], [.inl (-1), .inl (S_.1 5 ll_ 2)], S_)) rfl ?_
      refine sm_T_br (a := 1) (z := 12) rfl (fun cx4_ => ?_) (fun cx4_ => ?_)
      · have cx4_ : (S_.1 5 ll_ 2) ≠ (-1) := of_decide_eq_true cx4_
        have R9_ : rgt dd_ ll_ S_ := rgt_of (dgr_fr hg_ hF_ rfl rfl rfl rfl rfl) (drt_fr hr_ hF_ rfl rfl rfl rfl rfl) (swp_fr hs_ hF_ rfl rfl rfl rfl) hk_ (by omega) hrr_ (by rw [f1_, f2_]; exact W9_) (Or.inl (by omega))
        have IVx_ : S_.1 5 ll_ 2 ≠ -1 ∨ ∀ i_ : Int, 0 ≤ i_ → i_ < S0_.1 3 dd_ 3 + S0_.1 3 dd_ 2 → slv dd_ S_ i_ ≤ 1 ∨ slv dd_ S_ i_ % 2 = 0 := Or.inl (by omega)
        refine sm_T_go 2 (c1 := (121, [some (.inr (.inr (some (6, 0)))), some (.inr (.inr (some (3, dd_)))), some (.inr (.inr (some (5, ll_)))), some (.inr (.inr (some (2, cc_)))), some (.inl n_)], [.inr (.inr (some (6, 0))), .inr (.inr (some (2, cc_)))], S_)) rfl ?_
        refine sm_T_gr rfl rfl htk_ ?_
        refine sm_T_go 1 (c1 := (125, [some (.inr (.inr (some (6, 0)))), some (.inr (.inr (some (3, dd_)))), some (.inr (.inr (some (5, ll_)))), some (.inr (.inr (some (2, cc_)))), some (.inl n_)], [.inr (.inr (some (6, 0))), .inr (.inr (some (3, dd_))), .inr (.inr (some (2, cc_)))], S_)) rfl ?_
        refine sm_T_gr rfl rfl htk2_ ?_
        refine sm_T_cal (d1 := 1) (Q1 := vq_53m cc_ dd_ ll_ S_) rfl rfl (by decide) (vc_53m cc_ dd_ ll_ S_ hI_ (by exact dOk_fr hok_ hF_ (by decide) (by decide)) (by (first | (rw [h19_]; exact hls_) | omega))) (fun u_ Sx5_ px8_ => ?_)
        obtain ⟨rfl, hIx6_, hFx7_, px8_⟩ := px8_
        have hFx9_ : ai_fr (sx_W vw_91m) S0_ Sx5_ := ai_fr_tr hF_ (fr_le hFx7_ rfl)
        obtain ⟨dx11_, px8_⟩ := px8_
        have hCx10_ : cdf cc_ S0_ Sx5_ := cdf_tr hC_ (cdf_cg (by omega) dx11_)
        have tx12_ : Sx5_.2.1 6 0 1 = some ll_ := (hFx7_.2.1 6 0 1 rfl).trans htk2_
        have tx13_ : Sx5_.2.1 6 0 0 = some dd_ := (hFx7_.2.1 6 0 0 rfl).trans htk_
        have ex14_ : Sx5_.1 3 dd_ 4 = S_.1 3 dd_ 4 := hFx7_.1 3 dd_ 4 rfl
        have c128_ := (px8_).1
        have L128_ := (px8_).2.1
        have s128_ : Sx5_.1 2 cc_ 19 = S0_.1 2 cc_ 19 + 1 := by (have z9_ := (px8_).2.2; rw [z9_]; first | rw [h19_] | omega)
        have g128_ := hFx7_
        refine sm_T_go 2 (c1 := (133, [some (.inr (.inr (some (6, 0)))), some (.inr (.inr (some (3, dd_)))), some (.inr (.inr (some (5, ll_)))), some (.inr (.inr (some (2, cc_)))), some (.inl n_)], [.inr (.inr (some (2, cc_))), .inr (.inr (some (6, 0)))], Sx5_)) rfl ?_
        refine sm_T_cal (d1 := 5) (Q1 := vq_109n dd_ ll_ cc_ Sx5_) rfl rfl (by decide) (vc_109n dd_ ll_ cc_ Sx5_ hIx6_ (by omega) (by exact tx13_) (by exact tx12_) (by (rw [g128_.1 3 dd_ 1 rfl, g128_.1 3 dd_ 2 rfl, g128_.1 3 dd_ 4 rfl, f1_, f2_]; exact wal_cd W9_ g128_ hC_ hCx10_ hl_)) (by omega) (by exact drt_fr hr_ hFx9_ rfl rfl rfl rfl rfl) (by (rw [g128_.1 3 dd_ 1 rfl, g128_.1 3 dd_ 2 rfl]; omega)) (by exact rgt_cd R9_ g128_ hC_ hCx10_ hl_)) (fun u_ Sx15_ px18_ => ?_)
        obtain ⟨vx20_, rfl, hIx16_, hFx17_, px18_⟩ := px18_
        have hFx19_ : ai_fr (sx_W vw_91m) S0_ Sx15_ := ai_fr_tr hFx9_ (fr_le hFx17_ rfl)
        obtain ⟨dx22_, px18_⟩ := px18_
        have hCx21_ : cdf cc_ S0_ Sx15_ := cdf_tr hCx10_ (cdf_cg (by omega) dx22_)
        have tx23_ : Sx15_.2.1 6 0 1 = some ll_ := (hFx17_.2.1 6 0 1 rfl).trans tx12_
        have tx24_ : Sx15_.2.1 6 0 0 = some dd_ := (hFx17_.2.1 6 0 0 rfl).trans tx13_
        have s133_ := (hFx17_.1 2 cc_ 19 rfl).trans s128_
        have v133_ := (px18_).1
        obtain ⟨M9_, inm9_, X133_⟩ := (px18_).2
        have l133_ := cdf_l hC_ hCx21_ hl_
        have L133_ : clc cc_ ll_ Sx15_ Sx15_ := by (have z9_ := L128_; unfold clc at z9_ ⊢; rw [hFx17_.1 5 (3 + cc_) 1 rfl, hFx17_.1 5 (3 + cc_) 2 rfl, fr_arr (t := 55) (i := 0 + (3 + cc_)) hFx17_ rfl, fr_arr (t := 56) (i := 0 + (3 + cc_)) hFx17_ rfl, fr_arr (t := 57) (i := 0 + (3 + cc_)) hFx17_ rfl, fr_arr (t := 58) (i := 0 + (3 + cc_)) hFx17_ rfl, l133_.1 1, l133_.1 2, l133_.2.1, l133_.2.2.1, l133_.2.2.2.1, l133_.2.2.2.2]; exact z9_)
        have BB133_ : bcm dd_ F_ Sx15_ ∧ btn dd_ F_ Sx15_ = btn dd_ F_ S_ ∧ cnn F_ Sx15_ = cnn F_ S_ ∧ ccl dd_ Sx15_ = ccl dd_ S_ ∧ cch dd_ Sx15_ = cch dd_ S_ := by (have z9_ := bcm_fr hbc_ g128_; have y9_ := bcm_fr z9_.1 hFx17_; exact ⟨y9_.1, y9_.2.1.trans z9_.2.1, y9_.2.2.1.trans z9_.2.2.1, y9_.2.2.2.1.trans z9_.2.2.2.1, y9_.2.2.2.2.trans z9_.2.2.2.2⟩)
        have VV133_ : bvw ll_ Sx15_ := bvw_cg hvw_ (l133_.1 1) l133_.2.1 l133_.2.2.1 ((fr_arr hFx17_ rfl).trans (fr_arr g128_ rfl))
        have AL133_ : ball dd_ F_ ll_ Sx15_ := ball_cg hbc_ A9_ BB133_ ((fr_arr hFx17_ rfl).trans (fr_arr g128_ rfl)) ((fr_arr hFx17_ rfl).trans (fr_arr g128_ rfl)) ((fr_arr hFx17_ rfl).trans (fr_arr g128_ rfl)) ((fr_arr hFx17_ rfl).trans (fr_arr g128_ rfl)) ((fr_arr hFx17_ rfl).trans (fr_arr g128_ rfl)) l133_.2.1 l133_.2.2.2.1 (l133_.1 1) (l133_.1 2) ((fr_arr hFx17_ rfl).trans (fr_arr g128_ rfl)) ((fr_arr hFx17_ rfl).trans (fr_arr g128_ rfl)) ((fr_arr hFx17_ rfl).trans (fr_arr g128_ rfl)) ((fr_arr hFx17_ rfl).trans (fr_arr g128_ rfl)) (fun k_ => (hI_.2 55 (0 + ll_) k_).2)
        have SL133_ : slv dd_ Sx15_ = slv dd_ S_ := by (funext i_; unfold slv rtv; rw [(hFx17_.1 3 dd_ 3 rfl).trans (g128_.1 3 dd_ 3 rfl), (fr_arr (t := 44) (i := 0 + dd_) hFx17_ rfl).trans (fr_arr (t := 44) (i := 0 + dd_) g128_ rfl), (fr_arr (t := 45) (i := 0 + dd_) hFx17_ rfl).trans (fr_arr (t := 45) (i := 0 + dd_) g128_ rfl), (fr_arr (t := 46) (i := 0 + dd_) hFx17_ rfl).trans (fr_arr (t := 46) (i := 0 + dd_) g128_ rfl)])
        have IV133_ : Sx15_.1 5 ll_ 2 ≠ -1 ∨ ∀ i_ : Int, 0 ≤ i_ → i_ < S0_.1 3 dd_ 3 + S0_.1 3 dd_ 2 → slv dd_ Sx15_ i_ ≤ 1 ∨ slv dd_ Sx15_ i_ % 2 = 0 := by (rw [l133_.1 2, SL133_]; exact IVx_)
        have RT133_ : ∀ M_ : Nat → Int, rtq (cpn ll_ Sx15_) (cpv (F_ : Int) Sx15_) (cgc ll_ Sx15_) ((F_ : Int) - 1) (fun j_ => slv dd_ Sx15_ (j_ : Int)) (S0_.1 3 dd_ 3 + S0_.1 3 dd_ 2).toNat (M_, []) = rtq (cpn ll_ Sx5_) (cpv (1 + Sx5_.1 3 dd_ 1 + Sx5_.1 3 dd_ 2) Sx5_) (cgc ll_ Sx5_) (Sx5_.1 2 cc_ 1 + Sx5_.1 2 cc_ 2) (fun j_ => slv dd_ Sx5_ (j_ : Int)) (Sx5_.1 3 dd_ 3 + Sx5_.1 3 dd_ 2).toNat (M_, []) := fun M_ => by (have h3_ := g128_.1 3 dd_ 3 rfl; have h2_ := g128_.1 3 dd_ 2 rfl; have h1_ := g128_.1 3 dd_ 1 rfl; have y1_ : cpn ll_ Sx15_ = cpn ll_ Sx5_ := (by funext u_; unfold cpn; rw [fr_arr (t := 62) (i := 0) hFx17_ rfl, fr_arr (t := 55) (i := 0 + ll_) hFx17_ rfl]); have y2_ : cgc ll_ Sx15_ = cgc ll_ Sx5_ := (by funext u_; unfold cgc; rw [fr_arr (t := 62) (i := 0) hFx17_ rfl, hFx17_.1 5 ll_ 2 rfl]); have y3_ : cpv (F_ : Int) Sx15_ = cpv (1 + Sx5_.1 3 dd_ 1 + Sx5_.1 3 dd_ 2) Sx5_ := (by funext u_ k_; unfold cpv; rw [fr_arr (t := 60) (i := 0) hFx17_ rfl, fr_arr (t := 62) (i := 0) hFx17_ rfl, fr_arr (t := 63) (i := 0) hFx17_ rfl, fr_arr (t := 64) (i := 0) hFx17_ rfl, show (F_ : Int) = 1 + Sx5_.1 3 dd_ 1 + Sx5_.1 3 dd_ 2 by omega]); have y4_ : slv dd_ Sx15_ = slv dd_ Sx5_ := (by funext i_; unfold slv rtv; rw [hFx17_.1 3 dd_ 3 rfl, fr_arr (t := 44) (i := 0 + dd_) hFx17_ rfl, fr_arr (t := 45) (i := 0 + dd_) hFx17_ rfl, fr_arr (t := 46) (i := 0 + dd_) hFx17_ rfl]); rw [y1_, y2_, y3_, y4_, show (F_ : Int) - 1 = Sx5_.1 2 cc_ 1 + Sx5_.1 2 cc_ 2 by omega, show (S0_.1 3 dd_ 3 + S0_.1 3 dd_ 2).toNat = (Sx5_.1 3 dd_ 3 + Sx5_.1 3 dd_ 2).toNat by omega])
        have inm9f : inm (F_ : Int) M9_ := by (have h1_ := g128_.1 3 dd_ 1 rfl; have h2_ := g128_.1 3 dd_ 2 rfl; rw [show (F_ : Int) = 1 + Sx5_.1 3 dd_ 1 + Sx5_.1 3 dd_ 2 by omega]; exact inm9_)
        have c133_ : ∀ k_, Sx15_.2.2.1 55 (0 + ll_) k_ ≤ 3 := fun k_ => (hIx16_.2 55 (0 + ll_) k_).2
        have SY133_ : slv dd_ Sx15_ = slv dd_ Sx5_ := by (funext i_; unfold slv rtv; rw [hFx17_.1 3 dd_ 3 rfl, fr_arr (t := 44) (i := 0 + dd_) hFx17_ rfl, fr_arr (t := 45) (i := 0 + dd_) hFx17_ rfl, fr_arr (t := 46) (i := 0 + dd_) hFx17_ rfl])
        have Z133_ : ∀ g9_ : List (Int × List Int), (Sx15_.2.2.1 72 0, g9_) = rtq (cpn ll_ Sx5_) (cpv (1 + Sx5_.1 3 dd_ 1 + Sx5_.1 3 dd_ 2) Sx5_) (cgc ll_ Sx5_) (Sx5_.1 2 cc_ 1 + Sx5_.1 2 cc_ 2) (fun j_ => slv dd_ Sx5_ (j_ : Int)) (Sx5_.1 3 dd_ 3 + Sx5_.1 3 dd_ 2).toNat (M9_, []) → (Sx15_.2.2.1 72 0, g9_) = rtq (cpn ll_ Sx15_) (cpv (F_ : Int) Sx15_) (cgc ll_ Sx15_) ((F_ : Int) - 1) (fun j_ => slv dd_ Sx15_ (j_ : Int)) (S0_.1 3 dd_ 3 + S0_.1 3 dd_ 2).toNat (M9_, []) := fun g9_ h9_ => h9_.trans (RT133_ M9_).symm
        have N133_ : (∀ j_ : Nat, j_ < (Sx5_.1 3 dd_ 3 + Sx5_.1 3 dd_ 2).toNat → (if (j_ : Int) < Sx5_.1 3 dd_ 3 then Sx15_.2.2.1 37 (0 + cc_) j_ else Sx15_.2.2.1 38 (0 + cc_) (j_ - (Sx5_.1 3 dd_ 3).toNat)) = ntq (fun j_ => slv dd_ Sx5_ (j_ : Int)) (Sx15_.2.2.1 72 0) j_) → ∀ j_ : Nat, j_ < (S0_.1 3 dd_ 3 + S0_.1 3 dd_ 2).toNat → (if (j_ : Int) < S0_.1 3 dd_ 3 then Sx15_.2.2.1 37 (0 + cc_) j_ else Sx15_.2.2.1 38 (0 + cc_) (j_ - (S0_.1 3 dd_ 3).toNat)) = ntq (fun j_ => slv dd_ Sx15_ (j_ : Int)) (Sx15_.2.2.1 72 0) j_ := fun n9_ => by (have h3_ := g128_.1 3 dd_ 3 rfl; have h2_ := g128_.1 3 dd_ 2 rfl; rw [show Sx5_.1 3 dd_ 3 = S0_.1 3 dd_ 3 by omega, show Sx5_.1 3 dd_ 2 = S0_.1 3 dd_ 2 by omega] at n9_; rw [SY133_]; exact n9_)
        have d1_ := hFx17_.1 2 cc_ 1 rfl
        have d2_ := hFx17_.1 2 cc_ 2 rfl
        have d3_ := hFx17_.1 2 cc_ 3 rfl
        have d4_ := hFx17_.1 2 cc_ 4 rfl
        have d5_ := hFx17_.1 2 cc_ 5 rfl
        refine sm_T_b0 (a := 1) (z := 6) rfl (fun cx25_ => ?_) (fun cx25_ => ?_)
        · have cx25_ : vx20_ ≠ 0 := of_decide_eq_true cx25_
          refine sm_T_go 3 (c1 := (147, [some (.inr (.inr (some (6, 0)))), some (.inr (.inr (some (3, dd_)))), some (.inr (.inr (some (5, ll_)))), some (.inr (.inr (some (2, cc_)))), some (.inl n_)], [.inr (.inr (some (2, cc_))), .inr (.inr (some (0, (0 + cc_))))], Sx15_)) rfl ?_
          refine sm_T_cal (d1 := 2) (Q1 := vq_11 (0 + cc_) cc_ Sx15_) rfl rfl (by decide) (vc_11 (0 + cc_) cc_ Sx15_ hIx16_ (by omega)) (fun u_ Sx26_ px29_ => ?_)
          obtain ⟨rfl, hIx27_, hFx28_, px29_⟩ := px29_
          have hFx30_ : ai_fr (sx_W vw_91m) S0_ Sx26_ := ai_fr_tr hFx19_ (fr_le hFx28_ rfl)
          obtain ⟨dx32_, px29_⟩ := px29_
          have hCx31_ : cdf cc_ S0_ Sx26_ := cdf_tr hCx21_ (cdf_cg (by omega) dx32_)
          have tx33_ : Sx26_.2.1 6 0 1 = some ll_ := (hFx28_.2.1 6 0 1 rfl).trans tx23_
          have tx34_ : Sx26_.2.1 6 0 0 = some dd_ := (hFx28_.2.1 6 0 0 rfl).trans tx24_
          have s147_ := (hFx28_.1 2 cc_ 19 rfl).trans s133_
          have b147_ := px29_
          have L147_ : clc cc_ ll_ Sx26_ Sx26_ := by (have z9_ := L133_; unfold clc at z9_ ⊢; rw [hFx28_.1 5 (3 + cc_) 1 rfl, hFx28_.1 5 (3 + cc_) 2 rfl, hFx28_.1 5 ll_ 1 rfl, hFx28_.1 5 ll_ 2 rfl, fr_arr (t := 55) (i := 0 + (3 + cc_)) hFx28_ rfl, fr_arr (t := 56) (i := 0 + (3 + cc_)) hFx28_ rfl, fr_arr (t := 57) (i := 0 + (3 + cc_)) hFx28_ rfl, fr_arr (t := 58) (i := 0 + (3 + cc_)) hFx28_ rfl, fr_arr (t := 55) (i := 0 + ll_) hFx28_ rfl, fr_arr (t := 56) (i := 0 + ll_) hFx28_ rfl, fr_arr (t := 57) (i := 0 + ll_) hFx28_ rfl, fr_arr (t := 58) (i := 0 + ll_) hFx28_ rfl]; exact z9_)
          have F147_ := hFx28_
          have BB147_ := bcm_fr BB133_.1 hFx28_
          have VV147_ : bvw ll_ Sx26_ := bvw_cg VV133_ (hFx28_.1 5 ll_ 1 rfl) (fr_arr hFx28_ rfl) (fr_arr hFx28_ rfl) (fr_arr hFx28_ rfl)
          have AL147_ : ball dd_ F_ ll_ Sx26_ := ball_cg BB133_.1 AL133_ BB147_ (fr_arr hFx28_ rfl) (fr_arr hFx28_ rfl) (fr_arr hFx28_ rfl) (fr_arr hFx28_ rfl) (fr_arr hFx28_ rfl) (fr_arr hFx28_ rfl) (fr_arr hFx28_ rfl) (hFx28_.1 5 ll_ 1 rfl) (hFx28_.1 5 ll_ 2 rfl) (fr_arr hFx28_ rfl) (fr_arr hFx28_ rfl) (fr_arr hFx28_ rfl) (fr_arr hFx28_ rfl) c133_
          have SL147_ : slv dd_ Sx26_ = slv dd_ Sx15_ := by (funext i_; unfold slv rtv; rw [hFx28_.1 3 dd_ 3 rfl, fr_arr (t := 44) (i := 0 + dd_) hFx28_ rfl, fr_arr (t := 45) (i := 0 + dd_) hFx28_ rfl, fr_arr (t := 46) (i := 0 + dd_) hFx28_ rfl])
          have IV147_ : Sx26_.1 5 ll_ 2 ≠ -1 ∨ ∀ i_ : Int, 0 ≤ i_ → i_ < S0_.1 3 dd_ 3 + S0_.1 3 dd_ 2 → slv dd_ Sx26_ i_ ≤ 1 ∨ slv dd_ Sx26_ i_ % 2 = 0 := by (rw [hFx28_.1 5 ll_ 2 rfl, SL147_]; exact IV133_)
          have RT147_ : ∀ M_ : Nat → Int, rtq (cpn ll_ Sx26_) (cpv (F_ : Int) Sx26_) (cgc ll_ Sx26_) ((F_ : Int) - 1) (fun j_ => slv dd_ Sx26_ (j_ : Int)) (S0_.1 3 dd_ 3 + S0_.1 3 dd_ 2).toNat (M_, []) = rtq (cpn ll_ Sx15_) (cpv (F_ : Int) Sx15_) (cgc ll_ Sx15_) ((F_ : Int) - 1) (fun j_ => slv dd_ Sx15_ (j_ : Int)) (S0_.1 3 dd_ 3 + S0_.1 3 dd_ 2).toNat (M_, []) := fun M_ => by (have y1_ : cpn ll_ Sx26_ = cpn ll_ Sx15_ := (by funext u_; unfold cpn; rw [fr_arr (t := 62) (i := 0) hFx28_ rfl, fr_arr (t := 55) (i := 0 + ll_) hFx28_ rfl]); have y2_ : cgc ll_ Sx26_ = cgc ll_ Sx15_ := (by funext u_; unfold cgc; rw [fr_arr (t := 62) (i := 0) hFx28_ rfl, hFx28_.1 5 ll_ 2 rfl]); have y3_ : cpv (F_ : Int) Sx26_ = cpv (F_ : Int) Sx15_ := (by funext u_ k_; unfold cpv; rw [fr_arr (t := 60) (i := 0) hFx28_ rfl, fr_arr (t := 62) (i := 0) hFx28_ rfl, fr_arr (t := 63) (i := 0) hFx28_ rfl, fr_arr (t := 64) (i := 0) hFx28_ rfl]); rw [y1_, y2_, y3_, SL147_])
          have x1_ := hFx28_.1 2 cc_ 1 rfl
          have x2_ := hFx28_.1 2 cc_ 2 rfl
          have x3_ := hFx28_.1 2 cc_ 3 rfl
          have x4_ := hFx28_.1 2 cc_ 4 rfl
          have x5_ := hFx28_.1 2 cc_ 5 rfl
          refine sm_T_go 1 (c1 := (151, [some (.inr (.inr (some (6, 0)))), some (.inr (.inr (some (3, dd_)))), some (.inr (.inr (some (5, ll_)))), some (.inr (.inr (some (2, cc_)))), some (.inl n_)], [.inl 0], Sx26_)) rfl ?_
          refine sm_T_ri rfl ⟨_, _, rfl, _, rfl, hIx27_, hFx30_, ?_⟩
          refine ⟨hCx31_, ?_⟩
          obtain ⟨g9_, c9_, x9_, n9_⟩ := X133_.1 (by omega)
          refine ⟨⟨Or.inr s147_, fun _ => s147_⟩, Or.inl ⟨rfl, by omega, b147_⟩, fun _ => L147_, BB147_.1, VV147_, Or.inr ⟨by decide, AL147_, IV147_, M9_, inm9f, Or.inr ⟨rfl, g9_, cgz_fr c9_ F147_, ?_, fun j_ hj_ => ?_⟩⟩⟩
          · rw [RT147_ M9_, fr_arr (t := 72) (i := 0) F147_ rfl]; exact Z133_ g9_ x9_
          · rw [SL147_, fr_arr (t := 72) (i := 0) F147_ rfl, fr_arr (t := 37) (i := 0 + cc_) F147_ rfl, fr_arr (t := 38) (i := 0 + cc_) F147_ rfl]; exact N133_ n9_ j_ hj_
        · have cx25_ : ¬ (vx20_ ≠ 0) := of_decide_eq_false cx25_
          refine sm_T_go 1 (c1 := (141, [some (.inr (.inr (some (6, 0)))), some (.inr (.inr (some (3, dd_)))), some (.inr (.inr (some (5, ll_)))), some (.inr (.inr (some (2, cc_)))), some (.inl n_)], [.inl (-2)], Sx15_)) rfl ?_
          refine sm_T_ri rfl ⟨_, _, rfl, _, rfl, hIx16_, hFx19_, ?_⟩
          refine ⟨hCx21_, ?_⟩
          refine ⟨⟨Or.inr s133_, fun u9_ => absurd u9_ (by decide)⟩, Or.inr (Or.inr rfl), fun u9_ => absurd u9_ (by decide), BB133_.1, VV133_, Or.inr ⟨by decide, AL133_, IV133_, M9_, inm9f, Or.inl ⟨rfl, ?_⟩⟩⟩
          rw [RT133_ M9_]
          exact X133_.2 (by omega)
      · have cx4_ : ¬ ((S_.1 5 ll_ 2) ≠ (-1)) := of_decide_eq_false cx4_
        refine sm_T_go 1 (c1 := (111, [some (.inr (.inr (some (6, 0)))), some (.inr (.inr (some (3, dd_)))), some (.inr (.inr (some (5, ll_)))), some (.inr (.inr (some (2, cc_)))), some (.inl n_)], [.inr (.inr (some (6, 0)))], S_)) rfl ?_
        refine sm_T_cal (d1 := 1) (Q1 := vq_96n dd_ S_) rfl rfl (by decide) (vc_96n dd_ S_ hI_ (by exact htk_) (by exact drt_fr hr_ hF_ rfl rfl rfl rfl rfl)) (fun u_ Sx35_ px38_ => ?_)
        obtain ⟨rfl, vx40_, rfl, px38_⟩ := px38_
        have w111_ := (px38_).2.1
        have i111_ := (px38_).2.2
        refine sm_T_b0 (a := 0) (z := 5) rfl (fun cx41_ => ?_) (fun cx41_ => ?_)
        · have cx41_ : vx40_ = 0 := of_decide_eq_true cx41_
          have R9_ : rgt dd_ ll_ S_ := rgt_of (dgr_fr hg_ hF_ rfl rfl rfl rfl rfl) (drt_fr hr_ hF_ rfl rfl rfl rfl rfl) (swp_fr hs_ hF_ rfl rfl rfl rfl) hk_ (by omega) hrr_ (by rw [f1_, f2_]; exact W9_) (Or.inr (w111_ (by omega)))
          have IVx_ : S_.1 5 ll_ 2 ≠ -1 ∨ ∀ i_ : Int, 0 ≤ i_ → i_ < S0_.1 3 dd_ 3 + S0_.1 3 dd_ 2 → slv dd_ S_ i_ ≤ 1 ∨ slv dd_ S_ i_ % 2 = 0 := Or.inr (by (rw [← f3_, ← f2_]; exact w111_ (by omega)))
          refine sm_T_go 2 (c1 := (121, [some (.inr (.inr (some (6, 0)))), some (.inr (.inr (some (3, dd_)))), some (.inr (.inr (some (5, ll_)))), some (.inr (.inr (some (2, cc_)))), some (.inl n_)], [.inr (.inr (some (6, 0))), .inr (.inr (some (2, cc_)))], S_)) rfl ?_
          refine sm_T_gr rfl rfl htk_ ?_
          refine sm_T_go 1 (c1 := (125, [some (.inr (.inr (some (6, 0)))), some (.inr (.inr (some (3, dd_)))), some (.inr (.inr (some (5, ll_)))), some (.inr (.inr (some (2, cc_)))), some (.inl n_)], [.inr (.inr (some (6, 0))), .inr (.inr (some (3, dd_))), .inr (.inr (some (2, cc_)))], S_)) rfl ?_
          refine sm_T_gr rfl rfl htk2_ ?_
          refine sm_T_cal (d1 := 1) (Q1 := vq_53m cc_ dd_ ll_ S_) rfl rfl (by decide) (vc_53m cc_ dd_ ll_ S_ hI_ (by exact dOk_fr hok_ hF_ (by decide) (by decide)) (by (first | (rw [h19_]; exact hls_) | omega))) (fun u_ Sx42_ px45_ => ?_)
          obtain ⟨rfl, hIx43_, hFx44_, px45_⟩ := px45_
          have hFx46_ : ai_fr (sx_W vw_91m) S0_ Sx42_ := ai_fr_tr hF_ (fr_le hFx44_ rfl)
          obtain ⟨dx48_, px45_⟩ := px45_
          have hCx47_ : cdf cc_ S0_ Sx42_ := cdf_tr hC_ (cdf_cg (by omega) dx48_)
          have tx49_ : Sx42_.2.1 6 0 1 = some ll_ := (hFx44_.2.1 6 0 1 rfl).trans htk2_
          have tx50_ : Sx42_.2.1 6 0 0 = some dd_ := (hFx44_.2.1 6 0 0 rfl).trans htk_
          have ex51_ : Sx42_.1 3 dd_ 4 = S_.1 3 dd_ 4 := hFx44_.1 3 dd_ 4 rfl
          have c128_ := (px45_).1
          have L128_ := (px45_).2.1
          have s128_ : Sx42_.1 2 cc_ 19 = S0_.1 2 cc_ 19 + 1 := by (have z9_ := (px45_).2.2; rw [z9_]; first | rw [h19_] | omega)
          have g128_ := hFx44_
          refine sm_T_go 2 (c1 := (133, [some (.inr (.inr (some (6, 0)))), some (.inr (.inr (some (3, dd_)))), some (.inr (.inr (some (5, ll_)))), some (.inr (.inr (some (2, cc_)))), some (.inl n_)], [.inr (.inr (some (2, cc_))), .inr (.inr (some (6, 0)))], Sx42_)) rfl ?_
          refine sm_T_cal (d1 := 5) (Q1 := vq_109n dd_ ll_ cc_ Sx42_) rfl rfl (by decide) (vc_109n dd_ ll_ cc_ Sx42_ hIx43_ (by omega) (by exact tx50_) (by exact tx49_) (by (rw [g128_.1 3 dd_ 1 rfl, g128_.1 3 dd_ 2 rfl, g128_.1 3 dd_ 4 rfl, f1_, f2_]; exact wal_cd W9_ g128_ hC_ hCx47_ hl_)) (by omega) (by exact drt_fr hr_ hFx46_ rfl rfl rfl rfl rfl) (by (rw [g128_.1 3 dd_ 1 rfl, g128_.1 3 dd_ 2 rfl]; omega)) (by exact rgt_cd R9_ g128_ hC_ hCx47_ hl_)) (fun u_ Sx52_ px55_ => ?_)
          obtain ⟨vx57_, rfl, hIx53_, hFx54_, px55_⟩ := px55_
          have hFx56_ : ai_fr (sx_W vw_91m) S0_ Sx52_ := ai_fr_tr hFx46_ (fr_le hFx54_ rfl)
          obtain ⟨dx59_, px55_⟩ := px55_
          have hCx58_ : cdf cc_ S0_ Sx52_ := cdf_tr hCx47_ (cdf_cg (by omega) dx59_)
          have tx60_ : Sx52_.2.1 6 0 1 = some ll_ := (hFx54_.2.1 6 0 1 rfl).trans tx49_
          have tx61_ : Sx52_.2.1 6 0 0 = some dd_ := (hFx54_.2.1 6 0 0 rfl).trans tx50_
          have s133_ := (hFx54_.1 2 cc_ 19 rfl).trans s128_
          have v133_ := (px55_).1
          obtain ⟨M9_, inm9_, X133_⟩ := (px55_).2
          have l133_ := cdf_l hC_ hCx58_ hl_
          have L133_ : clc cc_ ll_ Sx52_ Sx52_ := by (have z9_ := L128_; unfold clc at z9_ ⊢; rw [hFx54_.1 5 (3 + cc_) 1 rfl, hFx54_.1 5 (3 + cc_) 2 rfl, fr_arr (t := 55) (i := 0 + (3 + cc_)) hFx54_ rfl, fr_arr (t := 56) (i := 0 + (3 + cc_)) hFx54_ rfl, fr_arr (t := 57) (i := 0 + (3 + cc_)) hFx54_ rfl, fr_arr (t := 58) (i := 0 + (3 + cc_)) hFx54_ rfl, l133_.1 1, l133_.1 2, l133_.2.1, l133_.2.2.1, l133_.2.2.2.1, l133_.2.2.2.2]; exact z9_)
          have BB133_ : bcm dd_ F_ Sx52_ ∧ btn dd_ F_ Sx52_ = btn dd_ F_ S_ ∧ cnn F_ Sx52_ = cnn F_ S_ ∧ ccl dd_ Sx52_ = ccl dd_ S_ ∧ cch dd_ Sx52_ = cch dd_ S_ := by (have z9_ := bcm_fr hbc_ g128_; have y9_ := bcm_fr z9_.1 hFx54_; exact ⟨y9_.1, y9_.2.1.trans z9_.2.1, y9_.2.2.1.trans z9_.2.2.1, y9_.2.2.2.1.trans z9_.2.2.2.1, y9_.2.2.2.2.trans z9_.2.2.2.2⟩)
          have VV133_ : bvw ll_ Sx52_ := bvw_cg hvw_ (l133_.1 1) l133_.2.1 l133_.2.2.1 ((fr_arr hFx54_ rfl).trans (fr_arr g128_ rfl))
          have AL133_ : ball dd_ F_ ll_ Sx52_ := ball_cg hbc_ A9_ BB133_ ((fr_arr hFx54_ rfl).trans (fr_arr g128_ rfl)) ((fr_arr hFx54_ rfl).trans (fr_arr g128_ rfl)) ((fr_arr hFx54_ rfl).trans (fr_arr g128_ rfl)) ((fr_arr hFx54_ rfl).trans (fr_arr g128_ rfl)) ((fr_arr hFx54_ rfl).trans (fr_arr g128_ rfl)) l133_.2.1 l133_.2.2.2.1 (l133_.1 1) (l133_.1 2) ((fr_arr hFx54_ rfl).trans (fr_arr g128_ rfl)) ((fr_arr hFx54_ rfl).trans (fr_arr g128_ rfl)) ((fr_arr hFx54_ rfl).trans (fr_arr g128_ rfl)) ((fr_arr hFx54_ rfl).trans (fr_arr g128_ rfl)) (fun k_ => (hI_.2 55 (0 + ll_) k_).2)
          have SL133_ : slv dd_ Sx52_ = slv dd_ S_ := by (funext i_; unfold slv rtv; rw [(hFx54_.1 3 dd_ 3 rfl).trans (g128_.1 3 dd_ 3 rfl), (fr_arr (t := 44) (i := 0 + dd_) hFx54_ rfl).trans (fr_arr (t := 44) (i := 0 + dd_) g128_ rfl), (fr_arr (t := 45) (i := 0 + dd_) hFx54_ rfl).trans (fr_arr (t := 45) (i := 0 + dd_) g128_ rfl), (fr_arr (t := 46) (i := 0 + dd_) hFx54_ rfl).trans (fr_arr (t := 46) (i := 0 + dd_) g128_ rfl)])
          have IV133_ : Sx52_.1 5 ll_ 2 ≠ -1 ∨ ∀ i_ : Int, 0 ≤ i_ → i_ < S0_.1 3 dd_ 3 + S0_.1 3 dd_ 2 → slv dd_ Sx52_ i_ ≤ 1 ∨ slv dd_ Sx52_ i_ % 2 = 0 := by (rw [l133_.1 2, SL133_]; exact IVx_)
          have RT133_ : ∀ M_ : Nat → Int, rtq (cpn ll_ Sx52_) (cpv (F_ : Int) Sx52_) (cgc ll_ Sx52_) ((F_ : Int) - 1) (fun j_ => slv dd_ Sx52_ (j_ : Int)) (S0_.1 3 dd_ 3 + S0_.1 3 dd_ 2).toNat (M_, []) = rtq (cpn ll_ Sx42_) (cpv (1 + Sx42_.1 3 dd_ 1 + Sx42_.1 3 dd_ 2) Sx42_) (cgc ll_ Sx42_) (Sx42_.1 2 cc_ 1 + Sx42_.1 2 cc_ 2) (fun j_ => slv dd_ Sx42_ (j_ : Int)) (Sx42_.1 3 dd_ 3 + Sx42_.1 3 dd_ 2).toNat (M_, []) := fun M_ => by (have h3_ := g128_.1 3 dd_ 3 rfl; have h2_ := g128_.1 3 dd_ 2 rfl; have h1_ := g128_.1 3 dd_ 1 rfl; have y1_ : cpn ll_ Sx52_ = cpn ll_ Sx42_ := (by funext u_; unfold cpn; rw [fr_arr (t := 62) (i := 0) hFx54_ rfl, fr_arr (t := 55) (i := 0 + ll_) hFx54_ rfl]); have y2_ : cgc ll_ Sx52_ = cgc ll_ Sx42_ := (by funext u_; unfold cgc; rw [fr_arr (t := 62) (i := 0) hFx54_ rfl, hFx54_.1 5 ll_ 2 rfl]); have y3_ : cpv (F_ : Int) Sx52_ = cpv (1 + Sx42_.1 3 dd_ 1 + Sx42_.1 3 dd_ 2) Sx42_ := (by funext u_ k_; unfold cpv; rw [fr_arr (t := 60) (i := 0) hFx54_ rfl, fr_arr (t := 62) (i := 0) hFx54_ rfl, fr_arr (t := 63) (i := 0) hFx54_ rfl, fr_arr (t := 64) (i := 0) hFx54_ rfl, show (F_ : Int) = 1 + Sx42_.1 3 dd_ 1 + Sx42_.1 3 dd_ 2 by omega]); have y4_ : slv dd_ Sx52_ = slv dd_ Sx42_ := (by funext i_; unfold slv rtv; rw [hFx54_.1 3 dd_ 3 rfl, fr_arr (t := 44) (i := 0 + dd_) hFx54_ rfl, fr_arr (t := 45) (i := 0 + dd_) hFx54_ rfl, fr_arr (t := 46) (i := 0 + dd_) hFx54_ rfl]); rw [y1_, y2_, y3_, y4_, show (F_ : Int) - 1 = Sx42_.1 2 cc_ 1 + Sx42_.1 2 cc_ 2 by omega, show (S0_.1 3 dd_ 3 + S0_.1 3 dd_ 2).toNat = (Sx42_.1 3 dd_ 3 + Sx42_.1 3 dd_ 2).toNat by omega])
          have inm9f : inm (F_ : Int) M9_ := by (have h1_ := g128_.1 3 dd_ 1 rfl; have h2_ := g128_.1 3 dd_ 2 rfl; rw [show (F_ : Int) = 1 + Sx42_.1 3 dd_ 1 + Sx42_.1 3 dd_ 2 by omega]; exact inm9_)
          have c133_ : ∀ k_, Sx52_.2.2.1 55 (0 + ll_) k_ ≤ 3 := fun k_ => (hIx53_.2 55 (0 + ll_) k_).2
          have SY133_ : slv dd_ Sx52_ = slv dd_ Sx42_ := by (funext i_; unfold slv rtv; rw [hFx54_.1 3 dd_ 3 rfl, fr_arr (t := 44) (i := 0 + dd_) hFx54_ rfl, fr_arr (t := 45) (i := 0 + dd_) hFx54_ rfl, fr_arr (t := 46) (i := 0 + dd_) hFx54_ rfl])
          have Z133_ : ∀ g9_ : List (Int × List Int), (Sx52_.2.2.1 72 0, g9_) = rtq (cpn ll_ Sx42_) (cpv (1 + Sx42_.1 3 dd_ 1 + Sx42_.1 3 dd_ 2) Sx42_) (cgc ll_ Sx42_) (Sx42_.1 2 cc_ 1 + Sx42_.1 2 cc_ 2) (fun j_ => slv dd_ Sx42_ (j_ : Int)) (Sx42_.1 3 dd_ 3 + Sx42_.1 3 dd_ 2).toNat (M9_, []) → (Sx52_.2.2.1 72 0, g9_) = rtq (cpn ll_ Sx52_) (cpv (F_ : Int) Sx52_) (cgc ll_ Sx52_) ((F_ : Int) - 1) (fun j_ => slv dd_ Sx52_ (j_ : Int)) (S0_.1 3 dd_ 3 + S0_.1 3 dd_ 2).toNat (M9_, []) := fun g9_ h9_ => h9_.trans (RT133_ M9_).symm
          have N133_ : (∀ j_ : Nat, j_ < (Sx42_.1 3 dd_ 3 + Sx42_.1 3 dd_ 2).toNat → (if (j_ : Int) < Sx42_.1 3 dd_ 3 then Sx52_.2.2.1 37 (0 + cc_) j_ else Sx52_.2.2.1 38 (0 + cc_) (j_ - (Sx42_.1 3 dd_ 3).toNat)) = ntq (fun j_ => slv dd_ Sx42_ (j_ : Int)) (Sx52_.2.2.1 72 0) j_) → ∀ j_ : Nat, j_ < (S0_.1 3 dd_ 3 + S0_.1 3 dd_ 2).toNat → (if (j_ : Int) < S0_.1 3 dd_ 3 then Sx52_.2.2.1 37 (0 + cc_) j_ else Sx52_.2.2.1 38 (0 + cc_) (j_ - (S0_.1 3 dd_ 3).toNat)) = ntq (fun j_ => slv dd_ Sx52_ (j_ : Int)) (Sx52_.2.2.1 72 0) j_ := fun n9_ => by (have h3_ := g128_.1 3 dd_ 3 rfl; have h2_ := g128_.1 3 dd_ 2 rfl; rw [show Sx42_.1 3 dd_ 3 = S0_.1 3 dd_ 3 by omega, show Sx42_.1 3 dd_ 2 = S0_.1 3 dd_ 2 by omega] at n9_; rw [SY133_]; exact n9_)
          have d1_ := hFx54_.1 2 cc_ 1 rfl
          have d2_ := hFx54_.1 2 cc_ 2 rfl
          have d3_ := hFx54_.1 2 cc_ 3 rfl
          have d4_ := hFx54_.1 2 cc_ 4 rfl
          have d5_ := hFx54_.1 2 cc_ 5 rfl
          refine sm_T_b0 (a := 1) (z := 6) rfl (fun cx62_ => ?_) (fun cx62_ => ?_)
          · have cx62_ : vx57_ ≠ 0 := of_decide_eq_true cx62_
            refine sm_T_go 3 (c1 := (147, [some (.inr (.inr (some (6, 0)))), some (.inr (.inr (some (3, dd_)))), some (.inr (.inr (some (5, ll_)))), some (.inr (.inr (some (2, cc_)))), some (.inl n_)], [.inr (.inr (some (2, cc_))), .inr (.inr (some (0, (0 + cc_))))], Sx52_)) rfl ?_
            refine sm_T_cal (d1 := 2) (Q1 := vq_11 (0 + cc_) cc_ Sx52_) rfl rfl (by decide) (vc_11 (0 + cc_) cc_ Sx52_ hIx53_ (by omega)) (fun u_ Sx63_ px66_ => ?_)
            obtain ⟨rfl, hIx64_, hFx65_, px66_⟩ := px66_
            have hFx67_ : ai_fr (sx_W vw_91m) S0_ Sx63_ := ai_fr_tr hFx56_ (fr_le hFx65_ rfl)
            obtain ⟨dx69_, px66_⟩ := px66_
            have hCx68_ : cdf cc_ S0_ Sx63_ := cdf_tr hCx58_ (cdf_cg (by omega) dx69_)
            have tx70_ : Sx63_.2.1 6 0 1 = some ll_ := (hFx65_.2.1 6 0 1 rfl).trans tx60_
            have tx71_ : Sx63_.2.1 6 0 0 = some dd_ := (hFx65_.2.1 6 0 0 rfl).trans tx61_
            have s147_ := (hFx65_.1 2 cc_ 19 rfl).trans s133_
            have b147_ := px66_
            have L147_ : clc cc_ ll_ Sx63_ Sx63_ := by (have z9_ := L133_; unfold clc at z9_ ⊢; rw [hFx65_.1 5 (3 + cc_) 1 rfl, hFx65_.1 5 (3 + cc_) 2 rfl, hFx65_.1 5 ll_ 1 rfl, hFx65_.1 5 ll_ 2 rfl, fr_arr (t := 55) (i := 0 + (3 + cc_)) hFx65_ rfl, fr_arr (t := 56) (i := 0 + (3 + cc_)) hFx65_ rfl, fr_arr (t := 57) (i := 0 + (3 + cc_)) hFx65_ rfl, fr_arr (t := 58) (i := 0 + (3 + cc_)) hFx65_ rfl, fr_arr (t := 55) (i := 0 + ll_) hFx65_ rfl, fr_arr (t := 56) (i := 0 + ll_) hFx65_ rfl, fr_arr (t := 57) (i := 0 + ll_) hFx65_ rfl, fr_arr (t := 58) (i := 0 + ll_) hFx65_ rfl]; exact z9_)
            have F147_ := hFx65_
            have BB147_ := bcm_fr BB133_.1 hFx65_
            have VV147_ : bvw ll_ Sx63_ := bvw_cg VV133_ (hFx65_.1 5 ll_ 1 rfl) (fr_arr hFx65_ rfl) (fr_arr hFx65_ rfl) (fr_arr hFx65_ rfl)
            have AL147_ : ball dd_ F_ ll_ Sx63_ := ball_cg BB133_.1 AL133_ BB147_ (fr_arr hFx65_ rfl) (fr_arr hFx65_ rfl) (fr_arr hFx65_ rfl) (fr_arr hFx65_ rfl) (fr_arr hFx65_ rfl) (fr_arr hFx65_ rfl) (fr_arr hFx65_ rfl) (hFx65_.1 5 ll_ 1 rfl) (hFx65_.1 5 ll_ 2 rfl) (fr_arr hFx65_ rfl) (fr_arr hFx65_ rfl) (fr_arr hFx65_ rfl) (fr_arr hFx65_ rfl) c133_
            have SL147_ : slv dd_ Sx63_ = slv dd_ Sx52_ := by (funext i_; unfold slv rtv; rw [hFx65_.1 3 dd_ 3 rfl, fr_arr (t := 44) (i := 0 + dd_) hFx65_ rfl, fr_arr (t := 45) (i := 0 + dd_) hFx65_ rfl, fr_arr (t := 46) (i := 0 + dd_) hFx65_ rfl])
            have IV147_ : Sx63_.1 5 ll_ 2 ≠ -1 ∨ ∀ i_ : Int, 0 ≤ i_ → i_ < S0_.1 3 dd_ 3 + S0_.1 3 dd_ 2 → slv dd_ Sx63_ i_ ≤ 1 ∨ slv dd_ Sx63_ i_ % 2 = 0 := by (rw [hFx65_.1 5 ll_ 2 rfl, SL147_]; exact IV133_)
            have RT147_ : ∀ M_ : Nat → Int, rtq (cpn ll_ Sx63_) (cpv (F_ : Int) Sx63_) (cgc ll_ Sx63_) ((F_ : Int) - 1) (fun j_ => slv dd_ Sx63_ (j_ : Int)) (S0_.1 3 dd_ 3 + S0_.1 3 dd_ 2).toNat (M_, []) = rtq (cpn ll_ Sx52_) (cpv (F_ : Int) Sx52_) (cgc ll_ Sx52_) ((F_ : Int) - 1) (fun j_ => slv dd_ Sx52_ (j_ : Int)) (S0_.1 3 dd_ 3 + S0_.1 3 dd_ 2).toNat (M_, []) := fun M_ => by (have y1_ : cpn ll_ Sx63_ = cpn ll_ Sx52_ := (by funext u_; unfold cpn; rw [fr_arr (t := 62) (i := 0) hFx65_ rfl, fr_arr (t := 55) (i := 0 + ll_) hFx65_ rfl]); have y2_ : cgc ll_ Sx63_ = cgc ll_ Sx52_ := (by funext u_; unfold cgc; rw [fr_arr (t := 62) (i := 0) hFx65_ rfl, hFx65_.1 5 ll_ 2 rfl]); have y3_ : cpv (F_ : Int) Sx63_ = cpv (F_ : Int) Sx52_ := (by funext u_ k_; unfold cpv; rw [fr_arr (t := 60) (i := 0) hFx65_ rfl, fr_arr (t := 62) (i := 0) hFx65_ rfl, fr_arr (t := 63) (i := 0) hFx65_ rfl, fr_arr (t := 64) (i := 0) hFx65_ rfl]); rw [y1_, y2_, y3_, SL147_])
            have x1_ := hFx65_.1 2 cc_ 1 rfl
            have x2_ := hFx65_.1 2 cc_ 2 rfl
            have x3_ := hFx65_.1 2 cc_ 3 rfl
            have x4_ := hFx65_.1 2 cc_ 4 rfl
            have x5_ := hFx65_.1 2 cc_ 5 rfl
            refine sm_T_go 1 (c1 := (151, [some (.inr (.inr (some (6, 0)))), some (.inr (.inr (some (3, dd_)))), some (.inr (.inr (some (5, ll_)))), some (.inr (.inr (some (2, cc_)))), some (.inl n_)], [.inl 0], Sx63_)) rfl ?_
            refine sm_T_ri rfl ⟨_, _, rfl, _, rfl, hIx64_, hFx67_, ?_⟩
            refine ⟨hCx68_, ?_⟩
            obtain ⟨g9_, c9_, x9_, n9_⟩ := X133_.1 (by omega)
            refine ⟨⟨Or.inr s147_, fun _ => s147_⟩, Or.inl ⟨rfl, by omega, b147_⟩, fun _ => L147_, BB147_.1, VV147_, Or.inr ⟨by decide, AL147_, IV147_, M9_, inm9f, Or.inr ⟨rfl, g9_, cgz_fr c9_ F147_, ?_, fun j_ hj_ => ?_⟩⟩⟩
            · rw [RT147_ M9_, fr_arr (t := 72) (i := 0) F147_ rfl]; exact Z133_ g9_ x9_
            · rw [SL147_, fr_arr (t := 72) (i := 0) F147_ rfl, fr_arr (t := 37) (i := 0 + cc_) F147_ rfl, fr_arr (t := 38) (i := 0 + cc_) F147_ rfl]; exact N133_ n9_ j_ hj_
          · have cx62_ : ¬ (vx57_ ≠ 0) := of_decide_eq_false cx62_
            refine sm_T_go 1 (c1 := (141, [some (.inr (.inr (some (6, 0)))), some (.inr (.inr (some (3, dd_)))), some (.inr (.inr (some (5, ll_)))), some (.inr (.inr (some (2, cc_)))), some (.inl n_)], [.inl (-2)], Sx52_)) rfl ?_
            refine sm_T_ri rfl ⟨_, _, rfl, _, rfl, hIx53_, hFx56_, ?_⟩
            refine ⟨hCx58_, ?_⟩
            refine ⟨⟨Or.inr s133_, fun u9_ => absurd u9_ (by decide)⟩, Or.inr (Or.inr rfl), fun u9_ => absurd u9_ (by decide), BB133_.1, VV133_, Or.inr ⟨by decide, AL133_, IV133_, M9_, inm9f, Or.inl ⟨rfl, ?_⟩⟩⟩
            rw [RT133_ M9_]
            exact X133_.2 (by omega)
        · have cx41_ : ¬ (vx40_ = 0) := of_decide_eq_false cx41_
          refine sm_T_go 1 (c1 := (118, [some (.inr (.inr (some (6, 0)))), some (.inr (.inr (some (3, dd_)))), some (.inr (.inr (some (5, ll_)))), some (.inr (.inr (some (2, cc_)))), some (.inl n_)], [.inl (-1)], S_)) rfl ?_
          refine sm_T_ri rfl ⟨_, _, rfl, _, rfl, hI_, hF_, ?_⟩
          refine ⟨hC_, ?_⟩
          refine ⟨⟨Or.inl h19_, fun u9_ => absurd u9_ (by decide)⟩, Or.inr (Or.inl rfl), fun u9_ => absurd u9_ (by decide), hbc_, hvw_, Or.inl ⟨rfl, Or.inr ⟨A9_, by omega, ?_⟩⟩⟩
          have z9_ := i111_ (by omega)
          rw [← f3_, ← f2_]
          exact z9_
    · have cx2_ : ¬ ((S_.1 3 dd_ 4) ≤ n_) := of_decide_eq_false cx2_
      refine sm_T_go 3 (c1 := (57, [some (.inr (.inr (some (6, 0)))), some (.inr (.inr (some (3, dd_)))), some (.inr (.inr (some (5, ll_)))), some (.inr (.inr (some (2, cc_)))), some (.inl n_)], [.inl n_, .inr (.inr (some (59, 0)))], S_)) rfl ?_
      refine sm_T_iald (n := 1013) rfl rfl (by omega) (by omega) ?_
      have bx72_ : 0 ≤ S_.2.2.1 59 0 n_.toNat ∧ S_.2.2.1 59 0 n_.toNat ≤ 1 := hI_.2 59 0 _
      refine sm_T_b0 (a := 0) (z := 35) rfl (fun cx73_ => ?_) (fun cx73_ => ?_)
      · have cx73_ : (S_.2.2.1 59 0 n_.toNat) = 0 := of_decide_eq_true cx73_
        refine sm_T_inc (a := 4) (z := 1) (v := n_) (w := n_ + 1) rfl rfl (by omega) (by omega) (by omega) ?_ -- pc_ 93
        refine sm_T_go 1 (c1 := (39, [some (.inr (.inr (some (6, 0)))), some (.inr (.inr (some (3, dd_)))), some (.inr (.inr (some (5, ll_)))), some (.inr (.inr (some (2, cc_)))), some (.inl (n_ + 1))], [], S_)) rfl ?_
        refine ih_ (n_ + 1) S_ hI_ hF_ ⟨?_, ?_, ?_, ?_, ?_, ?_, ?_, ?_, ?_, ?_, ?_, trivial⟩ ?_
        · omega
        · exact htk_
        · exact htk2_
        · first | exact hk_ | exact m64_
        · first | exact hrr_ | exact r64_
        · first | exact wal_z hwl_ (by omega) (by omega) | exact w64_ (Or.inl (by omega)) | exact w64_ (Or.inr (by omega)) | exact w64_ (Or.inr (by rw [← t64_]; omega))
        · first | exact s64_.trans h19_ | exact h19_
        · first | (have y8_ := B64_; exact B64_.1) | exact hbc_
        · first | (have y8_ := V64_; exact V64_) | exact hvw_
        · first | (have y8_ := C64_; intro x_ hx_ u_; rw [B64_.2.1] at hx_ ⊢; by_cases z9_ : (x_ : Int) < n_; exact D64_ x_ hx_ z9_; (rw [show x_ = n_.toNat by omega]; exact ⟨C64_, fun y9_ => by first | (exfalso; omega) | omega | (rw [← t64_]; omega)⟩)) | (intro x_ hx_ u_; by_cases z9_ : (x_ : Int) < n_; exact hcn_ x_ hx_ z9_; (exfalso; have y9_ := hx_.2.2; rw [show x_ = n_.toNat by omega] at y9_; omega))
        · exact hC_
        · omega
      · have cx73_ : ¬ ((S_.2.2.1 59 0 n_.toNat) = 0) := of_decide_eq_false cx73_
        have T9_ : btn dd_ F_ S_ n_.toNat := ⟨by omega, by omega, by (rcases (hbc_.1 n_.toNat (by omega)).1 with z9_ | z9_; (exfalso; omega); exact z9_)⟩
        have TR9_ := hbc_.2.2 n_.toNat T9_
        refine sm_T_go 2 (c1 := (64, [some (.inr (.inr (some (6, 0)))), some (.inr (.inr (some (3, dd_)))), some (.inr (.inr (some (5, ll_)))), some (.inr (.inr (some (2, cc_)))), some (.inl n_)], [.inl n_, .inr (.inr (some (6, 0)))], S_)) rfl ?_
        refine sm_T_cal (d1 := 4) (Q1 := vq_99n n_ dd_ F_ ll_ (btn dd_ F_ S_) S_) rfl rfl (by decide) (vc_99n n_ dd_ F_ ll_ (btn dd_ F_ S_) S_ hI_ (by exact htk_) (by exact htk2_) (by exact dgr_fr hg_ hF_ rfl rfl rfl rfl rfl) (by exact swp_fr hs_ hF_ rfl rfl rfl rfl) (by exact hk_) (by omega) (by omega) (by exact TR9_.1) (by (intro m9_; exact Nat.le_trans (TR9_.2 m9_) (by decide)))) (fun u_ Sx74_ px77_ => ?_)
        obtain ⟨rfl, hIx75_, hFx76_, px77_⟩ := px77_
        have hFx78_ : ai_fr (sx_W vw_91m) S0_ Sx74_ := ai_fr_tr hF_ (fr_le hFx76_ rfl)
        have hCx79_ : cdf cc_ S0_ Sx74_ := cdf_tr hC_ (cdf_fr hFx76_ rfl)
        have tx80_ : Sx74_.2.1 6 0 1 = some ll_ := (hFx76_.2.1 6 0 1 rfl).trans htk2_
        have tx81_ : Sx74_.2.1 6 0 0 = some dd_ := (hFx76_.2.1 6 0 0 rfl).trans htk_
        have ex82_ : Sx74_.1 3 dd_ 4 = S_.1 3 dd_ 4 := hFx76_.1 3 dd_ 4 rfl
        have s64_ := hFx76_.1 2 cc_ 19 rfl
        have p64_ := (px77_).1
        rw [f1_, f2_] at p64_
        have B64_ := bcm_fr hbc_ hFx76_
        have V64_ : bvw ll_ Sx74_ := bvw_cg hvw_ (hFx76_.1 5 ll_ 1 rfl) (fr_arr hFx76_ rfl) (fr_arr hFx76_ rfl) (fr_arr hFx76_ rfl)
        have W64_ := p64_.2.2
        have C64_ : cnw dd_ F_ ll_ (btn dd_ F_ S_) Sx74_ n_.toNat := by (have x9_ := (px77_).2; rw [show (2 * n_).toNat = 2 * n_.toNat by omega, show (2 * n_ + 1).toNat = 2 * n_.toNat + 1 by omega] at x9_; exact cnw_nw TR9_.1 (by omega) x9_ (fr_arr hFx76_ rfl) (fr_arr hFx76_ rfl) (fr_arr hFx76_ rfl) (fr_arr hFx76_ rfl) (fr_arr hFx76_ rfl) (fr_arr hFx76_ rfl) (fr_arr hFx76_ rfl) (hFx76_.1 5 ll_ 1 rfl) (hFx76_.1 5 ll_ 2 rfl) (fun j_ hj_ => (W64_.1 j_ (by omega) (by omega)).1))
        have D64_ : ∀ x_ : Nat, btn dd_ F_ S_ x_ → (x_ : Int) < n_ → cnw dd_ F_ ll_ (btn dd_ F_ S_) Sx74_ x_ ∧ (Sx74_.2.2.1 60 0 x_ ≠ 0 → Sx74_.2.2.1 61 0 (2 * x_) < 268435456) := fun x_ hx_ hl9_ => by (have z9_ := hcn_ x_ hx_ hl9_; refine ⟨cnw_cg (hbc_.2.2 x_ hx_).1 z9_.1 (fr_arr hFx76_ rfl) (fr_arr hFx76_ rfl) (fr_arr hFx76_ rfl) (fr_arr hFx76_ rfl) (fr_arr hFx76_ rfl) (fr_arr hFx76_ rfl) (fr_arr hFx76_ rfl) (hFx76_.1 5 ll_ 1 rfl) (hFx76_.1 5 ll_ 2 rfl) (fun j_ hj_ => (W64_.1 j_ (by omega) (by omega)).1) (fun j_ h1_ h2_ => ⟨(W64_.1 j_ (by omega) (by omega)).2.1, (W64_.1 j_ (by omega) (by omega)).2.2⟩) (fun j_ h1_ h2_ => W64_.2 j_ (by omega)) (fun k_ => (hI_.2 55 (0 + ll_) k_).2), fun y9_ => ?_⟩; rw [fr_arr (t := 60) (i := 0) hFx76_ rfl] at y9_; rw [(W64_.1 (2 * x_) (by omega) (by omega)).1]; exact z9_.2 y9_)
        have e64_ : ((n_.toNat : Nat) : Int) = n_ := by omega
        have w64_ : (Sx74_.2.2.1 60 0 n_.toNat = 0 ∨ Sx74_.2.2.1 61 0 (2 * n_.toNat) < 268435456) → wal (1 + S0_.1 3 dd_ 1 + S0_.1 3 dd_ 2) (n_ + 1) ll_ Sx74_ := fun z9_ => by (have y9_ := wal_s (n_ := n_.toNat) (by rw [e64_]; exact hwl_) p64_.2.2 (by rw [e64_, show 2 * n_.toNat = (2 * n_).toNat by omega, show (2 * n_).toNat + 1 = (2 * n_ + 1).toNat by omega]; exact p64_.1) (by rw [e64_, show 2 * n_.toNat = (2 * n_).toNat by omega, show (2 * n_).toNat + 1 = (2 * n_ + 1).toNat by omega]; exact p64_.2.1) (fun k9_ => (hI_.2 55 (0 + ll_) k9_).2) (fr_arr hFx76_ rfl) (fr_arr hFx76_ rfl) (fr_arr hFx76_ rfl) (hFx76_.1 5 ll_ 2 rfl) z9_; rw [e64_] at y9_; exact y9_)
        have m64_ := mkd_fr hk_ hFx76_
        have r64_ := rtm_fr hrr_ hFx76_
        have t64_ : (2 * n_).toNat = 2 * n_.toNat := by omega
        refine sm_T_go 3 (c1 := (73, [some (.inr (.inr (some (6, 0)))), some (.inr (.inr (some (3, dd_)))), some (.inr (.inr (some (5, ll_)))), some (.inr (.inr (some (2, cc_)))), some (.inl n_)], [.inl n_, .inr (.inr (some (60, 0)))], Sx74_)) rfl ?_
        refine sm_T_iald (n := 1013) rfl rfl (by omega) (by omega) ?_
        have bx83_ : (-2147483648) ≤ Sx74_.2.2.1 60 0 n_.toNat ∧ Sx74_.2.2.1 60 0 n_.toNat ≤ 2147483647 := hIx75_.2 60 0 _
        refine sm_T_b0 (a := 0) (z := 19) rfl (fun cx84_ => ?_) (fun cx84_ => ?_)
        · have cx84_ : (Sx74_.2.2.1 60 0 n_.toNat) = 0 := of_decide_eq_true cx84_
          refine sm_T_inc (a := 4) (z := 1) (v := n_) (w := n_ + 1) rfl rfl (by omega) (by omega) (by omega) ?_ -- pc_ 93
          refine sm_T_go 1 (c1 := (39, [some (.inr (.inr (some (6, 0)))), some (.inr (.inr (some (3, dd_)))), some (.inr (.inr (some (5, ll_)))), some (.inr (.inr (some (2, cc_)))), some (.inl (n_ + 1))], [], Sx74_)) rfl ?_
          refine ih_ (n_ + 1) Sx74_ hIx75_ hFx78_ ⟨?_, ?_, ?_, ?_, ?_, ?_, ?_, ?_, ?_, ?_, ?_, trivial⟩ ?_
          · omega
          · exact tx81_
          · exact tx80_
          · first | exact hk_ | exact m64_
          · first | exact hrr_ | exact r64_
          · first | exact wal_z hwl_ (by omega) (by omega) | exact w64_ (Or.inl (by omega)) | exact w64_ (Or.inr (by omega)) | exact w64_ (Or.inr (by rw [← t64_]; omega))
          · first | exact s64_.trans h19_ | exact h19_
          · first | (have y8_ := B64_; exact B64_.1) | exact hbc_
          · first | (have y8_ := V64_; exact V64_) | exact hvw_
          · first | (have y8_ := C64_; intro x_ hx_ u_; rw [B64_.2.1] at hx_ ⊢; by_cases z9_ : (x_ : Int) < n_; exact D64_ x_ hx_ z9_; (rw [show x_ = n_.toNat by omega]; exact ⟨C64_, fun y9_ => by first | (exfalso; omega) | omega | (rw [← t64_]; omega)⟩)) | (intro x_ hx_ u_; by_cases z9_ : (x_ : Int) < n_; exact hcn_ x_ hx_ z9_; (exfalso; have y9_ := hx_.2.2; rw [show x_ = n_.toNat by omega] at y9_; omega))
          · exact hCx79_
          · omega
        · have cx84_ : ¬ ((Sx74_.2.2.1 60 0 n_.toNat) = 0) := of_decide_eq_false cx84_
          refine sm_T_go 4 (c1 := (84, [some (.inr (.inr (some (6, 0)))), some (.inr (.inr (some (3, dd_)))), some (.inr (.inr (some (5, ll_)))), some (.inr (.inr (some (2, cc_)))), some (.inl n_)], [.inl n_, .inl 2, .inr (.inr (some (61, 0)))], Sx74_)) rfl ?_
          refine sm_T_bin (w := 2 * n_) rfl (bi_mul (by omega) (by omega) (by omega)) ?_ -- pc_ 84
          refine sm_T_iald (n := 2026) rfl rfl (by omega) (by omega) ?_
          have bx85_ : 0 ≤ Sx74_.2.2.1 61 0 (2 * n_).toNat ∧ Sx74_.2.2.1 61 0 (2 * n_).toNat ≤ 268435456 := hIx75_.2 61 0 _
          refine sm_T_nt (u := some (.inl 268435456)) (S1 := Sx74_) rfl rfl rfl ?_
          refine sm_T_br (a := 2) (z := 5) rfl (fun cx86_ => ?_) (fun cx86_ => ?_)
          · have cx86_ : (Sx74_.2.2.1 61 0 (2 * n_).toNat) < 268435456 := of_decide_eq_true cx86_
            refine sm_T_inc (a := 4) (z := 1) (v := n_) (w := n_ + 1) rfl rfl (by omega) (by omega) (by omega) ?_ -- pc_ 93
            refine sm_T_go 1 (c1 := (39, [some (.inr (.inr (some (6, 0)))), some (.inr (.inr (some (3, dd_)))), some (.inr (.inr (some (5, ll_)))), some (.inr (.inr (some (2, cc_)))), some (.inl (n_ + 1))], [], Sx74_)) rfl ?_
            refine ih_ (n_ + 1) Sx74_ hIx75_ hFx78_ ⟨?_, ?_, ?_, ?_, ?_, ?_, ?_, ?_, ?_, ?_, ?_, trivial⟩ ?_
            · omega
            · exact tx81_
            · exact tx80_
            · first | exact hk_ | exact m64_
            · first | exact hrr_ | exact r64_
            · first | exact wal_z hwl_ (by omega) (by omega) | exact w64_ (Or.inl (by omega)) | exact w64_ (Or.inr (by omega)) | exact w64_ (Or.inr (by rw [← t64_]; omega))
            · first | exact s64_.trans h19_ | exact h19_
            · first | (have y8_ := B64_; exact B64_.1) | exact hbc_
            · first | (have y8_ := V64_; exact V64_) | exact hvw_
            · first | (have y8_ := C64_; intro x_ hx_ u_; rw [B64_.2.1] at hx_ ⊢; by_cases z9_ : (x_ : Int) < n_; exact D64_ x_ hx_ z9_; (rw [show x_ = n_.toNat by omega]; exact ⟨C64_, fun y9_ => by first | (exfalso; omega) | omega | (rw [← t64_]; omega)⟩)) | (intro x_ hx_ u_; by_cases z9_ : (x_ : Int) < n_; exact hcn_ x_ hx_ z9_; (exfalso; have y9_ := hx_.2.2; rw [show x_ = n_.toNat by omega] at y9_; omega))
            · exact hCx79_
            · omega
          · have cx86_ : ¬ ((Sx74_.2.2.1 61 0 (2 * n_).toNat) < 268435456) := of_decide_eq_false cx86_
            refine sm_T_go 1 (c1 := (92, [some (.inr (.inr (some (6, 0)))), some (.inr (.inr (some (3, dd_)))), some (.inr (.inr (some (5, ll_)))), some (.inr (.inr (some (2, cc_)))), some (.inl n_)], [.inl (-1)], Sx74_)) rfl ?_
            refine sm_T_ri rfl ⟨_, _, rfl, _, rfl, hIx75_, hFx78_, ?_⟩
            refine ⟨hCx79_, ?_⟩
            refine ⟨⟨Or.inl (s64_.trans h19_), fun u9_ => absurd u9_ (by decide)⟩, Or.inr (Or.inl rfl), fun u9_ => absurd u9_ (by decide), B64_.1, V64_, Or.inl ⟨rfl, Or.inl ⟨n_.toNat, by (rw [B64_.2.1]; exact T9_), by omega, by (rw [← t64_]; omega), fun x_ hx_ hl9_ => ?_⟩⟩⟩
            rw [B64_.2.1] at hx_ ⊢
            by_cases z9_ : (x_ : Int) < n_
            · exact (D64_ x_ hx_ z9_).1
            · rw [show x_ = n_.toNat by omega]; exact C64_
set_option maxHeartbeats 4000000 in
theorem vc_91m {sc_ : Nat × (Nat → Int)} (dd_ : Nat) (ll_ : Nat) (cc_ : Nat) (F_ : Nat) (S0_ : sm_S) (hI_ : gi S0_) (hls_ : 0 ≤ S0_.1 2 cc_ 19 ∧ S0_.1 2 cc_ 19 ≤ 1000000) (hsw : swd F_ (S0_.1 3 dd_ 4).toNat (S0_.2.2.1 42 (0 + dd_)) (S0_.2.2.1 43 (0 + dd_)) (S0_.2.2.1 44 (0 + dd_))) (hok_ : dOk dd_ S0_) (hg_ : dgr dd_ F_ S0_) (hr_ : drt dd_ S0_) (hs_ : swp dd_ F_ S0_) (hl_ : ll_ < 3) : sm_T (mt_P sc_) 6 91 (0, [some (.inr (.inr (some (6, 0)))), some (.inr (.inr (some (3, dd_)))), some (.inr (.inr (some (5, ll_)))), some (.inr (.inr (some (2, cc_)))), none], [], S0_) (fun ro9_ => ∃ u_ S1_, ro9_ = (.inl u_, S1_, 0) ∧ vq_91m dd_ ll_ cc_ F_ S0_ u_ S1_) := by
  have hF_ : ai_fr (sx_W vw_91m) S0_ S0_ := ai_fr_rf
  have hC_ : cdf cc_ S0_ S0_ := cdf_rf
  have g1_ := hg_.1
  have g2_ := hg_.2.1
  have r1_ := hr_.1
  have hIx1_ : gi (sm_pR S0_ 6 0 0 (some dd_)) := gi_pR hI_
  have hFx2_ : ai_fr (sx_W vw_91m) S0_ (sm_pR S0_ 6 0 0 (some dd_)) := ai_fr_tr hF_ (ai_fr_pR rfl)
  have tx3_ : (sm_pR S0_ 6 0 0 (some dd_)).2.1 6 0 0 = some dd_ := (sm_up_self (f := S0_.2.1) (t := 6) (i := 0) (k := 0) (v := some dd_))
  have hCx4_ : cdf cc_ S0_ (sm_pR S0_ 6 0 0 (some dd_)) := cdf_pR hC_
  have hIx5_ : gi (sm_pR (sm_pR S0_ 6 0 0 (some dd_)) 6 0 1 (some ll_)) := gi_pR hIx1_
  have hFx6_ : ai_fr (sx_W vw_91m) S0_ (sm_pR (sm_pR S0_ 6 0 0 (some dd_)) 6 0 1 (some ll_)) := ai_fr_tr hFx2_ (ai_fr_pR rfl)
  have tx7_ : (sm_pR (sm_pR S0_ 6 0 0 (some dd_)) 6 0 1 (some ll_)).2.1 6 0 0 = some dd_ := (sm_up_ne (f := (sm_pR S0_ 6 0 0 (some dd_)).2.1) (t := 6) (i := 0) (k := 1) (v := some ll_) (by decide)).trans tx3_
  have tx8_ : (sm_pR (sm_pR S0_ 6 0 0 (some dd_)) 6 0 1 (some ll_)).2.1 6 0 1 = some ll_ := sm_up_self (f := (sm_pR S0_ 6 0 0 (some dd_)).2.1) (t := 6) (i := 0) (k := 1) (v := some ll_)
  have hCx9_ : cdf cc_ S0_ (sm_pR (sm_pR S0_ 6 0 0 (some dd_)) 6 0 1 (some ll_)) := cdf_pR hCx4_
  refine sm_T_go 7 (c1 := (11, [some (.inr (.inr (some (6, 0)))), some (.inr (.inr (some (3, dd_)))), some (.inr (.inr (some (5, ll_)))), some (.inr (.inr (some (2, cc_)))), none], [.inr (.inr (some (6, 0)))], sm_pR (sm_pR S0_ 6 0 0 (some dd_)) 6 0 1 (some ll_))) rfl ?_
  refine sm_T_gr rfl rfl tx7_ ?_
  refine sm_T_go 2 (c1 := (18, [some (.inr (.inr (some (6, 0)))), some (.inr (.inr (some (3, dd_)))), some (.inr (.inr (some (5, ll_)))), some (.inr (.inr (some (2, cc_)))), none], [.inr (.inr (some (59, 0))), .inr (.inr (some (3, dd_)))], sm_pR (sm_pR S0_ 6 0 0 (some dd_)) 6 0 1 (some ll_))) rfl ?_
  refine sm_T_cal (d1 := 1) (Q1 := vq_67mn dd_ F_ (sm_pR (sm_pR S0_ 6 0 0 (some dd_)) 6 0 1 (some ll_))) rfl rfl (by decide) (vc_67mn dd_ F_ (sm_pR (sm_pR S0_ 6 0 0 (some dd_)) 6 0 1 (some ll_)) hIx5_ (by exact dgr_fr hg_ hFx6_ rfl rfl rfl rfl rfl) (by exact drt_fr hr_ hFx6_ rfl rfl rfl rfl rfl) (by exact swp_fr hs_ hFx6_ rfl rfl rfl rfl)) (fun u_ Sx10_ px13_ => ?_)
  obtain ⟨vx15_, rfl, hIx11_, hFx12_, px13_⟩ := px13_
  have hFx14_ : ai_fr (sx_W vw_91m) S0_ Sx10_ := ai_fr_tr hFx6_ (fr_le hFx12_ rfl)
  have hCx16_ : cdf cc_ S0_ Sx10_ := cdf_tr hCx9_ (cdf_fr hFx12_ rfl)
  have tx17_ : Sx10_.2.1 6 0 1 = some ll_ := (hFx12_.2.1 6 0 1 rfl).trans tx8_
  have tx18_ : Sx10_.2.1 6 0 0 = some dd_ := (hFx12_.2.1 6 0 0 rfl).trans tx7_
  have s18_ := hFx12_.1 2 cc_ 19 rfl
  have k18_ := (px13_).1.2
  have b18_ := bnd_fr (dd_ := dd_) (F_ := F_) hFx12_
  have nf18_ : ∀ q_ : Nat, (q_ : Int) < Sx10_.1 3 dd_ 4 → (Sx10_.2.2.1 59 0 q_ = 0 ∨ Sx10_.2.2.1 59 0 q_ = 1) ∧ (Sx10_.2.2.1 59 0 q_ = 1 ↔ bnd9 dd_ F_ Sx10_ q_ = true) := fun q_ hq_ => by (have c9_ : Sx10_.1 3 dd_ 4 ≤ 1013 := (hIx11_.1 3 dd_ 4 rfl).2; refine ⟨by (rcases k18_.1 q_ (by omega) with z9_ | z9_; exact Or.inl z9_; exact Or.inr z9_.1), ?_⟩; rw [b18_.1]; exact (px13_).2.2 q_ (by (have z9_ := hFx12_.1 3 dd_ 4 rfl; omega)))
  refine sm_T_go 2 (c1 := (23, [some (.inr (.inr (some (6, 0)))), some (.inr (.inr (some (3, dd_)))), some (.inr (.inr (some (5, ll_)))), some (.inr (.inr (some (2, cc_)))), none], [.inr (.inr (some (6, 0)))], Sx10_)) rfl ?_
  refine sm_T_cal (d1 := 2) (Q1 := vq_95n dd_ F_ Sx10_) rfl rfl (by decide) (vc_95n dd_ F_ Sx10_ hIx11_ (by exact tx18_) (by exact drt_fr hr_ hFx14_ rfl rfl rfl rfl rfl) (by exact dgr_fr hg_ hFx14_ rfl rfl rfl rfl rfl) (by exact swp_fr hs_ hFx14_ rfl rfl rfl rfl) (by exact nf18_)) (fun u_ Sx19_ px22_ => ?_)
  obtain ⟨rfl, hIx20_, hFx21_, px22_⟩ := px22_
  have hFx23_ : ai_fr (sx_W vw_91m) S0_ Sx19_ := ai_fr_tr hFx14_ (fr_le hFx21_ rfl)
  have hCx24_ : cdf cc_ S0_ Sx19_ := cdf_tr hCx16_ (cdf_fr hFx21_ rfl)
  have tx25_ : Sx19_.2.1 6 0 1 = some ll_ := (hFx21_.2.1 6 0 1 rfl).trans tx17_
  have tx26_ : Sx19_.2.1 6 0 0 = some dd_ := (hFx21_.2.1 6 0 0 rfl).trans tx18_
  have s23_ := hFx21_.1 2 cc_ 19 rfl
  have q23_ : rtm dd_ Sx19_ := rtm_of (px22_).2 hFx21_
  have k23_ := mkd_fr k18_ hFx21_
  have b23_ := bnd_fr (dd_ := dd_) (F_ := F_) hFx21_
  have z23_ := hFx21_.1 3 dd_ 4 rfl
  have y23_ : Sx19_.2.2.1 59 0 = _ := fr_arr (t := 59) (i := 0) hFx21_ rfl
  have nf23_ : ∀ q_ : Nat, (q_ : Int) < Sx19_.1 3 dd_ 4 → (Sx19_.2.2.1 59 0 q_ = 0 ∨ Sx19_.2.2.1 59 0 q_ = 1) ∧ (Sx19_.2.2.1 59 0 q_ = 1 ↔ bnd9 dd_ F_ Sx19_ q_ = true) := fun q_ hq_ => by (rw [y23_, b23_.1]; exact nf18_ q_ (by omega))
  have u23_ : ∀ q_ : Nat, (q_ : Int) < Sx19_.1 3 dd_ 4 → Sx19_.2.2.1 60 0 q_ = if 1 < bus dd_ F_ Sx19_ q_ then 1 else 0 := fun q_ hq_ => by (rw [b23_.2]; exact (px22_).1 q_ (by omega))
  have B23_ : bcm dd_ F_ Sx19_ := bcm_of (dgr_fr hg_ hFx23_ rfl rfl rfl rfl rfl) (swp_fr hs_ hFx23_ rfl rfl rfl rfl) k23_ (by (rw [hFx23_.1 3 dd_ 4 rfl, fr_arr (t := 42) (i := 0 + dd_) hFx23_ rfl, fr_arr (t := 43) (i := 0 + dd_) hFx23_ rfl, fr_arr (t := 44) (i := 0 + dd_) hFx23_ rfl]; exact hsw)) ((hIx20_).1 3 dd_ 4 rfl).2 nf23_ u23_
  refine sm_T_go 1 (c1 := (27, [some (.inr (.inr (some (6, 0)))), some (.inr (.inr (some (3, dd_)))), some (.inr (.inr (some (5, ll_)))), some (.inr (.inr (some (2, cc_)))), none], [.inr (.inr (some (6, 0)))], Sx19_)) rfl ?_
  refine sm_T_cal (d1 := 1) (Q1 := vq_97n ll_ Sx19_) rfl rfl (by decide) (vc_97n ll_ Sx19_ hIx20_ (by exact tx25_)) (fun u_ Sx27_ px30_ => ?_)
  obtain ⟨rfl, hIx28_, hFx29_, px30_⟩ := px30_
  have hFx31_ : ai_fr (sx_W vw_91m) S0_ Sx27_ := ai_fr_tr hFx23_ (fr_le hFx29_ rfl)
  have hCx32_ : cdf cc_ S0_ Sx27_ := cdf_tr hCx24_ (cdf_fr hFx29_ rfl)
  have tx33_ : Sx27_.2.1 6 0 1 = some ll_ := (hFx29_.2.1 6 0 1 rfl).trans tx25_
  have tx34_ : Sx27_.2.1 6 0 0 = some dd_ := (hFx29_.2.1 6 0 0 rfl).trans tx26_
  have s27_ := hFx29_.1 2 cc_ 19 rfl
  have B27_ := (bcm_fr B23_ hFx29_).1
  have V27_ : bvw ll_ Sx27_ := fun c_ v_ a_ b_ d_ => by (rw [hFx29_.1 5 ll_ 1 rfl] at a_; rw [fr_arr (t := 55) (i := 0 + ll_) hFx29_ rfl] at b_ d_; have z9_ := px30_ c_ v_ a_ b_ d_; unfold vwd at z9_ ⊢; rw [fr_arr (t := 55) (i := 0 + ll_) hFx29_ rfl, fr_arr (t := 56) (i := 0 + ll_) hFx29_ rfl]; exact z9_)
  have q27_ := rtm_fr q23_ hFx29_
  have k27_ := mkd_fr k23_ hFx29_
  have z1_ := hFx31_.1 3 dd_ 1 rfl
  have z2_ := hFx31_.1 3 dd_ 2 rfl
  refine sm_T_go 1 (c1 := (31, [some (.inr (.inr (some (6, 0)))), some (.inr (.inr (some (3, dd_)))), some (.inr (.inr (some (5, ll_)))), some (.inr (.inr (some (2, cc_)))), none], [.inr (.inr (some (6, 0)))], Sx27_)) rfl ?_
  refine sm_T_gr rfl rfl tx34_ ?_
  refine sm_T_cal (d1 := 0) (Q1 := vq_63 dd_ Sx27_) rfl rfl (by decide) (vc_63 dd_ Sx27_ hIx28_ (by omega)) (fun u_ Sx35_ px38_ => ?_)
  obtain ⟨rfl, vx40_, rfl, px38_⟩ := px38_
  have a34_ := px38_
  refine sm_T_go 1 (c1 := (39, [some (.inr (.inr (some (6, 0)))), some (.inr (.inr (some (3, dd_)))), some (.inr (.inr (some (5, ll_)))), some (.inr (.inr (some (2, cc_)))), some (.inl vx40_)], [], Sx27_)) rfl ?_
  refine (vl_91m dd_ ll_ cc_ F_ S0_ hls_ hsw hok_ hg_ hr_ hs_ hl_ _) vx40_ Sx27_ hIx28_ hFx31_ ⟨?_, ?_, ?_, ?_, ?_, ?_, ?_, ?_, ?_, ?_, ?_, trivial⟩ (Nat.lt_succ_self _)
  · omega
  · exact tx34_
  · exact tx33_
  · exact k27_
  · exact q27_
  · (intro k9_ u9_ w9_ y9_; exfalso; omega)
  · exact s27_.trans (s23_.trans s18_)
  · exact B27_
  · exact V27_
  · (intro x_ hx_ u_; exfalso; have z9_ := hx_.1; omega)
  · exact hCx32_
