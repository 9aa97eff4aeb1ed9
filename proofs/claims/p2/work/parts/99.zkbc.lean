/-! Chip.start -/
def vw_53 : sx_Wl := ([(2, 1), (2, 2), (2, 3), (2, 4), (2, 5), (2, 8), (2, 14), (2, 15), (2, 19), (5, 1), (5, 2)], [39, 55, 56, 57, 58], [])
def vq_53 (ii_ : Nat) (dd_ : Nat) (ll_ : Nat) (S0_ : sm_S) (u_ : Option sm_V) (S1_ : sm_S) : Prop := u_ = none ∧ gi S1_ ∧ ai_fr (sx_W vw_53) S0_ S1_ ∧ (cdf ii_ S0_ S1_ ∧ (S1_.1 2 ii_ 1 = S0_.1 3 dd_ 1 ∧ S1_.1 2 ii_ 2 = S0_.1 3 dd_ 2 ∧ S1_.1 2 ii_ 3 = S0_.1 3 dd_ 3 ∧ S1_.1 2 ii_ 4 = S0_.1 3 dd_ 5 ∧ S1_.1 2 ii_ 5 = S0_.1 3 dd_ 5 ∧ S1_.1 2 ii_ 8 = 0))
set_option maxHeartbeats 400000 in
theorem vc_53 {sc_ : Nat × (Nat → Int)} (ii_ : Nat) (dd_ : Nat) (ll_ : Nat) (S0_ : sm_S) (hI_ : gi S0_) (hd_ : dOk dd_ S0_) : sm_T (mt_P sc_) 1 53 (0, [some (.inr (.inr (some (2, ii_)))), some (.inr (.inr (some (3, dd_)))), some (.inr (.inr (some (5, ll_))))], [], S0_) (fun ro9_ => ∃ u_ S1_, ro9_ = (.inl u_, S1_, 0) ∧ vq_53 ii_ dd_ ll_ S0_ u_ S1_) := by
  have hF_ : ai_fr (sx_W vw_53) S0_ S0_ := ai_fr_rf
  have hC_ : cdf ii_ S0_ S0_ := cdf_rf
  have J9_ := dOk_b hd_
  have J9a := J9_.1
  have J9b := J9_.2.1
  have J9c := J9_.2.2.1
  have pw9_ := pw_le (n := (S0_.1 3 dd_ 2).toNat) (m := 6) (by omega)
  have bx1_ : 0 ≤ S0_.1 3 dd_ 1 ∧ S0_.1 3 dd_ 1 ≤ 320 := hI_.1 3 dd_ 1 rfl
  have hIx2_ : gi (sm_pI S0_ 2 ii_ 1 (S0_.1 3 dd_ 1)) := gi_pI hI_ (show 0 ≤ (S0_.1 3 dd_ 1) ∧ (S0_.1 3 dd_ 1) ≤ 12 from ⟨by omega, by omega⟩)
  have hFx3_ : ai_fr (sx_W vw_53) S0_ (sm_pI S0_ 2 ii_ 1 (S0_.1 3 dd_ 1)) := ai_fr_tr hF_ (ai_fr_pI rfl)
  have hCx4_ : cdf ii_ S0_ (sm_pI S0_ 2 ii_ 1 (S0_.1 3 dd_ 1)) := cdf_pI hC_ (Or.inr (by rw [show cof 2 = 0 from rfl] <;> omega))
  have bx5_ : 0 ≤ S0_.1 3 dd_ 2 ∧ S0_.1 3 dd_ 2 ≤ 100000 := hI_.1 3 dd_ 2 rfl
  have hIx6_ : gi (sm_pI (sm_pI S0_ 2 ii_ 1 (S0_.1 3 dd_ 1)) 2 ii_ 2 (S0_.1 3 dd_ 2)) := gi_pI hIx2_ (show 0 ≤ (S0_.1 3 dd_ 2) ∧ (S0_.1 3 dd_ 2) ≤ 6 from ⟨by omega, by omega⟩)
  have hFx7_ : ai_fr (sx_W vw_53) S0_ (sm_pI (sm_pI S0_ 2 ii_ 1 (S0_.1 3 dd_ 1)) 2 ii_ 2 (S0_.1 3 dd_ 2)) := ai_fr_tr hFx3_ (ai_fr_pI rfl)
  have hCx8_ : cdf ii_ S0_ (sm_pI (sm_pI S0_ 2 ii_ 1 (S0_.1 3 dd_ 1)) 2 ii_ 2 (S0_.1 3 dd_ 2)) := cdf_pI hCx4_ (Or.inr (by rw [show cof 2 = 0 from rfl] <;> omega))
  have bx9_ : 0 ≤ S0_.1 3 dd_ 3 ∧ S0_.1 3 dd_ 3 ≤ 320 := hI_.1 3 dd_ 3 rfl
  have hIx10_ : gi (sm_pI (sm_pI (sm_pI S0_ 2 ii_ 1 (S0_.1 3 dd_ 1)) 2 ii_ 2 (S0_.1 3 dd_ 2)) 2 ii_ 3 (S0_.1 3 dd_ 3)) := gi_pI hIx6_ (show 0 ≤ (S0_.1 3 dd_ 3) ∧ (S0_.1 3 dd_ 3) ≤ 16 from ⟨by omega, by omega⟩)
  have hFx11_ : ai_fr (sx_W vw_53) S0_ (sm_pI (sm_pI (sm_pI S0_ 2 ii_ 1 (S0_.1 3 dd_ 1)) 2 ii_ 2 (S0_.1 3 dd_ 2)) 2 ii_ 3 (S0_.1 3 dd_ 3)) := ai_fr_tr hFx7_ (ai_fr_pI rfl)
  have hCx12_ : cdf ii_ S0_ (sm_pI (sm_pI (sm_pI S0_ 2 ii_ 1 (S0_.1 3 dd_ 1)) 2 ii_ 2 (S0_.1 3 dd_ 2)) 2 ii_ 3 (S0_.1 3 dd_ 3)) := cdf_pI hCx8_ (Or.inr (by rw [show cof 2 = 0 from rfl] <;> omega))
  have bx13_ : 0 ≤ S0_.1 3 dd_ 5 ∧ S0_.1 3 dd_ 5 ≤ 63 := hI_.1 3 dd_ 5 rfl
  have hIx14_ : gi (sm_pI (sm_pI (sm_pI (sm_pI S0_ 2 ii_ 1 (S0_.1 3 dd_ 1)) 2 ii_ 2 (S0_.1 3 dd_ 2)) 2 ii_ 3 (S0_.1 3 dd_ 3)) 2 ii_ 4 (S0_.1 3 dd_ 5)) := gi_pI hIx10_ (show 0 ≤ (S0_.1 3 dd_ 5) ∧ (S0_.1 3 dd_ 5) ≤ 63 from ⟨by omega, by omega⟩)
  have hFx15_ : ai_fr (sx_W vw_53) S0_ (sm_pI (sm_pI (sm_pI (sm_pI S0_ 2 ii_ 1 (S0_.1 3 dd_ 1)) 2 ii_ 2 (S0_.1 3 dd_ 2)) 2 ii_ 3 (S0_.1 3 dd_ 3)) 2 ii_ 4 (S0_.1 3 dd_ 5)) := ai_fr_tr hFx11_ (ai_fr_pI rfl)
  have hCx16_ : cdf ii_ S0_ (sm_pI (sm_pI (sm_pI (sm_pI S0_ 2 ii_ 1 (S0_.1 3 dd_ 1)) 2 ii_ 2 (S0_.1 3 dd_ 2)) 2 ii_ 3 (S0_.1 3 dd_ 3)) 2 ii_ 4 (S0_.1 3 dd_ 5)) := cdf_pI hCx12_ (Or.inr (by rw [show cof 2 = 0 from rfl] <;> omega))
  have hIx17_ : gi (sm_pI (sm_pI (sm_pI (sm_pI (sm_pI S0_ 2 ii_ 1 (S0_.1 3 dd_ 1)) 2 ii_ 2 (S0_.1 3 dd_ 2)) 2 ii_ 3 (S0_.1 3 dd_ 3)) 2 ii_ 4 (S0_.1 3 dd_ 5)) 2 ii_ 5 (S0_.1 3 dd_ 5)) := gi_pI hIx14_ (show 0 ≤ (S0_.1 3 dd_ 5) ∧ (S0_.1 3 dd_ 5) ≤ 63 from ⟨by omega, by omega⟩)
  have hFx18_ : ai_fr (sx_W vw_53) S0_ (sm_pI (sm_pI (sm_pI (sm_pI (sm_pI S0_ 2 ii_ 1 (S0_.1 3 dd_ 1)) 2 ii_ 2 (S0_.1 3 dd_ 2)) 2 ii_ 3 (S0_.1 3 dd_ 3)) 2 ii_ 4 (S0_.1 3 dd_ 5)) 2 ii_ 5 (S0_.1 3 dd_ 5)) := ai_fr_tr hFx15_ (ai_fr_pI rfl)
  have hCx19_ : cdf ii_ S0_ (sm_pI (sm_pI (sm_pI (sm_pI (sm_pI S0_ 2 ii_ 1 (S0_.1 3 dd_ 1)) 2 ii_ 2 (S0_.1 3 dd_ 2)) 2 ii_ 3 (S0_.1 3 dd_ 3)) 2 ii_ 4 (S0_.1 3 dd_ 5)) 2 ii_ 5 (S0_.1 3 dd_ 5)) := cdf_pI hCx16_ (Or.inr (by rw [show cof 2 = 0 from rfl] <;> omega))
  refine sm_T_go 23 (c1 := (45, [some (.inr (.inr (some (2, ii_)))), some (.inr (.inr (some (3, dd_)))), some (.inr (.inr (some (5, ll_))))], [.inr (.inr (some (5, ll_))), .inr (.inr (some (5, (3 + ii_))))], sm_pI (sm_pI (sm_pI (sm_pI (sm_pI S0_ 2 ii_ 1 (S0_.1 3 dd_ 1)) 2 ii_ 2 (S0_.1 3 dd_ 2)) 2 ii_ 3 (S0_.1 3 dd_ 3)) 2 ii_ 4 (S0_.1 3 dd_ 5)) 2 ii_ 5 (S0_.1 3 dd_ 5))) rfl ?_
  refine sm_T_cal (d1 := 0) (Q1 := vq_90 ii_ ll_ (sm_pI (sm_pI (sm_pI (sm_pI (sm_pI S0_ 2 ii_ 1 (S0_.1 3 dd_ 1)) 2 ii_ 2 (S0_.1 3 dd_ 2)) 2 ii_ 3 (S0_.1 3 dd_ 3)) 2 ii_ 4 (S0_.1 3 dd_ 5)) 2 ii_ 5 (S0_.1 3 dd_ 5))) rfl rfl (by decide) (vc_90 ii_ ll_ (sm_pI (sm_pI (sm_pI (sm_pI (sm_pI S0_ 2 ii_ 1 (S0_.1 3 dd_ 1)) 2 ii_ 2 (S0_.1 3 dd_ 2)) 2 ii_ 3 (S0_.1 3 dd_ 3)) 2 ii_ 4 (S0_.1 3 dd_ 5)) 2 ii_ 5 (S0_.1 3 dd_ 5)) hIx17_ ) (fun u_ Sx20_ px23_ => ?_)
  obtain ⟨rfl, hIx21_, hFx22_, px23_⟩ := px23_
  have hFx24_ : ai_fr (sx_W vw_53) S0_ Sx20_ := ai_fr_tr hFx18_ (fr_le hFx22_ rfl)
  obtain ⟨dx26_, px23_⟩ := px23_
  have hCx25_ : cdf ii_ S0_ Sx20_ := cdf_tr hCx19_ (cdf_cg (by omega) dx26_)
  have u1_ := hFx22_.1 2 ii_ 1 rfl
  have u2_ := hFx22_.1 2 ii_ 2 rfl
  have u3_ := hFx22_.1 2 ii_ 3 rfl
  have u4_ := hFx22_.1 2 ii_ 4 rfl
  have u5_ := hFx22_.1 2 ii_ 5 rfl
  simp only [rf_eq, rf_nt, rf_nk, rd_fa, rd_af, ne_eq, Nat.reduceEqDiff, not_false_eq_true] at u1_ u2_ u3_ u4_ u5_
  have hIx27_ : gi (sm_pI Sx20_ 2 ii_ 8 0) := gi_pI hIx21_ (show 0 ≤ 0 ∧ 0 ≤ 150 from ⟨by omega, by omega⟩)
  have hFx28_ : ai_fr (sx_W vw_53) S0_ (sm_pI Sx20_ 2 ii_ 8 0) := ai_fr_tr hFx24_ (ai_fr_pI rfl)
  have hCx29_ : cdf ii_ S0_ (sm_pI Sx20_ 2 ii_ 8 0) := cdf_pI hCx25_ (Or.inr (by rw [show cof 2 = 0 from rfl] <;> omega))
  refine sm_T_go 6 (c1 := (58, [some (.inr (.inr (some (2, ii_)))), some (.inr (.inr (some (3, dd_)))), some (.inr (.inr (some (5, ll_))))], [.inl 0, .inr (.inr (some (39, (0 + ii_))))], sm_pI Sx20_ 2 ii_ 8 0)) rfl ?_
  refine sm_T_cal (d1 := 0) (Q1 := vq_2e9 0 ii_ (sm_pI Sx20_ 2 ii_ 8 0)) rfl rfl (by decide) (vc_2e9 0 ii_ (sm_pI Sx20_ 2 ii_ 8 0) hIx27_ (by decide)) (fun u_ Sx30_ px33_ => ?_)
  obtain ⟨rfl, hIx31_, hFx32_, px33_⟩ := px33_
  have hFx34_ : ai_fr (sx_W vw_53) S0_ Sx30_ := ai_fr_tr hFx28_ (fr_le hFx32_ rfl)
  obtain ⟨dx36_, px33_⟩ := px33_
  have hCx35_ : cdf ii_ S0_ Sx30_ := cdf_tr hCx29_ (cdf_cg (by omega) dx36_)
  have w1_ := hFx32_.1 2 ii_ 1 rfl
  have w2_ := hFx32_.1 2 ii_ 2 rfl
  have w3_ := hFx32_.1 2 ii_ 3 rfl
  have w4_ := hFx32_.1 2 ii_ 4 rfl
  have w5_ := hFx32_.1 2 ii_ 5 rfl
  have w8_ := hFx32_.1 2 ii_ 8 rfl
  simp only [rf_eq, rf_nt, rf_nk, rd_fa, rd_af, ne_eq, Nat.reduceEqDiff, not_false_eq_true] at w1_ w2_ w3_ w4_ w5_ w8_
  have hIx37_ : gi (sm_pI Sx30_ 2 ii_ 14 0) := gi_pI hIx31_ (show 0 ≤ 0 ∧ 0 ≤ 40 from ⟨by omega, by omega⟩)
  have hFx38_ : ai_fr (sx_W vw_53) S0_ (sm_pI Sx30_ 2 ii_ 14 0) := ai_fr_tr hFx34_ (ai_fr_pI rfl)
  have hCx39_ : cdf ii_ S0_ (sm_pI Sx30_ 2 ii_ 14 0) := cdf_pI hCx35_ (Or.inr (by rw [show cof 2 = 0 from rfl] <;> omega))
  have hIx40_ : gi (sm_pI (sm_pI Sx30_ 2 ii_ 14 0) 2 ii_ 15 (-1)) := gi_pI hIx37_ (show (-1) ≤ (-1) ∧ (-1) ≤ 1224 from ⟨by omega, by omega⟩)
  have hFx41_ : ai_fr (sx_W vw_53) S0_ (sm_pI (sm_pI Sx30_ 2 ii_ 14 0) 2 ii_ 15 (-1)) := ai_fr_tr hFx38_ (ai_fr_pI rfl)
  have hCx42_ : cdf ii_ S0_ (sm_pI (sm_pI Sx30_ 2 ii_ 14 0) 2 ii_ 15 (-1)) := cdf_pI hCx39_ (Or.inr (by rw [show cof 2 = 0 from rfl] <;> omega))
  have bx43_ : (-2147483648) ≤ Sx30_.1 2 ii_ 19 ∧ Sx30_.1 2 ii_ 19 ≤ 2147483647 := hIx31_.1 2 ii_ 19 rfl
  have ex44_ : (sm_pI (sm_pI Sx30_ 2 ii_ 14 0) 2 ii_ 15 (-1)).1 2 ii_ 19 = (Sx30_.1 2 ii_ 19) := by (try simp only [rf_eq, rf_nk, rf_nt, rd_fa, rd_af, ne_eq, Nat.reduceEqDiff, not_false_eq_true])
  refine sm_T_go 10 (c1 := (77, [some (.inr (.inr (some (2, ii_)))), some (.inr (.inr (some (3, dd_)))), some (.inr (.inr (some (5, ll_))))], [.inl 1, .inl ((sm_pI (sm_pI Sx30_ 2 ii_ 14 0) 2 ii_ 15 (-1)).1 2 ii_ 19), .inr (.inr (some (2, ii_)))], sm_pI (sm_pI Sx30_ 2 ii_ 14 0) 2 ii_ 15 (-1))) rfl ?_
  refine sm_T_bin (w := (i_add ((sm_pI (sm_pI Sx30_ 2 ii_ 14 0) 2 ii_ 15 (-1)).1 2 ii_ 19) 1)) rfl rfl ?_ -- pc_ 77
  have bx45_ := i_add_r ((sm_pI (sm_pI Sx30_ 2 ii_ 14 0) 2 ii_ 15 (-1)).1 2 ii_ 19) 1
  have hIx46_ : gi (sm_pI (sm_pI (sm_pI Sx30_ 2 ii_ 14 0) 2 ii_ 15 (-1)) 2 ii_ 19 (i_add ((sm_pI (sm_pI Sx30_ 2 ii_ 14 0) 2 ii_ 15 (-1)).1 2 ii_ 19) 1)) := gi_pI hIx40_ (show (-2147483648) ≤ (i_add ((sm_pI (sm_pI Sx30_ 2 ii_ 14 0) 2 ii_ 15 (-1)).1 2 ii_ 19) 1) ∧ (i_add ((sm_pI (sm_pI Sx30_ 2 ii_ 14 0) 2 ii_ 15 (-1)).1 2 ii_ 19) 1) ≤ 2147483647 from ⟨by omega, by omega⟩)
  have hFx47_ : ai_fr (sx_W vw_53) S0_ (sm_pI (sm_pI (sm_pI Sx30_ 2 ii_ 14 0) 2 ii_ 15 (-1)) 2 ii_ 19 (i_add ((sm_pI (sm_pI Sx30_ 2 ii_ 14 0) 2 ii_ 15 (-1)).1 2 ii_ 19) 1)) := ai_fr_tr hFx41_ (ai_fr_pI rfl)
  have hCx48_ : cdf ii_ S0_ (sm_pI (sm_pI (sm_pI Sx30_ 2 ii_ 14 0) 2 ii_ 15 (-1)) 2 ii_ 19 (i_add ((sm_pI (sm_pI Sx30_ 2 ii_ 14 0) 2 ii_ 15 (-1)).1 2 ii_ 19) 1)) := cdf_pI hCx42_ (Or.inr (by rw [show cof 2 = 0 from rfl] <;> omega))
  refine sm_T_go 1 (c1 := (81, [some (.inr (.inr (some (2, ii_)))), some (.inr (.inr (some (3, dd_)))), some (.inr (.inr (some (5, ll_))))], [], sm_pI (sm_pI (sm_pI Sx30_ 2 ii_ 14 0) 2 ii_ 15 (-1)) 2 ii_ 19 (i_add ((sm_pI (sm_pI Sx30_ 2 ii_ 14 0) 2 ii_ 15 (-1)).1 2 ii_ 19) 1))) rfl ?_
  refine sm_T_rv rfl ⟨_, _, rfl, rfl, hIx46_, hFx47_, ?_⟩
  refine ⟨hCx48_, ?_⟩
  simp only [rf_eq, rf_nt, rf_nk, rd_fa, rd_af, ne_eq, Nat.reduceEqDiff, not_false_eq_true]
  exact ⟨by omega, by omega, by omega, by omega, by omega, by omega⟩

/-! pins set_ so_ far_: those of_ E_ elements, k_ of_ the_ next, a_ inputs, b_ outputs -/
def bpw (bi_ : Nat) (S_ : sm_S) (E_ k_ a_ b_ : Int) : Prop := ∀ p_ : Nat, p_ < 652 → S_.2.2.1 17 (0 + bi_) p_ ≠ -1 → (p_ < 624 ∧ ((((p_ / 4 : Nat) : Int) < E_ ∧ ((p_ % 4 : Nat) : Int) < S_.2.2.1 16 (0 + bi_) (p_ / 4)) ∨ (((p_ / 4 : Nat) : Int) = E_ ∧ ((p_ % 4 : Nat) : Int) < k_))) ∨ (624 ≤ p_ ∧ p_ < 636 ∧ (p_ : Int) < 624 + a_) ∨ (636 ≤ p_ ∧ (p_ : Int) < 636 + b_)
theorem bpw_0 {bi_ : Nat} {S_ : sm_S} {E_ k_ a_ b_ x_ : Int} (h_ : bpw bi_ S_ E_ k_ a_ b_) (hx_ : 0 ≤ x_ ∧ x_ < 652) (hn_ : ¬ ((x_ < 624 ∧ (x_ / 4 < E_ ∨ (x_ / 4 = E_ ∧ x_ % 4 < k_))) ∨ (624 ≤ x_ ∧ x_ < 636 ∧ x_ < 624 + a_) ∨ (636 ≤ x_ ∧ x_ < 636 + b_))) : S_.2.2.1 17 (0 + bi_) x_.toNat = -1 := by
  by_cases z_ : S_.2.2.1 17 (0 + bi_) x_.toNat = -1
  · exact z_
  · exfalso
    have y_ := h_ x_.toNat (by omega) z_
    omega
theorem bpw_s {bi_ : Nat} {S_ S'_ : sm_S} {E_ k_ a_ b_ x_ v_ E'_ k'_ a'_ b'_ : Int} (h_ : bpw bi_ S_ E_ k_ a_ b_) (z_ : S'_.2.2.1 16 (0 + bi_) = S_.2.2.1 16 (0 + bi_)) (q_ : ∀ j_, S'_.2.2.1 17 (0 + bi_) j_ = if 0 ≤ v_ ∧ j_ = x_.toNat then v_ else S_.2.2.1 17 (0 + bi_) j_) (hx_ : 0 ≤ x_)
    (g_ : (x_ < 624 ∧ ((x_ / 4 < E'_ ∧ x_ % 4 < S_.2.2.1 16 (0 + bi_) (x_ / 4).toNat) ∨ (x_ / 4 = E'_ ∧ x_ % 4 < k'_))) ∨ (624 ≤ x_ ∧ x_ < 636 ∧ x_ < 624 + a'_) ∨ (636 ≤ x_ ∧ x_ < 636 + b'_)) (hE_ : E_ = E'_ ∧ k_ ≤ k'_) (ha_ : a_ ≤ a'_ ∧ b_ ≤ b'_) : bpw bi_ S'_ E'_ k'_ a'_ b'_ := by
  intro p_ hp_ hn_
  rw [q_] at hn_
  rw [z_]
  by_cases y_ : 0 ≤ v_ ∧ p_ = x_.toNat
  · have e_ : (x_ / 4).toNat = p_ / 4 := by omega
    rw [e_] at g_
    omega
  · rw [if_neg y_] at hn_
    have w_ := h_ p_ hp_ hn_
    omega
/-- a_ whole element -/
theorem bpw_e {bi_ : Nat} {S_ : sm_S} {E_ k_ a_ b_ : Int} (h_ : bpw bi_ S_ E_ k_ a_ b_) (hE_ : 0 ≤ E_) (hk_ : k_ = S_.2.2.1 16 (0 + bi_) E_.toNat) : bpw bi_ S_ (E_ + 1) 0 a_ b_ := by
  intro p_ hp_ hn_
  have w_ := h_ p_ hp_ hn_
  by_cases y_ : ((p_ / 4 : Nat) : Int) = E_
  · have e_ : E_.toNat = p_ / 4 := by omega
    rw [e_] at hk_
    omega
  · omega
theorem bpw_z {bi_ : Nat} {S_ S'_ : sm_S} {E_ k_ a_ b_ v_ : Int} {e_ : Nat} (h_ : bpw bi_ S_ E_ k_ a_ b_) (z_ : S'_.2.2.1 17 (0 + bi_) = S_.2.2.1 17 (0 + bi_)) (q_ : ∀ j_, S'_.2.2.1 16 (0 + bi_) j_ = if j_ = e_ then v_ else S_.2.2.1 16 (0 + bi_) j_) (he_ : E_ ≤ (e_ : Int)) : bpw bi_ S'_ E_ k_ a_ b_ := by
  intro p_ hp_ hn_
  rw [z_] at hn_
  have w_ := h_ p_ hp_ hn_
  rw [q_]
  split
  · omega
  · exact w_
theorem bpw_p {bi_ ci_ : Nat} {S_ : sm_S} {E_ a_ b_ : Int} (h_ : bpw bi_ S_ E_ 0 a_ b_) (hE_ : E_ = S_.1 2 ci_ 2 + S_.1 2 ci_ 8) (ha_ : a_ = S_.1 2 ci_ 1) (hb_ : b_ = S_.1 2 ci_ 3) : bpp bi_ ci_ S_ := by
  intro p_ hp_ hn_
  have w_ := h_ p_ hp_ hn_
  refine ⟨fun z_ => ?_, fun z_ y_ => ?_, fun z_ => ?_⟩ <;> omega
