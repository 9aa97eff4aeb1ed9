/-! M_.go -/
def vw_297 : sx_Wl := ([(13, 9), (13, 10), (13, 11)], [], [])
def vq_297 (b_ : Nat → Int) (n_ : Nat) (T_ : Nat) (x_ : pE Nat) (S0_ : sm_S) (u_ : Option sm_V) (S1_ : sm_S) : Prop := u_ = none ∧ gi S1_ ∧ ai_fr (sx_W vw_297) S0_ S1_ ∧ (rg b_ n_ T_ (pb x_ (p_ad b_ n_)) S1_ ∧ ∀ (p_ : Nat) (e_ : Int × Nat), x_ = .inr p_ → p_ad b_ n_ p_ = .inl e_ → (S1_.2.2.1 119 0 (((S1_.1 13 0 9)).toNat)) = 4)
set_option maxHeartbeats 400000 in
theorem vc_297 {sc_ : Nat × (Nat → Int)} (b_ : Nat → Int) (n_ : Nat) (T_ : Nat) (x_ : pE Nat) (S0_ : sm_S) (hI_ : gi S0_) (ht_ : rtab b_ n_ T_ S0_) (hx_ : rg b_ n_ T_ x_ S0_) (hk_ : ∀ p_ : Nat, x_ = .inr p_ → lx_kd b_ n_ p_ ≠ 0) : sm_T (mt_P sc_) 2 297 (0, [some (.inr (.inr (some (13, 0))))], [], S0_) (fun r_ => ∃ u_ S1_, r_ = (.inl u_, S1_, 0) ∧ vq_297 b_ n_ T_ x_ S0_ u_ S1_) := by
  have hF_ : ai_fr (sx_W vw_297) S0_ S0_ := ai_fr_rf
  have bx1_ : 0 ≤ S0_.1 13 0 10 ∧ S0_.1 13 0 10 ≤ 23 := hI_.1 13 0 10 rfl
  refine sm_T_go 2 (c1 := (4, [some (.inr (.inr (some (13, 0))))], [.inl (S0_.1 13 0 10)], S0_)) rfl ?_
  refine sm_T_b0 (a := 1) (z := 17) rfl (fun cx2_ => ?_) (fun cx2_ => ?_)
  · have cx2_ : (S0_.1 13 0 10) ≠ 0 := of_decide_eq_true cx2_
    refine sm_T_rv rfl ⟨_, _, rfl, rfl, hI_, hF_, ?_⟩
    first | (obtain ⟨e_, rfl⟩ := rg_w hx_ (by omega); exact ⟨rg_e hx_ rfl rfl, fun p_ e_ hp_ _ => (by cases hp_)⟩) | (by_cases z_ : lx_kd b_ n_ (lx_nx b_ n_ p_) = -1; (have w_ : p_ad b_ n_ p_ = .inl (1, lx_nx b_ n_ p_) := if_pos z_; rcases e18_ with v_ | v_; (refine ⟨?_, fun p9_ e9_ hp9_ _ => ?_⟩; (rw [pb_r rfl, w_]; exact ⟨v_.2.1, v_.2.2.trans nx1_.2.1, by show (1 : Int) ≠ 0; decide⟩); (rw [s18_, show (_ : Int).toNat = i_ + 1 from (by rw [f18_]; omega)]; exact v_.1)); (exact absurd (nx1_.2.2.1.mpr z_) v_.1)); (have w_ : p_ad b_ n_ p_ = .inr (lx_nx b_ n_ p_) := if_neg z_; rcases e18_ with v_ | v_; (exact absurd (nx1_.2.2.1.mp v_.1) z_); (refine ⟨?_, fun p9_ e9_ hp9_ h9_ => ?_⟩; (rw [pb_r rfl, w_]; exact ⟨v_.2, i_ + 1, by rw [f18_]; push_cast; omega, nx1_.2.2.2 z_⟩); (cases hp9_; rw [w_] at h9_; cases h9_))))
  · have cx2_ : ¬ ((S0_.1 13 0 10) ≠ 0) := of_decide_eq_false cx2_
    obtain ⟨p_, i_, rfl, e1_, e2_⟩ := rg_r hx_ (by omega)
    have nx1_ := rp_nx ht_ e2_ (hk_ p_ rfl)
    have hT_ := ht_.2.1
    have bx3_ : 0 ≤ S0_.1 13 0 9 ∧ S0_.1 13 0 9 ≤ 1280 := hI_.1 13 0 9 rfl
    refine sm_T_go 4 (c1 := (13, [some (.inr (.inr (some (13, 0))))], [.inl 1, .inl (S0_.1 13 0 9), .inr (.inr (some (13, 0)))], S0_)) rfl ?_
    refine sm_T_bin (w := (S0_.1 13 0 9) + 1) rfl (bi_add (by omega) (by omega) (by omega)) ?_
    have hIx4_ : gi (sm_pI S0_ 13 0 9 ((S0_.1 13 0 9) + 1)) := gi_pI hI_ (show 0 ≤ (S0_.1 13 0 9) + 1 ∧ (S0_.1 13 0 9) + 1 ≤ 1280 from ⟨by omega, by omega⟩)
    have hFx5_ : ai_fr (sx_W vw_297) S0_ (sm_pI S0_ 13 0 9 ((S0_.1 13 0 9) + 1)) := ai_fr_tr hF_ (ai_fr_pI rfl)
    refine sm_T_go 2 (c1 := (18, [some (.inr (.inr (some (13, 0))))], [.inr (.inr (some (13, 0)))], sm_pI S0_ 13 0 9 ((S0_.1 13 0 9) + 1))) rfl ?_
    refine sm_T_cal (d1 := 1) (Q1 := vq_298  (sm_pI S0_ 13 0 9 ((S0_.1 13 0 9) + 1))) rfl rfl (by decide) (vc_298  (sm_pI S0_ 13 0 9 ((S0_.1 13 0 9) + 1)) hIx4_ ) (fun u_ Sx6_ px9_ => ?_)
    obtain ⟨rfl, hIx7_, hFx8_, px9_⟩ := px9_
    have hFx10_ : ai_fr (sx_W vw_297) S0_ Sx6_ := ai_fr_tr hFx5_ (fr_le hFx8_ rfl)
    have e18_ := px9_.2 (by show S0_.1 13 0 10 = 0; omega)
    have f18_ := hFx8_.1 13 0 9 rfl
    rw [show ((sm_pI S0_ 13 0 9 (S0_.1 13 0 9 + 1)).1 13 0 9) = S0_.1 13 0 9 + 1 from rfl] at e18_ f18_
    rw [show (S0_.1 13 0 9 + 1).toNat = i_ + 1 by omega] at e18_
    have s18_ := fr_arr (t := 119) (i := 0) hFx8_ rfl
    refine sm_T_rv rfl ⟨_, _, rfl, rfl, hIx7_, hFx10_, ?_⟩
    first | (obtain ⟨e_, rfl⟩ := rg_w hx_ (by omega); exact ⟨rg_e hx_ rfl rfl, fun p_ e_ hp_ _ => (by cases hp_)⟩) | (by_cases z_ : lx_kd b_ n_ (lx_nx b_ n_ p_) = -1; (have w_ : p_ad b_ n_ p_ = .inl (1, lx_nx b_ n_ p_) := if_pos z_; rcases e18_ with v_ | v_; (refine ⟨?_, fun p9_ e9_ hp9_ _ => ?_⟩; (rw [pb_r rfl, w_]; exact ⟨v_.2.1, v_.2.2.trans nx1_.2.1, by show (1 : Int) ≠ 0; decide⟩); (rw [s18_, show (_ : Int).toNat = i_ + 1 from (by rw [f18_]; omega)]; exact v_.1)); (exact absurd (nx1_.2.2.1.mpr z_) v_.1)); (have w_ : p_ad b_ n_ p_ = .inr (lx_nx b_ n_ p_) := if_neg z_; rcases e18_ with v_ | v_; (exact absurd (nx1_.2.2.1.mp v_.1) z_); (refine ⟨?_, fun p9_ e9_ hp9_ h9_ => ?_⟩; (rw [pb_r rfl, w_]; exact ⟨v_.2, i_ + 1, by rw [f18_]; push_cast; omega, nx1_.2.2.2 z_⟩); (cases hp9_; rw [w_] at h9_; cases h9_))))
