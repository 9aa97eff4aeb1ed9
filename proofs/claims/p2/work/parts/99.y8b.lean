/-! M_.open -/
def vw_318 : sx_Wl := ([(13, 9), (13, 10), (13, 11), (13, 32), (13, 33)], [136, 137], [])
def vq_318 (s_ : Int) (b_ : Nat → Int) (n_ : Nat) (T_ : Nat) (mo_ : Int) (p_ : Nat) (i_ : Nat) (k_ : Nat) (w_ : List (Int × Int)) (S0_ : sm_S) (u_ : Option sm_V) (S1_ : sm_S) : Prop := u_ = none ∧ gi S1_ ∧ ai_fr (sx_W vw_318) S0_ S1_ ∧ ((k_ = 60 → rwr mo_ (3, p_) S1_) ∧ (k_ ≠ 60 → (∀ e_, p_ad b_ n_ p_ = .inl e_ → rwr mo_ e_ S1_) ∧ (∀ r_, p_ad b_ n_ p_ = .inr r_ → rg b_ n_ T_ (.inr r_) S1_ ∧ ws ((s_, (i_ : Int)) :: w_) S1_ ∧ (S1_.1 13 0 33) = (k_ : Int) + 1)))
set_option maxHeartbeats 400000 in
theorem vc_318 {sc_ : Nat × (Nat → Int)} (s_ : Int) (b_ : Nat → Int) (n_ : Nat) (T_ : Nat) (mo_ : Int) (p_ : Nat) (i_ : Nat) (k_ : Nat) (w_ : List (Int × Int)) (S0_ : sm_S) (hI_ : gi S0_) (ht_ : rtab b_ n_ T_ S0_) (hf_ : (S0_.1 13 0 10) = 0) (hi_ : (S0_.1 13 0 9) = (i_ : Int) ∧ rp b_ n_ T_ i_ p_) (hk_ : lx_kd b_ n_ p_ ≠ 0) (hw_ : ws w_ S0_) (hwl_ : w_.length ≤ 790) (ho_ : (S0_.1 13 0 33) = (k_ : Int) ∧ k_ ≤ 60) (hs_ : 0 ≤ s_ ∧ s_ ≤ 1000) (hmo_ : (S0_.1 13 0 27) = mo_) : sm_T (mt_P sc_) 3 318 (0, [some (.inr (.inr (some (13, 0)))), some (.inl s_)], [], S0_) (fun r_ => ∃ u_ S1_, r_ = (.inl u_, S1_, 0) ∧ vq_318 s_ b_ n_ T_ mo_ p_ i_ k_ w_ S0_ u_ S1_) := by
  have hF_ : ai_fr (sx_W vw_318) S0_ S0_ := ai_fr_rf
  have ra_ := rp_at ht_ hi_.2
  have rk_ := r_st_3 (lx_kd_r hi_.2.2.2.1)
  have hT_ := ht_.2.1
  have hi9_ := hi_.2.1
  have e4_ : (S0_.1 13 0 9).toNat = i_ := by omega
  have hx_ : rg b_ n_ T_ (.inr p_) S0_ := ⟨hf_, i_, hi_.1, hi_.2⟩
  have hww_ := hw_.1
  have bx1_ : 0 ≤ S0_.1 13 0 33 ∧ S0_.1 13 0 33 ≤ 60 := hI_.1 13 0 33 rfl
  refine sm_T_go 3 (c1 := (6, [some (.inr (.inr (some (13, 0)))), some (.inl s_)], [.inl 60, .inl (S0_.1 13 0 33)], S0_)) rfl ?_
  refine sm_T_br (a := 1) (z := 13) rfl (fun cx2_ => ?_) (fun cx2_ => ?_)
  · have cx2_ : (S0_.1 13 0 33) ≠ 60 := of_decide_eq_true cx2_
    refine sm_T_go 4 (c1 := (25, [some (.inr (.inr (some (13, 0)))), some (.inl s_)], [.inl 1, .inl (S0_.1 13 0 33), .inr (.inr (some (13, 0)))], S0_)) rfl ?_
    refine sm_T_bin (w := (S0_.1 13 0 33) + 1) rfl (bi_add (by omega) (by omega) (by omega)) ?_
    have hIx3_ : gi (sm_pI S0_ 13 0 33 ((S0_.1 13 0 33) + 1)) := gi_pI hI_ (show 0 ≤ (S0_.1 13 0 33) + 1 ∧ (S0_.1 13 0 33) + 1 ≤ 60 from ⟨by omega, by omega⟩)
    have hFx4_ : ai_fr (sx_W vw_318) S0_ (sm_pI S0_ 13 0 33 ((S0_.1 13 0 33) + 1)) := ai_fr_tr hF_ (ai_fr_pI rfl)
    have bx5_ : 0 ≤ S0_.1 13 0 9 ∧ S0_.1 13 0 9 ≤ 1280 := hI_.1 13 0 9 rfl
    refine sm_T_go 5 (c1 := (35, [some (.inr (.inr (some (13, 0)))), some (.inl s_)], [.inl (S0_.1 13 0 9), .inl s_, .inr (.inr (some (13, 0)))], sm_pI S0_ 13 0 33 ((S0_.1 13 0 33) + 1))) rfl ?_
    refine sm_T_cal (d1 := 0) (Q1 := vq_311 s_ (S0_.1 13 0 9) w_ (sm_pI S0_ 13 0 33 ((S0_.1 13 0 33) + 1))) rfl rfl (by decide) (vc_311 s_ (S0_.1 13 0 9) w_ (sm_pI S0_ 13 0 33 ((S0_.1 13 0 33) + 1)) hIx3_ (by exact hw_) (by omega) (by omega) (by exact hs_)) (fun u_ Sx6_ px9_ => ?_)
    obtain ⟨rfl, hIx7_, hFx8_, px9_⟩ := px9_
    have hFx10_ : ai_fr (sx_W vw_318) S0_ Sx6_ := ai_fr_tr hFx4_ (fr_le hFx8_ rfl)
    have e35_ := px9_
    have ht2_ := rtab_fr (rtab_fr (w_ := ([(13, 33)], [], [])) ht_ (ai_fr_pI rfl) rfl rfl rfl rfl rfl) hFx8_ rfl rfl rfl rfl rfl
    have hx2_ : rg b_ n_ T_ (.inr p_) Sx6_ := rg_fr (show rg b_ n_ T_ (.inr p_) (sm_pI S0_ 13 0 33 (S0_.1 13 0 33 + 1)) from hx_) hFx8_ rfl rfl rfl
    have m35_ : Sx6_.1 13 0 27 = mo_ := (hFx8_.1 13 0 27 rfl).trans hmo_
    have o35_ : Sx6_.1 13 0 33 = (k_ : Int) + 1 := (hFx8_.1 13 0 33 rfl).trans (by show S0_.1 13 0 33 + 1 = _; omega)
    refine sm_T_go 1 (c1 := (39, [some (.inr (.inr (some (13, 0)))), some (.inl s_)], [.inr (.inr (some (13, 0)))], Sx6_)) rfl ?_
    refine sm_T_cal (d1 := 2) (Q1 := vq_297 b_ n_ T_ (.inr p_) Sx6_) rfl rfl (by decide) (vc_297 b_ n_ T_ (.inr p_) Sx6_ hIx7_ (by exact ht2_) (by exact hx2_) (by (intro q_ e_; cases e_; exact hk_))) (fun u_ Sx11_ px14_ => ?_)
    obtain ⟨rfl, hIx12_, hFx13_, px14_⟩ := px14_
    have hFx15_ : ai_fr (sx_W vw_318) S0_ Sx11_ := ai_fr_tr hFx10_ (fr_le hFx13_ rfl)
    have e39_ := px14_.1
    have w39_ := ws_fr e35_ hFx13_ rfl rfl rfl
    have o39_ := (hFx13_.1 13 0 33 rfl).trans o35_
    have wl39_ := w39_.1
    have m39_ := (hFx13_.1 13 0 27 rfl).trans m35_
    rw [pb_r rfl] at e39_
    refine sm_T_rv rfl ⟨_, _, rfl, rfl, hIx12_, hFx15_, ?_⟩
    refine ⟨fun z_ => by omega, fun _ => ⟨fun e_ he_ => ?_, fun r_ hr_ => ?_⟩⟩
    · rw [he_] at e39_
      have he2_ : e_ = (1, lx_nx b_ n_ p_) := by unfold p_ad at he_; split at he_; (cases he_; rfl); (cases he_)
      subst he2_
      refine ⟨e39_.1, e39_.2.1, e39_.2.2, ?_, m39_⟩
      rw [wl39_, List.length_cons]; push_cast; omega
    · rw [hr_] at e39_
      refine ⟨e39_, ?_, o39_⟩
      rw [hi_.1] at w39_
      exact w39_
  · have cx2_ : ¬ ((S0_.1 13 0 33) ≠ 60) := of_decide_eq_false cx2_
    have bx16_ : 0 ≤ S0_.1 13 0 9 ∧ S0_.1 13 0 9 ≤ 1280 := hI_.1 13 0 9 rfl
    refine sm_T_go 4 (c1 := (15, [some (.inr (.inr (some (13, 0)))), some (.inl s_)], [.inl (S0_.1 13 0 9), .inl 3, .inr (.inr (some (13, 0)))], S0_)) rfl ?_
    refine sm_T_cal (d1 := 0) (Q1 := vq_293 3 (S0_.1 13 0 9) S0_) rfl rfl (by decide) (vc_293 3 (S0_.1 13 0 9) S0_ hI_ (by decide) (by omega)) (fun u_ Sx17_ px20_ => ?_)
    obtain ⟨rfl, hIx18_, hFx19_, px20_⟩ := px20_
    have hFx21_ : ai_fr (sx_W vw_318) S0_ Sx17_ := ai_fr_tr hF_ (fr_le hFx19_ rfl)
    have ex22_ : Sx17_.1 13 0 9 = S0_.1 13 0 9 := hFx19_.1 13 0 9 rfl
    have ex23_ : Sx17_.1 13 0 33 = S0_.1 13 0 33 := hFx19_.1 13 0 33 rfl
    have e15_ := px20_
    have m15_ := (hFx19_.1 13 0 27 rfl).trans hmo_
    have w15_ := hFx19_.1 13 0 32 rfl
    refine sm_T_rv rfl ⟨_, _, rfl, rfl, hIx18_, hFx21_, ?_⟩
    refine ⟨fun _ => ?_, fun z_ => by omega⟩
    rcases e15_ with z_ | z_
    · exact absurd hf_ z_.1
    · refine ⟨z_.2.1.trans (if_neg ?_), ?_, by show (3 : Int) ≠ 0; decide, by omega, m15_⟩
      · rw [e4_, ra_.1]; exact rk_.2.2.2.2.2
      · rw [z_.2.2, e4_]; exact ra_.2.1
