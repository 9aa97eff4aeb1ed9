/-! M_.operand -/
def vw_319 : sx_Wl := ([(13, 9), (13, 10), (13, 11), (13, 32), (13, 33), (13, 34)], [136, 137, 138, 139], [])
def vq_319 (b_ : Nat → Int) (n_ : Nat) (T_ : Nat) (mo_ : Int) (t_ : Bool) (p_ : Nat) (o_ : List (Int × Nat)) (g_ : List Int) (c_ : List Int) (A_ : pA) (M_ : Nat) (K_ : Nat) (f_ : Nat → Nat) (S0_ : sm_S) (u_ : Option sm_V) (S1_ : sm_S) : Prop := ∃ v_ : Int, u_ = some (.inl v_) ∧ gi S1_ ∧ ai_fr (sx_W vw_319) S0_ S1_ ∧ ((∀ e_, p_st b_ n_ (mdo mo_) (p_pm b_ n_ (mdo mo_) A_ M_ K_ f_) (0, t_, p_, o_, g_, c_) = .inl e_ → rwr mo_ e_ S1_) ∧ ∀ y_, p_st b_ n_ (mdo mo_) (p_pm b_ n_ (mdo mo_) A_ M_ K_ f_) (0, t_, p_, o_, g_, c_) = .inr (.inl y_) → rx b_ n_ T_ mo_ y_.2.1 y_.1 y_.2.2.1 y_.2.2.2.1 y_.2.2.2.2.1 S1_ ∧ v_ = (y_.1 : Int))
set_option maxHeartbeats 3000000 in
theorem vc_319 {sc_ : Nat × (Nat → Int)} (b_ : Nat → Int) (n_ : Nat) (T_ : Nat) (mo_ : Int) (t_ : Bool) (p_ : Nat) (o_ : List (Int × Nat)) (g_ : List Int) (c_ : List Int) (A_ : pA) (M_ : Nat) (K_ : Nat) (f_ : Nat → Nat) (S0_ : sm_S) (hI_ : gi S0_) (ht_ : rtab b_ n_ T_ S0_) (hx_ : rx b_ n_ T_ mo_ t_ 0 p_ o_ g_ S0_) (hok_ : x_ok b_ n_ (mdo mo_) (0, t_, p_, o_, g_, c_)) (hmo_ : mo_ = 0 ∨ mo_ = 2) (hen_ : r_en b_ n_ T_ mo_ A_ M_ K_ f_ S0_) (hprk : pr_ok b_ n_ (p_pm b_ n_ (mdo mo_) A_ M_ K_ f_)) : sm_T (mt_P sc_) 6 319 (0, [some (.inr (.inr (some (13, 0))))], [], S0_) (fun r_ => ∃ u_ S1_, r_ = (.inl u_, S1_, 0) ∧ vq_319 b_ n_ T_ mo_ t_ p_ o_ g_ c_ A_ M_ K_ f_ S0_ u_ S1_) := by
  have hF_ : ai_fr (sx_W vw_319) S0_ S0_ := ai_fr_rf
  obtain ⟨hg_, ⟨w0_, hw_, hwt_⟩, hop_, hv_, hmo1_⟩ := id hx_
  have hwt_ : wt b_ n_ T_ t_ o_ w0_ := by rcases hwt_ with z_ | z_; (exact z_.2); (exact absurd z_.1 (by decide))
  obtain ⟨i_, hi1_, hi2_⟩ := id hg_.2
  have hf_ := hg_.1
  have hT_ := ht_.2.1
  have hi9_ := hi2_.1
  have ra_ := rp_at ht_ hi2_
  have rk_ := r_st_3 (lx_kd_r hi2_.2.2.1)
  have e4_ : (S0_.1 13 0 9).toNat = i_ := by omega
  have so4_ : S0_.2.2.1 119 0 (S0_.1 13 0 9).toNat = r_st (lx_kd b_ n_ p_) := by rw [e4_]; exact ra_.1
  have pl4_ : S0_.2.2.1 120 0 (S0_.1 13 0 9).toNat = (p_ : Int) := by rw [e4_]; exact ra_.2.1
  have lim_ := o_lim hok_.2.1.1 hok_.2.1.2.1
  have lim1_ : o_.length ≤ 365 := lim_.1
  have wlen : w0_.length ≤ 731 := by rcases hwt_ with z_ | ⟨u_, z1_, z2_⟩; (have := wl_len z_.2; omega); (have := wl_len z2_; rw [z1_, List.length_cons]; omega)
  have hww_ := hw_.1
  have tp_ := wt_tp hwt_ hok_.2.1.1
  have gl1_ : g_.length = o_hl o_ + 0 := hok_.2.1.2.2.1
  have gl2_ : o_hl o_ ≤ 425 := lim_.2
  have hn1_ := ht_.1
  refine sm_T_go 2 (c1 := (3, [some (.inr (.inr (some (13, 0))))], [.inl 33, .inr (.inr (some (13, 0)))], S0_)) rfl ?_
  refine sm_T_cal (d1 := 0) (Q1 := vq_295 33 b_ n_ T_ (.inr p_) S0_) rfl rfl (by decide) (vc_295 33 b_ n_ T_ (.inr p_) S0_ hI_ (by exact ht_) (by exact hg_) (by decide)) (fun u_ Sx1_ px4_ => ?_)
  obtain ⟨rfl, vx6_, rfl, px4_⟩ := px4_
  have e3_ := px4_.2 p_ rfl
  have r3_ := px4_.1.1
  refine sm_T_b0 (a := 0) (z := 43) rfl (fun cx7_ => ?_) (fun cx7_ => ?_)
  · have cx7_ : vx6_ = 0 := of_decide_eq_true cx7_
    refine sm_T_go 2 (c1 := (52, [some (.inr (.inr (some (13, 0))))], [.inl 40, .inr (.inr (some (13, 0)))], S0_)) rfl ?_
    refine sm_T_cal (d1 := 0) (Q1 := vq_295 40 b_ n_ T_ (.inr p_) S0_) rfl rfl (by decide) (vc_295 40 b_ n_ T_ (.inr p_) S0_ hI_ (by exact ht_) (by exact hg_) (by decide)) (fun u_ Sx8_ px11_ => ?_)
    obtain ⟨rfl, vx13_, rfl, px11_⟩ := px11_
    have e52_ := px11_.2 p_ rfl
    have r52_ := px11_.1.1
    have n33_ : lx_kd b_ n_ p_ ≠ 33 := fun z_ => by have := e3_.mpr z_; omega
    refine sm_T_b0 (a := 0) (z := 11) rfl (fun cx14_ => ?_) (fun cx14_ => ?_)
    · have cx14_ : vx13_ = 0 := of_decide_eq_true cx14_
      have n40_ : lx_kd b_ n_ p_ ≠ 40 := fun z_ => by have := e52_.mpr z_; omega
      have bx15_ : 0 ≤ S0_.1 13 0 27 ∧ S0_.1 13 0 27 ≤ 2 := hI_.1 13 0 27 rfl
      refine sm_T_go 3 (c1 := (71, [some (.inr (.inr (some (13, 0))))], [.inl 2, .inl (S0_.1 13 0 27)], S0_)) rfl ?_
      refine sm_T_br (a := 1) (z := 10) rfl (fun cx16_ => ?_) (fun cx16_ => ?_)
      · have cx16_ : (S0_.1 13 0 27) ≠ 2 := of_decide_eq_true cx16_
        have bx17_ : 0 ≤ S0_.1 13 0 9 ∧ S0_.1 13 0 9 ≤ 1280 := hI_.1 13 0 9 rfl
        refine sm_T_go 4 (c1 := (89, [some (.inr (.inr (some (13, 0))))], [.inl (S0_.1 13 0 9), .inr (.inr (some (119, 0)))], S0_)) rfl ?_
        refine sm_T_bald (n := 65537) rfl rfl (by omega) (by omega) ?_
        have bx18_ : (-128) ≤ S0_.2.2.1 119 0 (S0_.1 13 0 9).toNat ∧ S0_.2.2.1 119 0 (S0_.1 13 0 9).toNat ≤ 127 := hI_.2 119 0 _
        refine sm_T_go 1 (c1 := (91, [some (.inr (.inr (some (13, 0))))], [.inl 2, .inl (S0_.2.2.1 119 0 (S0_.1 13 0 9).toNat)], S0_)) rfl ?_
        refine sm_T_br (a := 1) (z := 10) rfl (fun cx19_ => ?_) (fun cx19_ => ?_)
        · have cx19_ : (S0_.2.2.1 119 0 (S0_.1 13 0 9).toNat) ≠ 2 := of_decide_eq_true cx19_
          refine sm_T_go 4 (c1 := (109, [some (.inr (.inr (some (13, 0))))], [.inl (S0_.1 13 0 9), .inr (.inr (some (119, 0)))], S0_)) rfl ?_
          refine sm_T_bald (n := 65537) rfl rfl (by omega) (by omega) ?_
          refine sm_T_go 1 (c1 := (111, [some (.inr (.inr (some (13, 0))))], [.inl 1, .inl (S0_.2.2.1 119 0 (S0_.1 13 0 9).toNat)], S0_)) rfl ?_
          refine sm_T_br (a := 1) (z := 10) rfl (fun cx20_ => ?_) (fun cx20_ => ?_)
          · have cx20_ : (S0_.2.2.1 119 0 (S0_.1 13 0 9).toNat) ≠ 1 := of_decide_eq_true cx20_
            refine sm_T_go 4 (c1 := (127, [some (.inr (.inr (some (13, 0))))], [.inl (S0_.1 13 0 9), .inl 2, .inr (.inr (some (13, 0)))], S0_)) rfl ?_
            refine sm_T_cal (d1 := 0) (Q1 := vq_293 2 (S0_.1 13 0 9) S0_) rfl rfl (by decide) (vc_293 2 (S0_.1 13 0 9) S0_ hI_ (by decide) (by omega)) (fun u_ Sx21_ px24_ => ?_)
            obtain ⟨rfl, hIx22_, hFx23_, px24_⟩ := px24_
            have hFx25_ : ai_fr (sx_W vw_319) S0_ Sx21_ := ai_fr_tr hF_ (fr_le hFx23_ rfl)
            have ex26_ : Sx21_.1 13 0 27 = S0_.1 13 0 27 := hFx23_.1 13 0 27 rfl
            have ex27_ : Sx21_.1 13 0 9 = S0_.1 13 0 9 := hFx23_.1 13 0 9 rfl
            have m2_ : mo_ ≠ 2 := by omega
            have pe_ : (p_pm b_ n_ (mdo mo_) A_ M_ K_ f_) p_ = .inl (2, p_) := by unfold p_pm mdo; rw [if_neg (by rw [decide_eq_false m2_]; decide)]; unfold p_pd; rw [if_neg (fun z_ => by have := rk_.2.2.1.mpr z_; omega), if_neg (fun z_ => by have := rk_.2.1.mpr z_; omega)]
            have gq_ : rg b_ n_ T_ (pb ((p_pm b_ n_ (mdo mo_) A_ M_ K_ f_) p_) fun r_ => .inr r_.1) Sx21_ := by rw [pe_]; rcases px24_ with z_ | z_; (exact absurd hf_ z_.1); (exact ⟨z_.2.1.trans (if_neg (by rw [so4_]; exact rk_.2.2.2.2.2)), z_.2.2.trans pl4_, by show (2 : Int) ≠ 0; decide⟩)
            have ws9_ := ws_fr hw_ hFx23_ rfl rfl rfl
            have op9_ := (hFx23_.1 13 0 33 rfl).trans hop_
            have vl9_ := (hFx23_.1 13 0 34 rfl).trans hv_.1
            have wt9_ : Sx21_.1 13 0 32 ≤ 800 := by rw [hFx23_.1 13 0 32 rfl, hww_]; omega
            have mo9_ := (hFx23_.1 13 0 27 rfl).trans hmo1_
            have vq_ : ∀ r_, (p_pm b_ n_ (mdo mo_) A_ M_ K_ f_) p_ = .inr r_ → (mo_ ≠ 2 → stk (Sx21_.2.2.1 138 0) (r_.2.1 :: g_)) ∧ (mo_ = 2 → stk (fun j_ => Sx21_.2.2.1 139 0 (8 * j_)) (r_.2.1 :: g_)) := fun r_ hr_ => by rw [pe_] at hr_; cases hr_
            refine sm_T_go 1 (c1 := (131, [some (.inr (.inr (some (13, 0))))], [.inr (.inr (some (13, 0)))], Sx21_)) rfl ?_
            refine sm_T_cal (d1 := 0) (Q1 := vq_292  Sx21_) rfl rfl (by decide) (vc_292  Sx21_ hIx22_ ) (fun u_ Sx28_ px31_ => ?_)
            obtain ⟨rfl, vx33_, rfl, px31_⟩ := px31_
            have e131_ := px31_
            refine sm_T_b0 (a := 0) (z := 17) rfl (fun cx34_ => ?_) (fun cx34_ => ?_)
            · have cx34_ : vx33_ = 0 := of_decide_eq_true cx34_
              have hz_ := wr_if e131_ (by omega)
              refine sm_T_go 1 (c1 := (152, [some (.inr (.inr (some (13, 0))))], [.inr (.inr (some (13, 0)))], Sx21_)) rfl ?_
              refine sm_T_cal (d1 := 0) (Q1 := vq_292  Sx21_) rfl rfl (by decide) (vc_292  Sx21_ hIx22_ ) (fun u_ Sx35_ px38_ => ?_)
              obtain ⟨rfl, vx40_, rfl, px38_⟩ := px38_
              have e152_ := px38_
              refine sm_T_rz rfl (by (rw [e152_]; split; (right; rfl); (left; rfl))) ⟨_, _, rfl, _, rfl, hIx22_, hFx25_, ?_⟩
              first | (refine ⟨fun e_ he_ => ?_, fun y_ hy_ => ?_⟩; (rw [pA_p n33_ n40_, hpr_] at he_; cases he_); (rw [pA_p n33_ n40_, hpr_] at hy_; cases hy_; exact ⟨⟨g148_, ⟨w1_, ws148_, Or.inr ⟨rfl, wl148_⟩⟩, op148_, v148_, mo148_⟩, by rw [e152_, if_pos g148_.1]; rfl⟩)) | (cases hq_ : (p_pm b_ n_ (mdo mo_) A_ M_ K_ f_) p_ with | inr r_ => (exfalso; rw [hq_] at gq_; exact hz_ gq_.1) | inl e2_ => (rw [hq_] at gq_; refine ⟨fun e_ he_ => ?_, fun y_ hy_ => ?_⟩; (rw [pA_p n33_ n40_, hq_] at he_; cases he_; exact ⟨gq_.1, gq_.2.1, gq_.2.2, wt9_, mo9_⟩); (rw [pA_p n33_ n40_, hq_] at hy_; cases hy_)))
            · have cx34_ : ¬ (vx33_ = 0) := of_decide_eq_false cx34_
              have hz_ := rt_if e131_ (by omega)
              obtain ⟨r_, hpr_⟩ : ∃ r_, (p_pm b_ n_ (mdo mo_) A_ M_ K_ f_) p_ = .inr r_ := by cases hq_ : (p_pm b_ n_ (mdo mo_) A_ M_ K_ f_) p_ with | inl e_ => (exfalso; rw [hq_] at gq_; exact gq_.2.2 (gq_.1.symm.trans hz_)) | inr r_ => exact ⟨r_, rfl⟩
              rw [hpr_] at gq_
              have rb := hprk p_ r_ hok_.2.2.1 hok_.2.2.2.1 hpr_
              have bx41_ : 0 ≤ Sx21_.1 13 0 34 ∧ Sx21_.1 13 0 34 ≤ 1023 := hIx22_.1 13 0 34 rfl
              refine sm_T_go 4 (c1 := (143, [some (.inr (.inr (some (13, 0))))], [.inl 1, .inl (Sx21_.1 13 0 34), .inr (.inr (some (13, 0)))], Sx21_)) rfl ?_
              refine sm_T_bin (w := (Sx21_.1 13 0 34) + 1) rfl (bi_add (by omega) (by omega) (by omega)) ?_
              have hIx42_ : gi (sm_pI Sx21_ 13 0 34 ((Sx21_.1 13 0 34) + 1)) := gi_pI hIx22_ (show 0 ≤ (Sx21_.1 13 0 34) + 1 ∧ (Sx21_.1 13 0 34) + 1 ≤ 1023 from ⟨by omega, by omega⟩)
              have hFx43_ : ai_fr (sx_W vw_319) S0_ (sm_pI Sx21_ 13 0 34 ((Sx21_.1 13 0 34) + 1)) := ai_fr_tr hFx25_ (ai_fr_pI rfl)
              refine sm_T_go 2 (c1 := (148, [some (.inr (.inr (some (13, 0))))], [.inr (.inr (some (13, 0)))], sm_pI Sx21_ 13 0 34 ((Sx21_.1 13 0 34) + 1))) rfl ?_
              refine sm_T_cal (d1 := 1) (Q1 := vq_317 b_ n_ T_ mo_ t_ o_ r_.2.1 g_ (r_.2.2 ++ c_) w0_ (sm_pI Sx21_ 13 0 34 ((Sx21_.1 13 0 34) + 1))) rfl rfl (by decide) (vc_317 b_ n_ T_ mo_ t_ o_ r_.2.1 g_ (r_.2.2 ++ c_) w0_ (sm_pI Sx21_ 13 0 34 ((Sx21_.1 13 0 34) + 1)) hIx42_ (by exact ws9_) (by exact hwt_) (by exact hok_.2.1.1) (by exact vs_pu (by show _ + 1 = _; omega) (vq_ r_ hpr_).1 (vq_ r_ hpr_).2) (by exact mo9_) (by omega) (by exact rb.2.2.2.1)) (fun u_ Sx44_ px47_ => ?_)
              obtain ⟨rfl, hIx45_, hFx46_, px47_⟩ := px47_
              have hFx48_ : ai_fr (sx_W vw_319) S0_ Sx44_ := ai_fr_tr hFx43_ (fr_le hFx46_ rfl)
              obtain ⟨w1_, ws148_, wl148_, v148_⟩ := px47_
              have g148_ := rg_fr (b_ := b_) (n_ := n_) (T_ := T_) (x_ := .inr r_.1) (S_ := (sm_pI Sx21_ 13 0 34 ((Sx21_.1 13 0 34) + 1))) gq_ hFx46_ rfl rfl rfl
              have op148_ := (hFx46_.1 13 0 33 rfl).trans op9_
              have mo148_ := (hFx46_.1 13 0 27 rfl).trans mo9_
              refine sm_T_go 1 (c1 := (152, [some (.inr (.inr (some (13, 0))))], [.inr (.inr (some (13, 0)))], Sx44_)) rfl ?_
              refine sm_T_cal (d1 := 0) (Q1 := vq_292  Sx44_) rfl rfl (by decide) (vc_292  Sx44_ hIx45_ ) (fun u_ Sx49_ px52_ => ?_)
              obtain ⟨rfl, vx54_, rfl, px52_⟩ := px52_
              have e152_ := px52_
              refine sm_T_rz rfl (by (rw [e152_]; split; (right; rfl); (left; rfl))) ⟨_, _, rfl, _, rfl, hIx45_, hFx48_, ?_⟩
              first | (refine ⟨fun e_ he_ => ?_, fun y_ hy_ => ?_⟩; (rw [pA_p n33_ n40_, hpr_] at he_; cases he_); (rw [pA_p n33_ n40_, hpr_] at hy_; cases hy_; exact ⟨⟨g148_, ⟨w1_, ws148_, Or.inr ⟨rfl, wl148_⟩⟩, op148_, v148_, mo148_⟩, by rw [e152_, if_pos g148_.1]; rfl⟩)) | (cases hq_ : (p_pm b_ n_ (mdo mo_) A_ M_ K_ f_) p_ with | inr r_ => (exfalso; rw [hq_] at gq_; exact hz_ gq_.1) | inl e2_ => (rw [hq_] at gq_; refine ⟨fun e_ he_ => ?_, fun y_ hy_ => ?_⟩; (rw [pA_p n33_ n40_, hq_] at he_; cases he_; exact ⟨gq_.1, gq_.2.1, gq_.2.2, wt9_, mo9_⟩); (rw [pA_p n33_ n40_, hq_] at hy_; cases hy_)))
          · have cx20_ : ¬ ((S0_.2.2.1 119 0 (S0_.1 13 0 9).toNat) ≠ 1) := of_decide_eq_false cx20_
            refine sm_T_go 1 (c1 := (115, [some (.inr (.inr (some (13, 0))))], [.inr (.inr (some (13, 0)))], S0_)) rfl ?_
            refine sm_T_cal (d1 := 5) (Q1 := vq_324 b_ n_ T_ mo_ p_ i_ g_.length A_ M_ S0_) rfl rfl (by decide) (vc_324 b_ n_ T_ mo_ p_ i_ g_.length A_ M_ S0_ hI_ (by exact ht_) (by exact hf_) (by exact ⟨hi1_, hi2_⟩) (by exact ⟨hv_.1, by omega⟩) (by exact hmo1_) (by omega) (by exact (hen_.1 (by omega)).1) (by exact (hen_.1 (by omega)).2.1) (by exact (hen_.1 (by omega)).2.2) (by exact rk_.2.1.mp (by omega)) (by omega)) (fun u_ Sx55_ px58_ => ?_)
            obtain ⟨rfl, hIx56_, hFx57_, px58_⟩ := px58_
            have hFx59_ : ai_fr (sx_W vw_319) S0_ Sx55_ := ai_fr_tr hF_ (fr_le hFx57_ rfl)
            have ex60_ : Sx55_.1 13 0 27 = S0_.1 13 0 27 := hFx57_.1 13 0 27 rfl
            have m2_ : mo_ ≠ 2 := by omega
            have kk_ : lx_kd b_ n_ p_ = 1 := rk_.2.1.mp (by omega)
            have pe_ : (p_pm b_ n_ (mdo mo_) A_ M_ K_ f_) p_ = p_na b_ n_ A_ M_ p_ := by unfold p_pm mdo; rw [if_neg (by rw [decide_eq_false m2_]; decide)]; unfold p_pd; rw [if_neg (by omega), if_pos kk_]
            have gq_ : rg b_ n_ T_ (pb ((p_pm b_ n_ (mdo mo_) A_ M_ K_ f_) p_) fun r_ => .inr r_.1) Sx55_ := by rw [pe_]; exact px58_.1
            have ws9_ := ws_fr hw_ hFx57_ rfl rfl rfl
            have op9_ := (hFx57_.1 13 0 33 rfl).trans hop_
            have vl9_ := (hFx57_.1 13 0 34 rfl).trans hv_.1
            have wt9_ : Sx55_.1 13 0 32 ≤ 800 := by rw [hFx57_.1 13 0 32 rfl, hww_]; omega
            have mo9_ := (hFx57_.1 13 0 27 rfl).trans hmo1_
            have vq_ : ∀ r_, (p_pm b_ n_ (mdo mo_) A_ M_ K_ f_) p_ = .inr r_ → (mo_ ≠ 2 → stk (Sx55_.2.2.1 138 0) (r_.2.1 :: g_)) ∧ (mo_ = 2 → stk (fun j_ => Sx55_.2.2.1 139 0 (8 * j_)) (r_.2.1 :: g_)) := fun r_ hr_ => ⟨fun _ => px58_.2 r_ (pe_.symm.trans hr_) g_ rfl (hv_.2.1 m2_), fun z_ => absurd z_ m2_⟩
            refine sm_T_go 2 (c1 := (131, [some (.inr (.inr (some (13, 0))))], [.inr (.inr (some (13, 0)))], Sx55_)) rfl ?_
            refine sm_T_cal (d1 := 0) (Q1 := vq_292  Sx55_) rfl rfl (by decide) (vc_292  Sx55_ hIx56_ ) (fun u_ Sx61_ px64_ => ?_)
            obtain ⟨rfl, vx66_, rfl, px64_⟩ := px64_
            have e131_ := px64_
            refine sm_T_b0 (a := 0) (z := 17) rfl (fun cx67_ => ?_) (fun cx67_ => ?_)
            · have cx67_ : vx66_ = 0 := of_decide_eq_true cx67_
              have hz_ := wr_if e131_ (by omega)
              refine sm_T_go 1 (c1 := (152, [some (.inr (.inr (some (13, 0))))], [.inr (.inr (some (13, 0)))], Sx55_)) rfl ?_
              refine sm_T_cal (d1 := 0) (Q1 := vq_292  Sx55_) rfl rfl (by decide) (vc_292  Sx55_ hIx56_ ) (fun u_ Sx68_ px71_ => ?_)
              obtain ⟨rfl, vx73_, rfl, px71_⟩ := px71_
              have e152_ := px71_
              refine sm_T_rz rfl (by (rw [e152_]; split; (right; rfl); (left; rfl))) ⟨_, _, rfl, _, rfl, hIx56_, hFx59_, ?_⟩
              first | (refine ⟨fun e_ he_ => ?_, fun y_ hy_ => ?_⟩; (rw [pA_p n33_ n40_, hpr_] at he_; cases he_); (rw [pA_p n33_ n40_, hpr_] at hy_; cases hy_; exact ⟨⟨g148_, ⟨w1_, ws148_, Or.inr ⟨rfl, wl148_⟩⟩, op148_, v148_, mo148_⟩, by rw [e152_, if_pos g148_.1]; rfl⟩)) | (cases hq_ : (p_pm b_ n_ (mdo mo_) A_ M_ K_ f_) p_ with | inr r_ => (exfalso; rw [hq_] at gq_; exact hz_ gq_.1) | inl e2_ => (rw [hq_] at gq_; refine ⟨fun e_ he_ => ?_, fun y_ hy_ => ?_⟩; (rw [pA_p n33_ n40_, hq_] at he_; cases he_; exact ⟨gq_.1, gq_.2.1, gq_.2.2, wt9_, mo9_⟩); (rw [pA_p n33_ n40_, hq_] at hy_; cases hy_)))
            · have cx67_ : ¬ (vx66_ = 0) := of_decide_eq_false cx67_
              have hz_ := rt_if e131_ (by omega)
              obtain ⟨r_, hpr_⟩ : ∃ r_, (p_pm b_ n_ (mdo mo_) A_ M_ K_ f_) p_ = .inr r_ := by cases hq_ : (p_pm b_ n_ (mdo mo_) A_ M_ K_ f_) p_ with | inl e_ => (exfalso; rw [hq_] at gq_; exact gq_.2.2 (gq_.1.symm.trans hz_)) | inr r_ => exact ⟨r_, rfl⟩
              rw [hpr_] at gq_
              have rb := hprk p_ r_ hok_.2.2.1 hok_.2.2.2.1 hpr_
              have bx74_ : 0 ≤ Sx55_.1 13 0 34 ∧ Sx55_.1 13 0 34 ≤ 1023 := hIx56_.1 13 0 34 rfl
              refine sm_T_go 4 (c1 := (143, [some (.inr (.inr (some (13, 0))))], [.inl 1, .inl (Sx55_.1 13 0 34), .inr (.inr (some (13, 0)))], Sx55_)) rfl ?_
              refine sm_T_bin (w := (Sx55_.1 13 0 34) + 1) rfl (bi_add (by omega) (by omega) (by omega)) ?_
              have hIx75_ : gi (sm_pI Sx55_ 13 0 34 ((Sx55_.1 13 0 34) + 1)) := gi_pI hIx56_ (show 0 ≤ (Sx55_.1 13 0 34) + 1 ∧ (Sx55_.1 13 0 34) + 1 ≤ 1023 from ⟨by omega, by omega⟩)
              have hFx76_ : ai_fr (sx_W vw_319) S0_ (sm_pI Sx55_ 13 0 34 ((Sx55_.1 13 0 34) + 1)) := ai_fr_tr hFx59_ (ai_fr_pI rfl)
              refine sm_T_go 2 (c1 := (148, [some (.inr (.inr (some (13, 0))))], [.inr (.inr (some (13, 0)))], sm_pI Sx55_ 13 0 34 ((Sx55_.1 13 0 34) + 1))) rfl ?_
              refine sm_T_cal (d1 := 1) (Q1 := vq_317 b_ n_ T_ mo_ t_ o_ r_.2.1 g_ (r_.2.2 ++ c_) w0_ (sm_pI Sx55_ 13 0 34 ((Sx55_.1 13 0 34) + 1))) rfl rfl (by decide) (vc_317 b_ n_ T_ mo_ t_ o_ r_.2.1 g_ (r_.2.2 ++ c_) w0_ (sm_pI Sx55_ 13 0 34 ((Sx55_.1 13 0 34) + 1)) hIx75_ (by exact ws9_) (by exact hwt_) (by exact hok_.2.1.1) (by exact vs_pu (by show _ + 1 = _; omega) (vq_ r_ hpr_).1 (vq_ r_ hpr_).2) (by exact mo9_) (by omega) (by exact rb.2.2.2.1)) (fun u_ Sx77_ px80_ => ?_)
              obtain ⟨rfl, hIx78_, hFx79_, px80_⟩ := px80_
              have hFx81_ : ai_fr (sx_W vw_319) S0_ Sx77_ := ai_fr_tr hFx76_ (fr_le hFx79_ rfl)
              obtain ⟨w1_, ws148_, wl148_, v148_⟩ := px80_
              have g148_ := rg_fr (b_ := b_) (n_ := n_) (T_ := T_) (x_ := .inr r_.1) (S_ := (sm_pI Sx55_ 13 0 34 ((Sx55_.1 13 0 34) + 1))) gq_ hFx79_ rfl rfl rfl
              have op148_ := (hFx79_.1 13 0 33 rfl).trans op9_
              have mo148_ := (hFx79_.1 13 0 27 rfl).trans mo9_
              refine sm_T_go 1 (c1 := (152, [some (.inr (.inr (some (13, 0))))], [.inr (.inr (some (13, 0)))], Sx77_)) rfl ?_
              refine sm_T_cal (d1 := 0) (Q1 := vq_292  Sx77_) rfl rfl (by decide) (vc_292  Sx77_ hIx78_ ) (fun u_ Sx82_ px85_ => ?_)
              obtain ⟨rfl, vx87_, rfl, px85_⟩ := px85_
              have e152_ := px85_
              refine sm_T_rz rfl (by (rw [e152_]; split; (right; rfl); (left; rfl))) ⟨_, _, rfl, _, rfl, hIx78_, hFx81_, ?_⟩
              first | (refine ⟨fun e_ he_ => ?_, fun y_ hy_ => ?_⟩; (rw [pA_p n33_ n40_, hpr_] at he_; cases he_); (rw [pA_p n33_ n40_, hpr_] at hy_; cases hy_; exact ⟨⟨g148_, ⟨w1_, ws148_, Or.inr ⟨rfl, wl148_⟩⟩, op148_, v148_, mo148_⟩, by rw [e152_, if_pos g148_.1]; rfl⟩)) | (cases hq_ : (p_pm b_ n_ (mdo mo_) A_ M_ K_ f_) p_ with | inr r_ => (exfalso; rw [hq_] at gq_; exact hz_ gq_.1) | inl e2_ => (rw [hq_] at gq_; refine ⟨fun e_ he_ => ?_, fun y_ hy_ => ?_⟩; (rw [pA_p n33_ n40_, hq_] at he_; cases he_; exact ⟨gq_.1, gq_.2.1, gq_.2.2, wt9_, mo9_⟩); (rw [pA_p n33_ n40_, hq_] at hy_; cases hy_)))
        · have cx19_ : ¬ ((S0_.2.2.1 119 0 (S0_.1 13 0 9).toNat) ≠ 2) := of_decide_eq_false cx19_
          refine sm_T_go 1 (c1 := (95, [some (.inr (.inr (some (13, 0))))], [.inr (.inr (some (13, 0)))], S0_)) rfl ?_
          refine sm_T_cal (d1 := 4) (Q1 := vq_322 b_ n_ T_ mo_ p_ i_ g_.length S0_) rfl rfl (by decide) (vc_322 b_ n_ T_ mo_ p_ i_ g_.length S0_ hI_ (by exact ht_) (by exact hf_) (by exact ⟨hi1_, hi2_⟩) (by exact ⟨hv_.1, by omega⟩) (by exact hmo1_) (by omega) (by exact rk_.2.2.1.mp (by omega)) (by omega) (by exact lx_vl_0 (rk_.2.2.1.mp (by omega)))) (fun u_ Sx88_ px91_ => ?_)
          obtain ⟨rfl, hIx89_, hFx90_, px91_⟩ := px91_
          have hFx92_ : ai_fr (sx_W vw_319) S0_ Sx88_ := ai_fr_tr hF_ (fr_le hFx90_ rfl)
          have ex93_ : Sx88_.1 13 0 27 = S0_.1 13 0 27 := hFx90_.1 13 0 27 rfl
          have m2_ : mo_ ≠ 2 := by omega
          have kk_ : lx_kd b_ n_ p_ = 2 := rk_.2.2.1.mp (by omega)
          have pe_ : (p_pm b_ n_ (mdo mo_) A_ M_ K_ f_) p_ = p_co b_ n_ p_ := by unfold p_pm mdo; rw [if_neg (by rw [decide_eq_false m2_]; decide)]; unfold p_pd; rw [if_pos kk_]
          have gq_ : rg b_ n_ T_ (pb ((p_pm b_ n_ (mdo mo_) A_ M_ K_ f_) p_) fun r_ => .inr r_.1) Sx88_ := by rw [pe_]; cases hq_ : p_co b_ n_ p_ with | inl e_ => (have z_ := px91_.1 e_ hq_; exact ⟨z_.1, z_.2.1, z_.2.2.1⟩) | inr r_ => exact (px91_.2 r_ hq_).1
          have ws9_ := ws_fr hw_ hFx90_ rfl rfl rfl
          have op9_ := (hFx90_.1 13 0 33 rfl).trans hop_
          have vl9_ := (hFx90_.1 13 0 34 rfl).trans hv_.1
          have wt9_ : Sx88_.1 13 0 32 ≤ 800 := by rw [hFx90_.1 13 0 32 rfl, hww_]; omega
          have mo9_ := (hFx90_.1 13 0 27 rfl).trans hmo1_
          have vq_ : ∀ r_, (p_pm b_ n_ (mdo mo_) A_ M_ K_ f_) p_ = .inr r_ → (mo_ ≠ 2 → stk (Sx88_.2.2.1 138 0) (r_.2.1 :: g_)) ∧ (mo_ = 2 → stk (fun j_ => Sx88_.2.2.1 139 0 (8 * j_)) (r_.2.1 :: g_)) := fun r_ hr_ => ⟨fun _ => (px91_.2 r_ (pe_.symm.trans hr_)).2 g_ rfl (hv_.2.1 m2_), fun z_ => absurd z_ m2_⟩
          refine sm_T_go 2 (c1 := (131, [some (.inr (.inr (some (13, 0))))], [.inr (.inr (some (13, 0)))], Sx88_)) rfl ?_
          refine sm_T_cal (d1 := 0) (Q1 := vq_292  Sx88_) rfl rfl (by decide) (vc_292  Sx88_ hIx89_ ) (fun u_ Sx94_ px97_ => ?_)
          obtain ⟨rfl, vx99_, rfl, px97_⟩ := px97_
          have e131_ := px97_
          refine sm_T_b0 (a := 0) (z := 17) rfl (fun cx100_ => ?_) (fun cx100_ => ?_)
          · have cx100_ : vx99_ = 0 := of_decide_eq_true cx100_
            have hz_ := wr_if e131_ (by omega)
            refine sm_T_go 1 (c1 := (152, [some (.inr (.inr (some (13, 0))))], [.inr (.inr (some (13, 0)))], Sx88_)) rfl ?_
            refine sm_T_cal (d1 := 0) (Q1 := vq_292  Sx88_) rfl rfl (by decide) (vc_292  Sx88_ hIx89_ ) (fun u_ Sx101_ px104_ => ?_)
            obtain ⟨rfl, vx106_, rfl, px104_⟩ := px104_
            have e152_ := px104_
            refine sm_T_rz rfl (by (rw [e152_]; split; (right; rfl); (left; rfl))) ⟨_, _, rfl, _, rfl, hIx89_, hFx92_, ?_⟩
            first | (refine ⟨fun e_ he_ => ?_, fun y_ hy_ => ?_⟩; (rw [pA_p n33_ n40_, hpr_] at he_; cases he_); (rw [pA_p n33_ n40_, hpr_] at hy_; cases hy_; exact ⟨⟨g148_, ⟨w1_, ws148_, Or.inr ⟨rfl, wl148_⟩⟩, op148_, v148_, mo148_⟩, by rw [e152_, if_pos g148_.1]; rfl⟩)) | (cases hq_ : (p_pm b_ n_ (mdo mo_) A_ M_ K_ f_) p_ with | inr r_ => (exfalso; rw [hq_] at gq_; exact hz_ gq_.1) | inl e2_ => (rw [hq_] at gq_; refine ⟨fun e_ he_ => ?_, fun y_ hy_ => ?_⟩; (rw [pA_p n33_ n40_, hq_] at he_; cases he_; exact ⟨gq_.1, gq_.2.1, gq_.2.2, wt9_, mo9_⟩); (rw [pA_p n33_ n40_, hq_] at hy_; cases hy_)))
          · have cx100_ : ¬ (vx99_ = 0) := of_decide_eq_false cx100_
            have hz_ := rt_if e131_ (by omega)
            obtain ⟨r_, hpr_⟩ : ∃ r_, (p_pm b_ n_ (mdo mo_) A_ M_ K_ f_) p_ = .inr r_ := by cases hq_ : (p_pm b_ n_ (mdo mo_) A_ M_ K_ f_) p_ with | inl e_ => (exfalso; rw [hq_] at gq_; exact gq_.2.2 (gq_.1.symm.trans hz_)) | inr r_ => exact ⟨r_, rfl⟩
            rw [hpr_] at gq_
            have rb := hprk p_ r_ hok_.2.2.1 hok_.2.2.2.1 hpr_
            have bx107_ : 0 ≤ Sx88_.1 13 0 34 ∧ Sx88_.1 13 0 34 ≤ 1023 := hIx89_.1 13 0 34 rfl
            refine sm_T_go 4 (c1 := (143, [some (.inr (.inr (some (13, 0))))], [.inl 1, .inl (Sx88_.1 13 0 34), .inr (.inr (some (13, 0)))], Sx88_)) rfl ?_
            refine sm_T_bin (w := (Sx88_.1 13 0 34) + 1) rfl (bi_add (by omega) (by omega) (by omega)) ?_
            have hIx108_ : gi (sm_pI Sx88_ 13 0 34 ((Sx88_.1 13 0 34) + 1)) := gi_pI hIx89_ (show 0 ≤ (Sx88_.1 13 0 34) + 1 ∧ (Sx88_.1 13 0 34) + 1 ≤ 1023 from ⟨by omega, by omega⟩)
            have hFx109_ : ai_fr (sx_W vw_319) S0_ (sm_pI Sx88_ 13 0 34 ((Sx88_.1 13 0 34) + 1)) := ai_fr_tr hFx92_ (ai_fr_pI rfl)
            refine sm_T_go 2 (c1 := (148, [some (.inr (.inr (some (13, 0))))], [.inr (.inr (some (13, 0)))], sm_pI Sx88_ 13 0 34 ((Sx88_.1 13 0 34) + 1))) rfl ?_
            refine sm_T_cal (d1 := 1) (Q1 := vq_317 b_ n_ T_ mo_ t_ o_ r_.2.1 g_ (r_.2.2 ++ c_) w0_ (sm_pI Sx88_ 13 0 34 ((Sx88_.1 13 0 34) + 1))) rfl rfl (by decide) (vc_317 b_ n_ T_ mo_ t_ o_ r_.2.1 g_ (r_.2.2 ++ c_) w0_ (sm_pI Sx88_ 13 0 34 ((Sx88_.1 13 0 34) + 1)) hIx108_ (by exact ws9_) (by exact hwt_) (by exact hok_.2.1.1) (by exact vs_pu (by show _ + 1 = _; omega) (vq_ r_ hpr_).1 (vq_ r_ hpr_).2) (by exact mo9_) (by omega) (by exact rb.2.2.2.1)) (fun u_ Sx110_ px113_ => ?_)
            obtain ⟨rfl, hIx111_, hFx112_, px113_⟩ := px113_
            have hFx114_ : ai_fr (sx_W vw_319) S0_ Sx110_ := ai_fr_tr hFx109_ (fr_le hFx112_ rfl)
            obtain ⟨w1_, ws148_, wl148_, v148_⟩ := px113_
            have g148_ := rg_fr (b_ := b_) (n_ := n_) (T_ := T_) (x_ := .inr r_.1) (S_ := (sm_pI Sx88_ 13 0 34 ((Sx88_.1 13 0 34) + 1))) gq_ hFx112_ rfl rfl rfl
            have op148_ := (hFx112_.1 13 0 33 rfl).trans op9_
            have mo148_ := (hFx112_.1 13 0 27 rfl).trans mo9_
            refine sm_T_go 1 (c1 := (152, [some (.inr (.inr (some (13, 0))))], [.inr (.inr (some (13, 0)))], Sx110_)) rfl ?_
            refine sm_T_cal (d1 := 0) (Q1 := vq_292  Sx110_) rfl rfl (by decide) (vc_292  Sx110_ hIx111_ ) (fun u_ Sx115_ px118_ => ?_)
            obtain ⟨rfl, vx120_, rfl, px118_⟩ := px118_
            have e152_ := px118_
            refine sm_T_rz rfl (by (rw [e152_]; split; (right; rfl); (left; rfl))) ⟨_, _, rfl, _, rfl, hIx111_, hFx114_, ?_⟩
            first | (refine ⟨fun e_ he_ => ?_, fun y_ hy_ => ?_⟩; (rw [pA_p n33_ n40_, hpr_] at he_; cases he_); (rw [pA_p n33_ n40_, hpr_] at hy_; cases hy_; exact ⟨⟨g148_, ⟨w1_, ws148_, Or.inr ⟨rfl, wl148_⟩⟩, op148_, v148_, mo148_⟩, by rw [e152_, if_pos g148_.1]; rfl⟩)) | (cases hq_ : (p_pm b_ n_ (mdo mo_) A_ M_ K_ f_) p_ with | inr r_ => (exfalso; rw [hq_] at gq_; exact hz_ gq_.1) | inl e2_ => (rw [hq_] at gq_; refine ⟨fun e_ he_ => ?_, fun y_ hy_ => ?_⟩; (rw [pA_p n33_ n40_, hq_] at he_; cases he_; exact ⟨gq_.1, gq_.2.1, gq_.2.2, wt9_, mo9_⟩); (rw [pA_p n33_ n40_, hq_] at hy_; cases hy_)))
      · have cx16_ : ¬ ((S0_.1 13 0 27) ≠ 2) := of_decide_eq_false cx16_
        refine sm_T_go 1 (c1 := (75, [some (.inr (.inr (some (13, 0))))], [.inr (.inr (some (13, 0)))], S0_)) rfl ?_
        refine sm_T_cal (d1 := 3) (Q1 := vq_327 b_ n_ T_ mo_ p_ i_ g_.length K_ f_ S0_) rfl rfl (by decide) (vc_327 b_ n_ T_ mo_ p_ i_ g_.length K_ f_ S0_ hI_ (by exact ht_) (by exact hf_) (by exact ⟨hi1_, hi2_⟩) (by exact ⟨hv_.1, by omega⟩) (by exact hmo1_) (by omega) (by exact hen_.2 (by omega))) (fun u_ Sx121_ px124_ => ?_)
        obtain ⟨rfl, hIx122_, hFx123_, px124_⟩ := px124_
        have hFx125_ : ai_fr (sx_W vw_319) S0_ Sx121_ := ai_fr_tr hF_ (fr_le hFx123_ rfl)
        have ex126_ : Sx121_.1 13 0 27 = S0_.1 13 0 27 := hFx123_.1 13 0 27 rfl
        have m2_ : mo_ = 2 := by omega
        have pe_ : (p_pm b_ n_ (mdo mo_) A_ M_ K_ f_) p_ = p_pl b_ n_ K_ f_ p_ := by unfold p_pm mdo; rw [if_pos (decide_eq_true m2_)]
        have gq_ : rg b_ n_ T_ (pb ((p_pm b_ n_ (mdo mo_) A_ M_ K_ f_) p_) fun r_ => .inr r_.1) Sx121_ := by rw [pe_]; exact px124_.1
        have ws9_ := ws_fr hw_ hFx123_ rfl rfl rfl
        have op9_ := (hFx123_.1 13 0 33 rfl).trans hop_
        have vl9_ := (hFx123_.1 13 0 34 rfl).trans hv_.1
        have wt9_ : Sx121_.1 13 0 32 ≤ 800 := by rw [hFx123_.1 13 0 32 rfl, hww_]; omega
        have mo9_ := (hFx123_.1 13 0 27 rfl).trans hmo1_
        have vq_ : ∀ r_, (p_pm b_ n_ (mdo mo_) A_ M_ K_ f_) p_ = .inr r_ → (mo_ ≠ 2 → stk (Sx121_.2.2.1 138 0) (r_.2.1 :: g_)) ∧ (mo_ = 2 → stk (fun j_ => Sx121_.2.2.1 139 0 (8 * j_)) (r_.2.1 :: g_)) := fun r_ hr_ => ⟨fun z_ => absurd m2_ z_, fun _ => px124_.2 r_ (pe_.symm.trans hr_) g_ rfl (hv_.2.2 m2_)⟩
        refine sm_T_go 2 (c1 := (131, [some (.inr (.inr (some (13, 0))))], [.inr (.inr (some (13, 0)))], Sx121_)) rfl ?_
        refine sm_T_cal (d1 := 0) (Q1 := vq_292  Sx121_) rfl rfl (by decide) (vc_292  Sx121_ hIx122_ ) (fun u_ Sx127_ px130_ => ?_)
        obtain ⟨rfl, vx132_, rfl, px130_⟩ := px130_
        have e131_ := px130_
        refine sm_T_b0 (a := 0) (z := 17) rfl (fun cx133_ => ?_) (fun cx133_ => ?_)
        · have cx133_ : vx132_ = 0 := of_decide_eq_true cx133_
          have hz_ := wr_if e131_ (by omega)
          refine sm_T_go 1 (c1 := (152, [some (.inr (.inr (some (13, 0))))], [.inr (.inr (some (13, 0)))], Sx121_)) rfl ?_
          refine sm_T_cal (d1 := 0) (Q1 := vq_292  Sx121_) rfl rfl (by decide) (vc_292  Sx121_ hIx122_ ) (fun u_ Sx134_ px137_ => ?_)
          obtain ⟨rfl, vx139_, rfl, px137_⟩ := px137_
          have e152_ := px137_
          refine sm_T_rz rfl (by (rw [e152_]; split; (right; rfl); (left; rfl))) ⟨_, _, rfl, _, rfl, hIx122_, hFx125_, ?_⟩
          first | (refine ⟨fun e_ he_ => ?_, fun y_ hy_ => ?_⟩; (rw [pA_p n33_ n40_, hpr_] at he_; cases he_); (rw [pA_p n33_ n40_, hpr_] at hy_; cases hy_; exact ⟨⟨g148_, ⟨w1_, ws148_, Or.inr ⟨rfl, wl148_⟩⟩, op148_, v148_, mo148_⟩, by rw [e152_, if_pos g148_.1]; rfl⟩)) | (cases hq_ : (p_pm b_ n_ (mdo mo_) A_ M_ K_ f_) p_ with | inr r_ => (exfalso; rw [hq_] at gq_; exact hz_ gq_.1) | inl e2_ => (rw [hq_] at gq_; refine ⟨fun e_ he_ => ?_, fun y_ hy_ => ?_⟩; (rw [pA_p n33_ n40_, hq_] at he_; cases he_; exact ⟨gq_.1, gq_.2.1, gq_.2.2, wt9_, mo9_⟩); (rw [pA_p n33_ n40_, hq_] at hy_; cases hy_)))
        · have cx133_ : ¬ (vx132_ = 0) := of_decide_eq_false cx133_
          have hz_ := rt_if e131_ (by omega)
          obtain ⟨r_, hpr_⟩ : ∃ r_, (p_pm b_ n_ (mdo mo_) A_ M_ K_ f_) p_ = .inr r_ := by cases hq_ : (p_pm b_ n_ (mdo mo_) A_ M_ K_ f_) p_ with | inl e_ => (exfalso; rw [hq_] at gq_; exact gq_.2.2 (gq_.1.symm.trans hz_)) | inr r_ => exact ⟨r_, rfl⟩
          rw [hpr_] at gq_
          have rb := hprk p_ r_ hok_.2.2.1 hok_.2.2.2.1 hpr_
          have bx140_ : 0 ≤ Sx121_.1 13 0 34 ∧ Sx121_.1 13 0 34 ≤ 1023 := hIx122_.1 13 0 34 rfl
          refine sm_T_go 4 (c1 := (143, [some (.inr (.inr (some (13, 0))))], [.inl 1, .inl (Sx121_.1 13 0 34), .inr (.inr (some (13, 0)))], Sx121_)) rfl ?_
          refine sm_T_bin (w := (Sx121_.1 13 0 34) + 1) rfl (bi_add (by omega) (by omega) (by omega)) ?_
          have hIx141_ : gi (sm_pI Sx121_ 13 0 34 ((Sx121_.1 13 0 34) + 1)) := gi_pI hIx122_ (show 0 ≤ (Sx121_.1 13 0 34) + 1 ∧ (Sx121_.1 13 0 34) + 1 ≤ 1023 from ⟨by omega, by omega⟩)
          have hFx142_ : ai_fr (sx_W vw_319) S0_ (sm_pI Sx121_ 13 0 34 ((Sx121_.1 13 0 34) + 1)) := ai_fr_tr hFx125_ (ai_fr_pI rfl)
          refine sm_T_go 2 (c1 := (148, [some (.inr (.inr (some (13, 0))))], [.inr (.inr (some (13, 0)))], sm_pI Sx121_ 13 0 34 ((Sx121_.1 13 0 34) + 1))) rfl ?_
          refine sm_T_cal (d1 := 1) (Q1 := vq_317 b_ n_ T_ mo_ t_ o_ r_.2.1 g_ (r_.2.2 ++ c_) w0_ (sm_pI Sx121_ 13 0 34 ((Sx121_.1 13 0 34) + 1))) rfl rfl (by decide) (vc_317 b_ n_ T_ mo_ t_ o_ r_.2.1 g_ (r_.2.2 ++ c_) w0_ (sm_pI Sx121_ 13 0 34 ((Sx121_.1 13 0 34) + 1)) hIx141_ (by exact ws9_) (by exact hwt_) (by exact hok_.2.1.1) (by exact vs_pu (by show _ + 1 = _; omega) (vq_ r_ hpr_).1 (vq_ r_ hpr_).2) (by exact mo9_) (by omega) (by exact rb.2.2.2.1)) (fun u_ Sx143_ px146_ => ?_)
          obtain ⟨rfl, hIx144_, hFx145_, px146_⟩ := px146_
          have hFx147_ : ai_fr (sx_W vw_319) S0_ Sx143_ := ai_fr_tr hFx142_ (fr_le hFx145_ rfl)
          obtain ⟨w1_, ws148_, wl148_, v148_⟩ := px146_
          have g148_ := rg_fr (b_ := b_) (n_ := n_) (T_ := T_) (x_ := .inr r_.1) (S_ := (sm_pI Sx121_ 13 0 34 ((Sx121_.1 13 0 34) + 1))) gq_ hFx145_ rfl rfl rfl
          have op148_ := (hFx145_.1 13 0 33 rfl).trans op9_
          have mo148_ := (hFx145_.1 13 0 27 rfl).trans mo9_
          refine sm_T_go 1 (c1 := (152, [some (.inr (.inr (some (13, 0))))], [.inr (.inr (some (13, 0)))], Sx143_)) rfl ?_
          refine sm_T_cal (d1 := 0) (Q1 := vq_292  Sx143_) rfl rfl (by decide) (vc_292  Sx143_ hIx144_ ) (fun u_ Sx148_ px151_ => ?_)
          obtain ⟨rfl, vx153_, rfl, px151_⟩ := px151_
          have e152_ := px151_
          refine sm_T_rz rfl (by (rw [e152_]; split; (right; rfl); (left; rfl))) ⟨_, _, rfl, _, rfl, hIx144_, hFx147_, ?_⟩
          first | (refine ⟨fun e_ he_ => ?_, fun y_ hy_ => ?_⟩; (rw [pA_p n33_ n40_, hpr_] at he_; cases he_); (rw [pA_p n33_ n40_, hpr_] at hy_; cases hy_; exact ⟨⟨g148_, ⟨w1_, ws148_, Or.inr ⟨rfl, wl148_⟩⟩, op148_, v148_, mo148_⟩, by rw [e152_, if_pos g148_.1]; rfl⟩)) | (cases hq_ : (p_pm b_ n_ (mdo mo_) A_ M_ K_ f_) p_ with | inr r_ => (exfalso; rw [hq_] at gq_; exact hz_ gq_.1) | inl e2_ => (rw [hq_] at gq_; refine ⟨fun e_ he_ => ?_, fun y_ hy_ => ?_⟩; (rw [pA_p n33_ n40_, hq_] at he_; cases he_; exact ⟨gq_.1, gq_.2.1, gq_.2.2, wt9_, mo9_⟩); (rw [pA_p n33_ n40_, hq_] at hy_; cases hy_)))
    · have cx14_ : ¬ (vx13_ = 0) := of_decide_eq_false cx14_
      have k40_ : lx_kd b_ n_ p_ = 40 := e52_.mp (by omega)
      refine sm_T_go 2 (c1 := (61, [some (.inr (.inr (some (13, 0))))], [.inl 40, .inr (.inr (some (13, 0)))], S0_)) rfl ?_
      refine sm_T_cal (d1 := 3) (Q1 := vq_318 40 b_ n_ T_ mo_ p_ i_ (o_mk o_) w0_ S0_) rfl rfl (by decide) (vc_318 40 b_ n_ T_ mo_ p_ i_ (o_mk o_) w0_ S0_ hI_ (by exact ht_) (by exact hf_) (by exact ⟨hi1_, hi2_⟩) (by omega) (by exact hw_) (by omega) (by exact ⟨hop_, hok_.2.1.2.1⟩) (by decide) (by exact hmo1_)) (fun u_ Sx154_ px157_ => ?_)
      obtain ⟨rfl, hIx155_, hFx156_, px157_⟩ := px157_
      have hFx158_ : ai_fr (sx_W vw_319) S0_ Sx154_ := ai_fr_tr hF_ (fr_le hFx156_ rfl)
      have e61_ := px157_
      have v61_ := vs_fr hv_ hFx156_ rfl rfl rfl
      have m61_ := (hFx156_.1 13 0 27 rfl).trans hmo1_
      refine sm_T_go 1 (c1 := (65, [some (.inr (.inr (some (13, 0))))], [.inl 0], Sx154_)) rfl ?_
      refine sm_T_rz rfl (by omega) ⟨_, _, rfl, _, rfl, hIx155_, hFx158_, ?_⟩
      by_cases z_ : o_mk o_ = 60
      · refine ⟨fun e_ he_ => ?_, fun y_ hy_ => ?_⟩
        · rw [pA_x k40_ z_] at he_; cases he_; exact e61_.1 z_
        · rw [pA_x k40_ z_] at hy_; cases hy_
      · refine ⟨fun e_ he_ => ?_, fun y_ hy_ => ?_⟩
        · rw [pA_o k40_ z_] at he_
          cases hq_ : p_ad b_ n_ p_ with
          | inr q_ => rw [hq_] at he_; cases he_
          | inl e2_ => rw [hq_] at he_; cases he_; exact (e61_.2 z_).1 _ hq_
        · rw [pA_o k40_ z_] at hy_
          cases hq_ : p_ad b_ n_ p_ with
          | inl e2_ => rw [hq_] at hy_; cases hy_
          | inr q_ =>
            rw [hq_] at hy_
            cases hy_
            obtain ⟨z1_, z2_, z3_⟩ := (e61_.2 z_).2 q_ hq_
            refine ⟨⟨z1_, ⟨_, z2_, Or.inl ⟨rfl, Or.inl ⟨rfl, wl_op hwt_ (rp_rtp ht_ hi2_ (by omega))⟩⟩⟩, ?_, v61_, m61_⟩, rfl⟩
            rw [z3_]
            show _ = (((if (if t_ = true then (-2 : Int) else -1) < 0 then 1 else 0) + o_mk o_ : Nat) : Int)
            rw [if_pos (by split <;> decide)]
            push_cast
            omega
  · have cx7_ : ¬ (vx6_ = 0) := of_decide_eq_false cx7_
    have k33_ : lx_kd b_ n_ p_ = 33 := e3_.mp (by omega)
    refine sm_T_go 1 (c1 := (10, [some (.inr (.inr (some (13, 0))))], [.inr (.inr (some (13, 0)))], S0_)) rfl ?_
    refine sm_T_cal (d1 := 0) (Q1 := vq_312 w0_ S0_) rfl rfl (by decide) (vc_312 w0_ S0_ hI_ (by exact hw_)) (fun u_ Sx159_ px162_ => ?_)
    obtain ⟨rfl, vx164_, rfl, px162_⟩ := px162_
    have e10_ := px162_
    refine sm_T_go 1 (c1 := (15, [some (.inr (.inr (some (13, 0))))], [.inl 33, .inl vx164_], S0_)) rfl ?_
    refine sm_T_br (a := 1) (z := 21) rfl (fun cx165_ => ?_) (fun cx165_ => ?_)
    · have cx165_ : vx164_ ≠ 33 := of_decide_eq_true cx165_
      have tf_ := tp_.2 (by omega)
      refine sm_T_go 3 (c1 := (40, [some (.inr (.inr (some (13, 0))))], [.inl 1, .inl 33, .inr (.inr (some (13, 0)))], S0_)) rfl ?_
      refine sm_T_cal (d1 := 0) (Q1 := vq_311 33 1 w0_ S0_) rfl rfl (by decide) (vc_311 33 1 w0_ S0_ hI_ (by exact hw_) (by omega) (by decide) (by decide)) (fun u_ Sx166_ px169_ => ?_)
      obtain ⟨rfl, hIx167_, hFx168_, px169_⟩ := px169_
      have hFx170_ : ai_fr (sx_W vw_319) S0_ Sx166_ := ai_fr_tr hF_ (fr_le hFx168_ rfl)
      have ws40_ := px169_
      have g40_ := rg_fr hg_ hFx168_ rfl rfl rfl
      have t40_ := rtab_fr ht_ hFx168_ rfl rfl rfl rfl rfl
      have v40_ := vs_fr hv_ hFx168_ rfl rfl rfl
      have op40_ := (hFx168_.1 13 0 33 rfl).trans hop_
      refine sm_T_go 1 (c1 := (44, [some (.inr (.inr (some (13, 0))))], [.inr (.inr (some (13, 0)))], Sx166_)) rfl ?_
      refine sm_T_cal (d1 := 2) (Q1 := vq_297 b_ n_ T_ (.inr p_) Sx166_) rfl rfl (by decide) (vc_297 b_ n_ T_ (.inr p_) Sx166_ hIx167_ (by first | exact t40_ | exact rtab_fr ht_ hFx170_ rfl rfl rfl rfl rfl) (by first | exact g40_ | exact hg_) (by (intro q_ e_; cases e_; omega))) (fun u_ Sx171_ px174_ => ?_)
      obtain ⟨rfl, hIx172_, hFx173_, px174_⟩ := px174_
      have hFx175_ : ai_fr (sx_W vw_319) S0_ Sx171_ := ai_fr_tr hFx170_ (fr_le hFx173_ rfl)
      have g44_ := px174_.1
      rw [pb_r rfl] at g44_
      first | (have ws44_ := ws_fr ws40_ hFx173_ rfl rfl rfl) | (have ws44_ := ws_fr ws9_ hFx173_ rfl rfl rfl; rw [x6_] at ws44_) | (have ws44_ := ws_fr ws9_ hFx173_ rfl rfl rfl)
      first | (have v44_ := vs_fr v40_ hFx173_ rfl rfl rfl; have op44_ := (hFx173_.1 13 0 33 rfl).trans op40_) | (have v44_ := vs_fr (vs_137 hv_) hFx173_ rfl rfl rfl; have op44_ := (hFx173_.1 13 0 33 rfl).trans hop_)
      refine sm_T_go 1 (c1 := (48, [some (.inr (.inr (some (13, 0))))], [.inl 0], Sx171_)) rfl ?_
      refine sm_T_rz rfl (by omega) ⟨_, _, rfl, _, rfl, hIx172_, hFx175_, ?_⟩
      refine ⟨fun e_ he_ => ?_, fun y_ hy_ => ?_⟩
      · rw [pA_b k33_] at he_
        cases hq_ : p_ad b_ n_ p_ with
        | inr q_ => rw [hq_] at he_; cases he_
        | inl e2_ =>
          rw [hq_] at he_ g44_
          cases he_
          exact ⟨g44_.1, g44_.2.1, g44_.2.2, by have := ws44_.1; simp only [List.length_cons] at this; omega, (hFx175_.1 13 0 27 rfl).trans hmo1_⟩
      · rw [pA_b k33_] at hy_
        cases hq_ : p_ad b_ n_ p_ with
        | inl e2_ => rw [hq_] at hy_; cases hy_
        | inr q_ =>
          rw [hq_] at hy_ g44_
          cases hy_
          refine ⟨⟨g44_, ⟨_, ws44_, Or.inl ⟨rfl, ?_⟩⟩, op44_, v44_, (hFx175_.1 13 0 27 rfl).trans hmo1_⟩, rfl⟩
          first | exact Or.inr ⟨u0_, rfl, hu2_⟩ | (refine Or.inr ⟨w0_, ?_, tf_.2⟩; rw [tf_.1]; rfl)
    · have cx165_ : ¬ (vx164_ ≠ 33) := of_decide_eq_false cx165_
      obtain ⟨u0_, hu1_, hu2_⟩ := tp_.1 (by omega)
      subst hu1_
      have wx_ : S0_.1 13 0 32 = (u0_.length : Int) + 1 := by rw [hww_, List.length_cons]; push_cast; rfl
      obtain ⟨-, y9_, u9_, w3_, w4_, w5_⟩ := ws_tp hw_ (by omega)
      cases w3_
      have w6_ : S0_.2.2.1 137 0 (S0_.1 13 0 32 - 1).toNat = (if t_ = true then 1 else 0) := w4_
      have x6_ : i_xor (S0_.2.2.1 137 0 (S0_.1 13 0 32 - 1).toNat) 1 = (if (!t_) = true then 1 else 0) := by rw [w6_]; cases t_; exact x1_b.2; exact x1_b.1
      have x7_ : 0 ≤ i_xor (S0_.2.2.1 137 0 (S0_.1 13 0 32 - 1).toNat) 1 ∧ i_xor (S0_.2.2.1 137 0 (S0_.1 13 0 32 - 1).toNat) 1 ≤ 1280 := by rw [x6_]; cases t_ <;> decide
      have ws9_ := ws_top (z_ := i_xor (S0_.2.2.1 137 0 (S0_.1 13 0 32 - 1).toNat) 1) hw_ w5_
      have bx176_ : 0 ≤ S0_.1 13 0 32 ∧ S0_.1 13 0 32 ≤ 1023 := hI_.1 13 0 32 rfl
      refine sm_T_go 5 (c1 := (27, [some (.inr (.inr (some (13, 0))))], [.inl 1, .inl (S0_.1 13 0 32), .inr (.inr (some (137, 0)))], S0_)) rfl ?_
      refine sm_T_bin (w := (S0_.1 13 0 32) - 1) rfl (bi_sub (by omega) (by omega) (by omega)) ?_
      refine sm_T_go 1 (c1 := (29, [some (.inr (.inr (some (13, 0))))], [.inl ((S0_.1 13 0 32) - 1), .inr (.inr (some (137, 0))), .inl ((S0_.1 13 0 32) - 1), .inr (.inr (some (137, 0)))], S0_)) rfl ?_
      refine sm_T_iald (n := 1024) rfl rfl (by omega) (by omega) ?_
      have bx177_ : 0 ≤ S0_.2.2.1 137 0 ((S0_.1 13 0 32) - 1).toNat ∧ S0_.2.2.1 137 0 ((S0_.1 13 0 32) - 1).toNat ≤ 1280 := hI_.2 137 0 _
      refine sm_T_go 1 (c1 := (31, [some (.inr (.inr (some (13, 0))))], [.inl 1, .inl (S0_.2.2.1 137 0 ((S0_.1 13 0 32) - 1).toNat), .inl ((S0_.1 13 0 32) - 1), .inr (.inr (some (137, 0)))], S0_)) rfl ?_
      refine sm_T_bin (w := (i_xor (S0_.2.2.1 137 0 ((S0_.1 13 0 32) - 1).toNat) 1)) rfl rfl ?_
      refine sm_T_iast (n := 1024) rfl rfl (by omega) (by omega) ?_
      have hIx178_ : gi (sm_aI S0_ 137 0 ((S0_.1 13 0 32) - 1).toNat (i_xor (S0_.2.2.1 137 0 ((S0_.1 13 0 32) - 1).toNat) 1)) := gi_aI hI_ (show 0 ≤ (i_xor (S0_.2.2.1 137 0 ((S0_.1 13 0 32) - 1).toNat) 1) ∧ (i_xor (S0_.2.2.1 137 0 ((S0_.1 13 0 32) - 1).toNat) 1) ≤ 1280 from ⟨by omega, by omega⟩)
      have hFx179_ : ai_fr (sx_W vw_319) S0_ (sm_aI S0_ 137 0 ((S0_.1 13 0 32) - 1).toNat (i_xor (S0_.2.2.1 137 0 ((S0_.1 13 0 32) - 1).toNat) 1)) := ai_fr_tr hF_ (ai_fr_aI rfl)
      refine sm_T_go 2 (c1 := (44, [some (.inr (.inr (some (13, 0))))], [.inr (.inr (some (13, 0)))], sm_aI S0_ 137 0 ((S0_.1 13 0 32) - 1).toNat (i_xor (S0_.2.2.1 137 0 ((S0_.1 13 0 32) - 1).toNat) 1))) rfl ?_
      refine sm_T_cal (d1 := 2) (Q1 := vq_297 b_ n_ T_ (.inr p_) (sm_aI S0_ 137 0 ((S0_.1 13 0 32) - 1).toNat (i_xor (S0_.2.2.1 137 0 ((S0_.1 13 0 32) - 1).toNat) 1))) rfl rfl (by decide) (vc_297 b_ n_ T_ (.inr p_) (sm_aI S0_ 137 0 ((S0_.1 13 0 32) - 1).toNat (i_xor (S0_.2.2.1 137 0 ((S0_.1 13 0 32) - 1).toNat) 1)) hIx178_ (by first | exact t40_ | exact rtab_fr ht_ hFx179_ rfl rfl rfl rfl rfl) (by first | exact g40_ | exact hg_) (by (intro q_ e_; cases e_; omega))) (fun u_ Sx180_ px183_ => ?_)
      obtain ⟨rfl, hIx181_, hFx182_, px183_⟩ := px183_
      have hFx184_ : ai_fr (sx_W vw_319) S0_ Sx180_ := ai_fr_tr hFx179_ (fr_le hFx182_ rfl)
      have g44_ := px183_.1
      rw [pb_r rfl] at g44_
      first | (have ws44_ := ws_fr ws40_ hFx182_ rfl rfl rfl) | (have ws44_ := ws_fr ws9_ hFx182_ rfl rfl rfl; rw [x6_] at ws44_) | (have ws44_ := ws_fr ws9_ hFx182_ rfl rfl rfl)
      first | (have v44_ := vs_fr v40_ hFx182_ rfl rfl rfl; have op44_ := (hFx182_.1 13 0 33 rfl).trans op40_) | (have v44_ := vs_fr (vs_137 hv_) hFx182_ rfl rfl rfl; have op44_ := (hFx182_.1 13 0 33 rfl).trans hop_)
      refine sm_T_go 1 (c1 := (48, [some (.inr (.inr (some (13, 0))))], [.inl 0], Sx180_)) rfl ?_
      refine sm_T_rz rfl (by omega) ⟨_, _, rfl, _, rfl, hIx181_, hFx184_, ?_⟩
      refine ⟨fun e_ he_ => ?_, fun y_ hy_ => ?_⟩
      · rw [pA_b k33_] at he_
        cases hq_ : p_ad b_ n_ p_ with
        | inr q_ => rw [hq_] at he_; cases he_
        | inl e2_ =>
          rw [hq_] at he_ g44_
          cases he_
          exact ⟨g44_.1, g44_.2.1, g44_.2.2, by have := ws44_.1; simp only [List.length_cons] at this; omega, (hFx184_.1 13 0 27 rfl).trans hmo1_⟩
      · rw [pA_b k33_] at hy_
        cases hq_ : p_ad b_ n_ p_ with
        | inl e2_ => rw [hq_] at hy_; cases hy_
        | inr q_ =>
          rw [hq_] at hy_ g44_
          cases hy_
          refine ⟨⟨g44_, ⟨_, ws44_, Or.inl ⟨rfl, ?_⟩⟩, op44_, v44_, (hFx184_.1 13 0 27 rfl).trans hmo1_⟩, rfl⟩
          first | exact Or.inr ⟨u0_, rfl, hu2_⟩ | (refine Or.inr ⟨w0_, ?_, tf_.2⟩; rw [tf_.1]; rfl)
