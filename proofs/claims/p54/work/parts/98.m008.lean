/-! 99.z1a -/
section
/-! the reference: inputs of cells; written by wip/p55/gen/vg -/

/-! new_ names of_ cells and their inputs -/
def zn2 (b_ : Nat → Int) (n_ K_ : Nat) (f_ : Nat → Nat) (x_ : pE Nat) : pE Nat := pb (pb x_ (p_du b_ n_ 1)) fun p_ => if p_fd (fun s_ => nm_q b_ n_ (f_ s_) p_) K_ = -1 then .inr p_ else .inl (10, p_)
def zn3 (b_ : Nat → Int) (n_ K_ : Nat) (f_ : Nat → Nat) (w_ : Int) (x_ : pE Nat) : pE Nat := pb (zn2 b_ n_ K_ f_ x_) fun p_ => if (K_ : Int) = w_ then .inl (15, p_) else .inr p_
theorem nn_eq {b_ : Nat → Int} {n_ K_ : Nat} {f_ : Nat → Nat} {w_ : Int} {x_ : pE Nat} : pb (zn3 b_ n_ K_ f_ w_ x_) (p_ad b_ n_) = pb x_ (p_nn b_ n_ K_ f_ w_) := by
  unfold zn3 zn2
  simp only [pb_as]
  refine congrArg (pb _) (funext fun p_ => ?_)
  unfold p_du p_nn
  by_cases g_ : lx_kd b_ n_ p_ = 1
  · rw [if_pos g_, if_pos g_]
    show pb (if p_fd (fun s_ => nm_q b_ n_ (f_ s_) p_) K_ = -1 then .inr p_ else .inl (10, p_)) _ = _
    by_cases g2_ : p_fd (fun s_ => nm_q b_ n_ (f_ s_) p_) K_ = -1
    · rw [if_pos g2_, if_pos g2_]
      show pb (if (K_ : Int) = w_ then .inl (15, p_) else .inr p_) _ = _
      by_cases g3_ : (K_ : Int) = w_
      · rw [if_pos g3_, if_pos g3_]; rfl
      · rw [if_neg g3_, if_neg g3_]; rfl
    · rw [if_neg g2_, if_neg g2_]; rfl
  · rw [if_neg g_, if_neg g_]; rfl
theorem du_r {b_ : Nat → Int} {n_ p_ : Nat} {x_ : pE Nat} (h_ : pb x_ (p_du b_ n_ 1) = .inr p_) : x_ = .inr p_ ∧ lx_kd b_ n_ p_ = 1 := by
  obtain ⟨q_, h1_, h2_⟩ := pb_inr h_
  unfold p_du at h2_
  split at h2_
  · rename_i g_
    cases h2_
    exact ⟨h1_, g_⟩
  · cases h2_
theorem zn2_r {b_ : Nat → Int} {n_ K_ p_ : Nat} {f_ : Nat → Nat} {x_ : pE Nat} (h_ : zn2 b_ n_ K_ f_ x_ = .inr p_) : pb x_ (p_du b_ n_ 1) = .inr p_ ∧ p_fd (fun s_ => nm_q b_ n_ (f_ s_) p_) K_ = -1 := by
  obtain ⟨q_, h1_, h2_⟩ := pb_inr h_
  split at h2_
  · rename_i g_
    cases h2_
    exact ⟨h1_, g_⟩
  · cases h2_
theorem zn3_r {b_ : Nat → Int} {n_ K_ p_ : Nat} {f_ : Nat → Nat} {w_ : Int} {x_ : pE Nat} (h_ : zn3 b_ n_ K_ f_ w_ x_ = .inr p_) : zn2 b_ n_ K_ f_ x_ = .inr p_ ∧ (K_ : Int) ≠ w_ := by
  obtain ⟨q_, h1_, h2_⟩ := pb_inr h_
  split at h2_
  · cases h2_
  · rename_i g_
    cases h2_
    exact ⟨h1_, g_⟩
/-- a_ row_ of_ names -/
def rw_ (b_ : Nat → Int) (n_ T_ t_ k_ K_ : Nat) (f_ : Nat → Nat) (S_ : sm_S) : Prop := S_.1 13 0 k_ = (K_ : Int) ∧ ∀ j_, j_ < K_ → rtk b_ n_ T_ (S_.2.2.1 t_ 0 j_) (f_ j_)
theorem rw_fr {w_ : sx_Wl} {b_ : Nat → Int} {n_ T_ t_ k_ K_ : Nat} {f_ : Nat → Nat} {S_ S'_ : sm_S} (h_ : rw_ b_ n_ T_ t_ k_ K_ f_ S_) (g_ : ai_fr (sx_W w_) S_ S'_) (h0_ : (sx_W w_).1 13 k_ = false) (h1_ : (sx_W w_).2.1 t_ = false) : rw_ b_ n_ T_ t_ k_ K_ f_ S'_ := by
  unfold rw_ at h_ ⊢
  rw [g_.1 13 0 k_ h0_, fr_arr g_ h1_]
  exact h_

theorem inr_fr {w_ : sx_Wl} {b_ : Nat → Int} {n_ T_ K_ : Nat} {f_ : Nat → Nat} {S_ S'_ : sm_S} (h_ : inr_ b_ n_ T_ K_ f_ S_) (g_ : ai_fr (sx_W w_) S_ S'_) (h0_ : (sx_W w_).1 13 80 = false) (h1_ : (sx_W w_).2.1 177 = false) : inr_ b_ n_ T_ K_ f_ S'_ := by
  unfold inr_ at h_ ⊢
  rw [g_.1 13 0 80 h0_, fr_arr g_ h1_]
  exact h_
theorem inr_up {b_ : Nat → Int} {n_ T_ K_ p_ : Nat} {f_ : Nat → Nat} {t_ : Int} {S_ S'_ : sm_S} (h_ : inr_ b_ n_ T_ K_ f_ S_) (hK_ : K_ ≠ 3) (hr_ : rtk b_ n_ T_ t_ p_) (hd_ : p_fd (fun s_ => nm_q b_ n_ (f_ s_) p_) K_ = -1) (h0_ : S'_.1 13 0 80 = (K_ : Int) + 1) (h1_ : ∀ j_, S'_.2.2.1 177 0 j_ = if j_ = K_ then t_ else S_.2.2.1 177 0 j_) : inr_ b_ n_ T_ (K_ + 1) (n_up f_ K_ p_) S'_ := by
  obtain ⟨q1_, q2_, q3_, q4_⟩ := h_
  refine ⟨by rw [h0_]; push_cast; rfl, by omega, fun j_ hj_ => ?_, fun i_ j_ hij_ hj_ => ?_⟩
  · rw [h1_]
    unfold n_up
    by_cases e_ : j_ = K_
    · rw [if_pos e_, if_pos e_]; exact hr_
    · rw [if_neg e_, if_neg e_]; exact q3_ j_ (by omega)
  · unfold n_up
    rw [if_neg (by omega)]
    by_cases e_ : j_ = K_
    · rw [if_pos e_]
      exact p_fd_no hd_ i_ (by omega)
    · rw [if_neg e_]
      exact q4_ i_ j_ hij_ (by omega)
/-! M_.tellInput -/
def vw_364 : sx_Wl := ([(13, 9), (13, 10), (13, 11), (13, 80)], [177], [])
def vq_364 (b_ : Nat → Int) (n_ : Nat) (T_ : Nat) (x_ : pE Nat) (K_ : Nat) (f_ : Nat → Nat) (S0_ : sm_S) (u_ : Option sm_V) (S1_ : sm_S) : Prop := u_ = none ∧ gi S1_ ∧ ai_fr (sx_W vw_364) S0_ S1_ ∧ (rg b_ n_ T_ (pb x_ (p_nn b_ n_ K_ f_ 3)) S1_ ∧ ∀ p_ r_, x_ = .inr p_ → p_nn b_ n_ K_ f_ 3 p_ = .inr r_ → inr_ b_ n_ T_ (K_ + 1) (n_up f_ K_ p_) S1_)
set_option maxHeartbeats 1000000 in
theorem vl_364 {sc_ : Nat × (Nat → Int)} (b_ : Nat → Int) (n_ : Nat) (T_ : Nat) (x_ : pE Nat) (K_ : Nat) (f_ : Nat → Nat) (S0_ : sm_S) (ht_ : rtab b_ n_ T_ S0_) (hx_ : rg b_ n_ T_ x_ S0_) (hin_ : ∀ p_, x_ = .inr p_ → inr_ b_ n_ T_ K_ f_ S0_) : ∀ nn_ : Nat, (∀ (t_ : Int) (i_ : Int) (S_ : sm_S), gi S_ → ai_fr (sx_W vw_364) S0_ S_ → ((0 ≤ i_ ∧ i_ ≤ 12) ∧ ((∃ e_, (zn2 b_ n_ K_ f_ x_) = .inl e_ ∧ rg b_ n_ T_ (.inl e_) S_) ∨ (∃ q0_, (pb x_ (p_du b_ n_ 1)) = .inr q0_ ∧ rg b_ n_ T_ (.inr q0_) S_ ∧ p_fd (fun s_ => nm_q b_ n_ (f_ s_) q0_)  i_.toNat = -1 ∧ i_ ≤ (K_ : Int))) ∧ (0 ≤ t_ ∧ t_ ≤ 1280) ∧ (∀ pq_, (pb x_ (p_du b_ n_ 1)) = .inr pq_ → rtk b_ n_ T_ t_ pq_) ∧ (∀ pq_, x_ = .inr pq_ → inr_ b_ n_ T_ K_ f_ S_) ∧ True) → ((9000 - i_).toNat) < nn_ → sm_T (mt_P sc_) 3 364 (8, [some (.inr (.inr (some (13, 0)))), some (.inl t_), some (.inl i_)], [], S_) (fun r_ => ∃ u_ S1_, r_ = (.inl u_, S1_, 0) ∧ vq_364 b_ n_ T_ x_ K_ f_ S0_ u_ S1_)) ∧ (∀ (t_ : Int) (S_ : sm_S), gi S_ → ai_fr (sx_W vw_364) S0_ S_ → ((rg b_ n_ T_ (zn2 b_ n_ K_ f_ x_) S_) ∧ (0 ≤ t_ ∧ t_ ≤ 1280) ∧ (∀ pq_, (pb x_ (p_du b_ n_ 1)) = .inr pq_ → rtk b_ n_ T_ t_ pq_) ∧ (∀ pq_, x_ = .inr pq_ → inr_ b_ n_ T_ K_ f_ S_) ∧ True) → ((8000 : Nat)) < nn_ → sm_T (mt_P sc_) 3 364 (50, [some (.inr (.inr (some (13, 0)))), some (.inl t_), none], [], S_) (fun r_ => ∃ u_ S1_, r_ = (.inl u_, S1_, 0) ∧ vq_364 b_ n_ T_ x_ K_ f_ S0_ u_ S1_)) ∧ (∀ (t_ : Int) (S_ : sm_S), gi S_ → ai_fr (sx_W vw_364) S0_ S_ → ((rg b_ n_ T_ (zn3 b_ n_ K_ f_ 3 x_) S_) ∧ (0 ≤ t_ ∧ t_ ≤ 1280) ∧ (∀ pq_, (pb x_ (p_du b_ n_ 1)) = .inr pq_ → rtk b_ n_ T_ t_ pq_) ∧ (∀ pq_, x_ = .inr pq_ → inr_ b_ n_ T_ K_ f_ S_) ∧ True) → ((7000 : Nat)) < nn_ → sm_T (mt_P sc_) 3 364 (72, [some (.inr (.inr (some (13, 0)))), some (.inl t_), none], [], S_) (fun r_ => ∃ u_ S1_, r_ = (.inl u_, S1_, 0) ∧ vq_364 b_ n_ T_ x_ K_ f_ S0_ u_ S1_)) := by
  intro nn_
  induction nn_ with
  | zero => exact ⟨fun _ _ _ _ _ _ h_ => absurd h_ (Nat.not_lt_zero _), fun _ _ _ _ _ h_ => absurd h_ (Nat.not_lt_zero _), fun _ _ _ _ _ h_ => absurd h_ (Nat.not_lt_zero _)⟩
  | succ nn_ ih_ =>
    refine ⟨?_, ?_, ?_⟩
    · rintro t_ i_ S_ hI_ hF_ ⟨h0_, h1_, tb_, tk_, row_, -⟩ hm_
      have tt_ := rtab_fr ht_ hF_ rfl rfl rfl rfl rfl
      have cb1_ : 0 ≤ S_.1 13 0 80 ∧ S_.1 13 0 80 ≤ 3 := hI_.1 13 0 80 rfl
      have bx1_ : 0 ≤ S_.1 13 0 80 ∧ S_.1 13 0 80 ≤ 3 := hI_.1 13 0 80 rfl
      refine sm_T_go 3 (c1 := (13, [some (.inr (.inr (some (13, 0)))), some (.inl t_), some (.inl i_)], [.inl (S_.1 13 0 80), .inl i_], S_)) rfl ?_
      refine sm_T_br (a := 3) (z := 37) rfl (fun cx2_ => ?_) (fun cx2_ => ?_)
      · have cx2_ : (S_.1 13 0 80) ≤ i_ := of_decide_eq_true cx2_
        refine sm_T_go 0 (c1 := (50, [some (.inr (.inr (some (13, 0)))), some (.inl t_), some (.inl i_)], [], S_)) rfl ?_
        refine sm_T_wk [some (.inr (.inr (some (13, 0)))), some (.inl t_), none] (by exact ⟨rfl, rfl, trivial⟩) ?_
        refine ih_.2.1 t_ S_ hI_ hF_ ⟨?_, ?_, ?_, ?_, trivial⟩ ?_
        · rcases h1_ with ⟨e_, z1_, z2_⟩ | ⟨q0_, z1_, z2_, z3_, z4_⟩
          · rw [z1_]; exact z2_
          · have rowq := row_ q0_ (du_r z1_).1
            have cnq_ : S_.1 13 0 80 = (K_ : Int) := rowq.1
            first | (exact absurd z2_.1 hz_) | (have e_ : (zn2 b_ n_ K_ f_ x_) = .inr q0_ := (by unfold zn2; rw [z1_]; show (if p_fd (fun s_ => nm_q b_ n_ (f_ s_) q0_) K_ = -1 then _ else _) = _; rw [show K_ = i_.toNat by omega, if_pos z3_]); rw [e_]; exact z2_)
        · omega
        · exact tk_
        · exact row_
        · omega
      · have cx2_ : ¬ ((S_.1 13 0 80) ≤ i_) := of_decide_eq_false cx2_
        refine sm_T_go 1 (c1 := (17, [some (.inr (.inr (some (13, 0)))), some (.inl t_), some (.inl i_)], [.inr (.inr (some (13, 0)))], S_)) rfl ?_
        refine sm_T_cal (d1 := 0) (Q1 := vq_292  S_) rfl rfl (by decide) (vc_292  S_ hI_ ) (fun u_ Sx3_ px6_ => ?_)
        obtain ⟨rfl, vx8_, rfl, px6_⟩ := px6_
        have e1r := px6_
        refine sm_T_b0 (a := 0) (z := 30) rfl (fun cx9_ => ?_) (fun cx9_ => ?_)
        · have cx9_ : vx8_ = 0 := of_decide_eq_true cx9_
          have hz_ := wr_if e1r (by omega)
          refine sm_T_go 0 (c1 := (50, [some (.inr (.inr (some (13, 0)))), some (.inl t_), some (.inl i_)], [], S_)) rfl ?_
          refine sm_T_wk [some (.inr (.inr (some (13, 0)))), some (.inl t_), none] (by exact ⟨rfl, rfl, trivial⟩) ?_
          refine ih_.2.1 t_ S_ hI_ hF_ ⟨?_, ?_, ?_, ?_, trivial⟩ ?_
          · rcases h1_ with ⟨e_, z1_, z2_⟩ | ⟨q0_, z1_, z2_, z3_, z4_⟩
            · rw [z1_]; exact z2_
            · have rowq := row_ q0_ (du_r z1_).1
              have cnq_ : S_.1 13 0 80 = (K_ : Int) := rowq.1
              first | (exact absurd z2_.1 hz_) | (have e_ : (zn2 b_ n_ K_ f_ x_) = .inr q0_ := (by unfold zn2; rw [z1_]; show (if p_fd (fun s_ => nm_q b_ n_ (f_ s_) q0_) K_ = -1 then _ else _) = _; rw [show K_ = i_.toNat by omega, if_pos z3_]); rw [e_]; exact z2_)
          · omega
          · exact tk_
          · exact row_
          · omega
        · have cx9_ : ¬ (vx8_ = 0) := of_decide_eq_false cx9_
          have hz_ := rt_if e1r (by omega)
          obtain ⟨q0_, hq0_, gq0_, fq0_, iq0_⟩ : ∃ q0_, (pb x_ (p_du b_ n_ 1)) = .inr q0_ ∧ rg b_ n_ T_ (.inr q0_) S_ ∧ p_fd (fun s_ => nm_q b_ n_ (f_ s_) q0_)  i_.toNat = -1 ∧ i_ ≤ (K_ : Int) := by rcases h1_ with ⟨e_, z1_, z2_⟩ | z_; (exact absurd (z2_.1.symm.trans hz_) z2_.2.2); exact z_
          have rowq := row_ q0_ (du_r hq0_).1
          have cnq_ : S_.1 13 0 80 = (K_ : Int) := rowq.1
          have rtq_ := rowq.2.2.1 i_.toNat (by omega)
          have tkq_ := tk_ q0_ hq0_
          have ptq_ := rtk_pl tt_ tkq_
          have soq_ : S_.2.2.1 119 0 t_.toNat ≠ 4 := by obtain ⟨i3_, y1_, y2_, y3_, y4_⟩ := tkq_; have y5_ := (tt_.2.2.1.1 i3_ y2_).2; rw [← y3_] at y5_; rw [y1_, Int.toNat_natCast, y5_.2.1, y4_.2]; decide
          refine sm_T_go 4 (c1 := (29, [some (.inr (.inr (some (13, 0)))), some (.inl t_), some (.inl i_)], [.inl i_, .inr (.inr (some (177, 0))), .inr (.inr (some (13, 0)))], S_)) rfl ?_
          refine sm_T_iald (n := 3) rfl rfl (by omega) (by omega) ?_
          have bx10_ : 0 ≤ S_.2.2.1 177 0 i_.toNat ∧ S_.2.2.1 177 0 i_.toNat ≤ 1280 := hI_.2 177 0 _
          refine sm_T_go 1 (c1 := (31, [some (.inr (.inr (some (13, 0)))), some (.inl t_), some (.inl i_)], [.inl t_, .inl (S_.2.2.1 177 0 i_.toNat), .inr (.inr (some (13, 0)))], S_)) rfl ?_
          refine sm_T_cal (d1 := 0) (Q1 := vq_301 (S_.2.2.1 177 0 i_.toNat) t_ b_ n_ T_ (f_ i_.toNat) q0_ S_) rfl rfl (by decide) (vc_301 (S_.2.2.1 177 0 i_.toNat) t_ b_ n_ T_ (f_ i_.toNat) q0_ S_ hI_ (by exact tt_) (by exact rtq_) (by exact tkq_)) (fun u_ Sx11_ px14_ => ?_)
          obtain ⟨rfl, vx16_, rfl, px14_⟩ := px14_
          have esm_ := px14_
          refine sm_T_b0 (a := 0) (z := 10) rfl (fun cx17_ => ?_) (fun cx17_ => ?_)
          · have cx17_ : vx16_ = 0 := of_decide_eq_true cx17_
            have nq_ : nm_q b_ n_ (f_ i_.toNat) q0_ = false := by cases z_ : nm_q b_ n_ (f_ i_.toNat) q0_; rfl; (rw [if_pos z_] at esm_; omega)
            refine sm_T_inc (a := 2) (z := 1) (v := i_) (w := i_ + 1) rfl rfl (by omega) (by omega) (by omega) ?_
            refine sm_T_go 1 (c1 := (8, [some (.inr (.inr (some (13, 0)))), some (.inl t_), some (.inl (i_ + 1))], [], S_)) rfl ?_
            refine ih_.1 t_ (i_ + 1) S_ hI_ hF_ ⟨?_, ?_, ?_, ?_, ?_, trivial⟩ ?_
            · omega
            · first | (left; exact ⟨_, z2e, gw_⟩) | (right; exact ⟨q0_, hq0_, gq0_, by rw [show (i_ + 1).toNat = i_.toNat + 1 by omega]; exact p_fd_nx fq0_ nq_, by omega⟩)
            · omega
            · exact tk_
            · first | exact roww | exact row_
            · omega
          · have cx17_ : ¬ (vx16_ = 0) := of_decide_eq_false cx17_
            have nq_ : nm_q b_ n_ (f_ i_.toNat) q0_ = true := by cases z_ : nm_q b_ n_ (f_ i_.toNat) q0_; (rw [if_neg (by rw [z_]; decide)] at esm_; omega); rfl
            have z2e : (zn2 b_ n_ K_ f_ x_) = .inl (10, q0_) := by unfold zn2; rw [hq0_]; show (if p_fd (fun s_ => nm_q b_ n_ (f_ s_) q0_)  K_ = -1 then _ else _) = _; rw [if_neg (by rw [p_fd_go fq0_ nq_ (show i_.toNat < K_ by omega)]; omega)]
            refine sm_T_go 3 (c1 := (41, [some (.inr (.inr (some (13, 0)))), some (.inl t_), some (.inl i_)], [.inl t_, .inl 10, .inr (.inr (some (13, 0)))], S_)) rfl ?_
            refine sm_T_cal (d1 := 0) (Q1 := vq_293 10 t_ S_) rfl rfl (by decide) (vc_293 10 t_ S_ hI_ (by decide) (by omega)) (fun u_ Sx18_ px21_ => ?_)
            obtain ⟨rfl, hIx19_, hFx20_, px21_⟩ := px21_
            have hFx22_ : ai_fr (sx_W vw_364) S0_ Sx18_ := ai_fr_tr hF_ (fr_le hFx20_ rfl)
            have ex23_ : Sx18_.1 13 0 80 = S_.1 13 0 80 := hFx20_.1 13 0 80 rfl
            have gw_ : rg b_ n_ T_ (.inl (10, q0_)) Sx18_ := by rcases px21_ with z_ | z_; (exact absurd hz_ z_.1); (exact ⟨z_.2.1.trans (if_neg soq_), z_.2.2.trans ptq_.2, by show (10 : Int) ≠ 0; decide⟩)
            have roww : ∀ pq_, x_ = .inr pq_ → inr_ b_ n_ T_ K_ f_ Sx18_ := fun pq_ hp_ => inr_fr (row_ pq_ hp_) hFx20_ rfl rfl
            refine sm_T_inc (a := 2) (z := 1) (v := i_) (w := i_ + 1) rfl rfl (by omega) (by omega) (by omega) ?_
            refine sm_T_go 1 (c1 := (8, [some (.inr (.inr (some (13, 0)))), some (.inl t_), some (.inl (i_ + 1))], [], Sx18_)) rfl ?_
            refine ih_.1 t_ (i_ + 1) Sx18_ hIx19_ hFx22_ ⟨?_, ?_, ?_, ?_, ?_, trivial⟩ ?_
            · omega
            · first | (left; exact ⟨_, z2e, gw_⟩) | (right; exact ⟨q0_, hq0_, gq0_, by rw [show (i_ + 1).toNat = i_.toNat + 1 by omega]; exact p_fd_nx fq0_ nq_, by omega⟩)
            · omega
            · exact tk_
            · first | exact roww | exact row_
            · omega
    · rintro t_ S_ hI_ hF_ ⟨g50_, tb_, tk_, row_, -⟩ hm_
      have tt_ := rtab_fr ht_ hF_ rfl rfl rfl rfl rfl
      refine sm_T_go 1 (c1 := (51, [some (.inr (.inr (some (13, 0)))), some (.inl t_), none], [.inr (.inr (some (13, 0)))], S_)) rfl ?_
      refine sm_T_cal (d1 := 0) (Q1 := vq_292  S_) rfl rfl (by decide) (vc_292  S_ hI_ ) (fun u_ Sx1_ px4_ => ?_)
      obtain ⟨rfl, vx6_, rfl, px4_⟩ := px4_
      have e2r := px4_
      refine sm_T_b0 (a := 0) (z := 18) rfl (fun cx7_ => ?_) (fun cx7_ => ?_)
      · have cx7_ : vx6_ = 0 := of_decide_eq_true cx7_
        have hz_ := wr_if e2r (by omega)
        obtain ⟨e5_, he5_⟩ := rg_w g50_ hz_
        have z3w : (zn3 b_ n_ K_ f_ 3 x_) = .inl e5_ := by unfold zn3; rw [he5_]; rfl
        have g3w := g50_
        rw [he5_] at g3w
        refine sm_T_go 0 (c1 := (72, [some (.inr (.inr (some (13, 0)))), some (.inl t_), none], [], S_)) rfl ?_
        refine ih_.2.2 t_ S_ hI_ hF_ ⟨?_, ?_, ?_, ?_, trivial⟩ ?_
        · first | exact gf_ | (rw [z3w]; exact g3w) | (rw [z3c, if_neg (by omega)]; exact g3r)
        · omega
        · exact tk_
        · first | exact rowf | exact row_
        · omega
      · have cx7_ : ¬ (vx6_ = 0) := of_decide_eq_false cx7_
        have hz_ := rt_if e2r (by omega)
        obtain ⟨q0_, i2_, hq2_, hi21_, hi22_⟩ := rg_r g50_ hz_
        have hq0_ := (zn2_r hq2_).1
        have g3r := g50_
        rw [hq2_] at g3r
        have z3c : (zn3 b_ n_ K_ f_ 3 x_) = if (K_ : Int) = 3 then .inl (15, q0_) else .inr q0_ := by unfold zn3; rw [hq2_]; rfl
        have rowq := row_ q0_ (du_r hq0_).1
        have cnq_ : S_.1 13 0 80 = (K_ : Int) := rowq.1
        have tkq_ := tk_ q0_ hq0_
        have ptq_ := rtk_pl tt_ tkq_
        have soq_ : S_.2.2.1 119 0 t_.toNat ≠ 4 := by obtain ⟨i3_, y1_, y2_, y3_, y4_⟩ := tkq_; have y5_ := (tt_.2.2.1.1 i3_ y2_).2; rw [← y3_] at y5_; rw [y1_, Int.toNat_natCast, y5_.2.1, y4_.2]; decide
        have bx8_ : 0 ≤ S_.1 13 0 80 ∧ S_.1 13 0 80 ≤ 3 := hI_.1 13 0 80 rfl
        refine sm_T_go 3 (c1 := (62, [some (.inr (.inr (some (13, 0)))), some (.inl t_), none], [.inl 3, .inl (S_.1 13 0 80)], S_)) rfl ?_
        refine sm_T_br (a := 1) (z := 10) rfl (fun cx9_ => ?_) (fun cx9_ => ?_)
        · have cx9_ : (S_.1 13 0 80) ≠ 3 := of_decide_eq_true cx9_
          refine sm_T_go 0 (c1 := (72, [some (.inr (.inr (some (13, 0)))), some (.inl t_), none], [], S_)) rfl ?_
          refine ih_.2.2 t_ S_ hI_ hF_ ⟨?_, ?_, ?_, ?_, trivial⟩ ?_
          · first | exact gf_ | (rw [z3w]; exact g3w) | (rw [z3c, if_neg (by omega)]; exact g3r)
          · omega
          · exact tk_
          · first | exact rowf | exact row_
          · omega
        · have cx9_ : ¬ ((S_.1 13 0 80) ≠ 3) := of_decide_eq_false cx9_
          refine sm_T_go 3 (c1 := (69, [some (.inr (.inr (some (13, 0)))), some (.inl t_), none], [.inl t_, .inl 15, .inr (.inr (some (13, 0)))], S_)) rfl ?_
          refine sm_T_cal (d1 := 0) (Q1 := vq_293 15 t_ S_) rfl rfl (by decide) (vc_293 15 t_ S_ hI_ (by decide) (by omega)) (fun u_ Sx10_ px13_ => ?_)
          obtain ⟨rfl, hIx11_, hFx12_, px13_⟩ := px13_
          have hFx14_ : ai_fr (sx_W vw_364) S0_ Sx10_ := ai_fr_tr hF_ (fr_le hFx12_ rfl)
          have ex15_ : Sx10_.1 13 0 80 = S_.1 13 0 80 := hFx12_.1 13 0 80 rfl
          have gf_ : rg b_ n_ T_ (zn3 b_ n_ K_ f_ 3 x_) Sx10_ := by rw [z3c, if_pos (by omega)]; rcases px13_ with z_ | z_; (exact absurd hz_ z_.1); (exact ⟨z_.2.1.trans (if_neg soq_), z_.2.2.trans ptq_.2, by show (15 : Int) ≠ 0; decide⟩)
          have rowf : ∀ pq_, x_ = .inr pq_ → inr_ b_ n_ T_ K_ f_ Sx10_ := fun pq_ hp_ => inr_fr (row_ pq_ hp_) hFx12_ rfl rfl
          refine sm_T_go 0 (c1 := (72, [some (.inr (.inr (some (13, 0)))), some (.inl t_), none], [], Sx10_)) rfl ?_
          refine ih_.2.2 t_ Sx10_ hIx11_ hFx14_ ⟨?_, ?_, ?_, ?_, trivial⟩ ?_
          · first | exact gf_ | (rw [z3w]; exact g3w) | (rw [z3c, if_neg (by omega)]; exact g3r)
          · omega
          · exact tk_
          · first | exact rowf | exact row_
          · omega
    · rintro t_ S_ hI_ hF_ ⟨g72_, tb_, tk_, row_, -⟩ hm_
      have tt_ := rtab_fr ht_ hF_ rfl rfl rfl rfl rfl
      refine sm_T_go 1 (c1 := (73, [some (.inr (.inr (some (13, 0)))), some (.inl t_), none], [.inr (.inr (some (13, 0)))], S_)) rfl ?_
      refine sm_T_cal (d1 := 2) (Q1 := vq_297 b_ n_ T_ (zn3 b_ n_ K_ f_ 3 x_) S_) rfl rfl (by decide) (vc_297 b_ n_ T_ (zn3 b_ n_ K_ f_ 3 x_) S_ hI_ (by exact tt_) (by exact g72_) (by (intro r_ e_; have z_ := (du_r (zn2_r (zn3_r e_).1).1).2; omega))) (fun u_ Sx1_ px4_ => ?_)
      obtain ⟨rfl, hIx2_, hFx3_, px4_⟩ := px4_
      have hFx5_ : ai_fr (sx_W vw_364) S0_ Sx1_ := ai_fr_tr hF_ (fr_le hFx3_ rfl)
      have ggo_ : rg b_ n_ T_ (pb x_ (p_nn b_ n_ K_ f_ 3)) Sx1_ := by rw [← nn_eq]; exact px4_.1
      have tgo_ := rtab_fr tt_ hFx3_ rfl rfl rfl rfl rfl
      have rowg : ∀ pq_, x_ = .inr pq_ → inr_ b_ n_ T_ K_ f_ Sx1_ := fun pq_ hp_ => inr_fr (row_ pq_ hp_) hFx3_ rfl rfl
      refine sm_T_go 1 (c1 := (77, [some (.inr (.inr (some (13, 0)))), some (.inl t_), none], [.inr (.inr (some (13, 0)))], Sx1_)) rfl ?_
      refine sm_T_cal (d1 := 0) (Q1 := vq_292  Sx1_) rfl rfl (by decide) (vc_292  Sx1_ hIx2_ ) (fun u_ Sx6_ px9_ => ?_)
      obtain ⟨rfl, vx11_, rfl, px9_⟩ := px9_
      have e77_ := px9_
      refine sm_T_b0 (a := 0) (z := 23) rfl (fun cx12_ => ?_) (fun cx12_ => ?_)
      · have cx12_ : vx11_ = 0 := of_decide_eq_true cx12_
        have hz7_ := wr_if e77_ (by omega)
        refine sm_T_rv rfl ⟨_, _, rfl, rfl, hIx2_, hFx5_, ?_⟩
        first | (refine ⟨ggo_, fun p_ r_ hp_ hr_ => ?_⟩; rw [hp_] at ggo_; have ggo_ : rg b_ n_ T_ (p_nn b_ n_ K_ f_ 3 p_) _ := ggo_; rw [hr_] at ggo_; exact absurd ggo_.1 hz7_) | (refine ⟨rg_fr (w_ := ([(13, 80)], [177], [])) ggo_ (ai_fr_tr (ai_fr_aI rfl) (ai_fr_pI rfl)) rfl rfl rfl, fun p_ r_ hp_ hr_ => ?_⟩; have e9_ : p7_ = p_ := (by rw [hp7_] at hp_; cases hp_; rfl); subst e9_; exact inr_up row7_ (by omega) tk7_ fd7_ (by rw [rf_eq]; show _ + 1 = _; omega) (fun j_ => by rw [rd_fa, rd_eq]; by_cases z_ : j_ = K_; (rw [if_pos (by omega), if_pos z_]); (rw [if_neg (by omega), if_neg z_])))
      · have cx12_ : ¬ (vx11_ = 0) := of_decide_eq_false cx12_
        have hz7_ := rt_if e77_ (by omega)
        obtain ⟨r7_, i7_, hr7_, hi71_, hi72_⟩ := rg_r ggo_ hz7_
        obtain ⟨p7_, hp7_, hn7_⟩ := pb_inr hr7_
        have row7_ := rowg p7_ hp7_
        have n7_ := p_nn_ok hn7_
        have k7_ := row7_.1
        have k7b := row7_.2.1
        have k7c := n7_.1
        have fd7_ : p_fd (fun s_ => nm_q b_ n_ (f_ s_) p7_) K_ = -1 := by unfold p_nn at hn7_; rw [if_pos n7_.2.1] at hn7_; by_cases z_ : p_fd (fun s_ => nm_q b_ n_ (f_ s_) p7_) K_ = -1; exact z_; (rw [if_neg z_] at hn7_; cases hn7_)
        have tk7_ := tk_ p7_ (by rw [hp7_]; show p_du b_ n_ 1 p7_ = _; unfold p_du; rw [if_pos n7_.2.1])
        have bx13_ : 0 ≤ Sx1_.1 13 0 80 ∧ Sx1_.1 13 0 80 ≤ 3 := hIx2_.1 13 0 80 rfl
        refine sm_T_go 5 (c1 := (92, [some (.inr (.inr (some (13, 0)))), some (.inl t_), none], [.inl t_, .inl (Sx1_.1 13 0 80), .inr (.inr (some (177, 0)))], Sx1_)) rfl ?_
        refine sm_T_iast (n := 3) rfl rfl (by omega) (by omega) ?_
        have hIx14_ : gi (sm_aI Sx1_ 177 0 (Sx1_.1 13 0 80).toNat t_) := gi_aI hIx2_ (show 0 ≤ t_ ∧ t_ ≤ 1280 from ⟨by omega, by omega⟩)
        have hFx15_ : ai_fr (sx_W vw_364) S0_ (sm_aI Sx1_ 177 0 (Sx1_.1 13 0 80).toNat t_) := ai_fr_tr hFx5_ (ai_fr_aI rfl)
        refine sm_T_go 4 (c1 := (99, [some (.inr (.inr (some (13, 0)))), some (.inl t_), none], [.inl 1, .inl (Sx1_.1 13 0 80), .inr (.inr (some (13, 0)))], sm_aI Sx1_ 177 0 (Sx1_.1 13 0 80).toNat t_)) rfl ?_
        refine sm_T_bin (w := (Sx1_.1 13 0 80) + 1) rfl (bi_add (by omega) (by omega) (by omega)) ?_
        have hIx16_ : gi (sm_pI (sm_aI Sx1_ 177 0 (Sx1_.1 13 0 80).toNat t_) 13 0 80 ((Sx1_.1 13 0 80) + 1)) := gi_pI hIx14_ (show 0 ≤ (Sx1_.1 13 0 80) + 1 ∧ (Sx1_.1 13 0 80) + 1 ≤ 3 from ⟨by omega, by omega⟩)
        have hFx17_ : ai_fr (sx_W vw_364) S0_ (sm_pI (sm_aI Sx1_ 177 0 (Sx1_.1 13 0 80).toNat t_) 13 0 80 ((Sx1_.1 13 0 80) + 1)) := ai_fr_tr hFx15_ (ai_fr_pI rfl)
        refine sm_T_go 1 (c1 := (103, [some (.inr (.inr (some (13, 0)))), some (.inl t_), none], [], sm_pI (sm_aI Sx1_ 177 0 (Sx1_.1 13 0 80).toNat t_) 13 0 80 ((Sx1_.1 13 0 80) + 1))) rfl ?_
        refine sm_T_rv rfl ⟨_, _, rfl, rfl, hIx16_, hFx17_, ?_⟩
        first | (refine ⟨ggo_, fun p_ r_ hp_ hr_ => ?_⟩; rw [hp_] at ggo_; have ggo_ : rg b_ n_ T_ (p_nn b_ n_ K_ f_ 3 p_) _ := ggo_; rw [hr_] at ggo_; exact absurd ggo_.1 hz7_) | (refine ⟨rg_fr (w_ := ([(13, 80)], [177], [])) ggo_ (ai_fr_tr (ai_fr_aI rfl) (ai_fr_pI rfl)) rfl rfl rfl, fun p_ r_ hp_ hr_ => ?_⟩; have e9_ : p7_ = p_ := (by rw [hp7_] at hp_; cases hp_; rfl); subst e9_; exact inr_up row7_ (by omega) tk7_ fd7_ (by rw [rf_eq]; show _ + 1 = _; omega) (fun j_ => by rw [rd_fa, rd_eq]; by_cases z_ : j_ = K_; (rw [if_pos (by omega), if_pos z_]); (rw [if_neg (by omega), if_neg z_])))
set_option maxHeartbeats 1000000 in
theorem vc_364 {sc_ : Nat × (Nat → Int)} (b_ : Nat → Int) (n_ : Nat) (T_ : Nat) (x_ : pE Nat) (K_ : Nat) (f_ : Nat → Nat) (S0_ : sm_S) (hI_ : gi S0_) (ht_ : rtab b_ n_ T_ S0_) (hx_ : rg b_ n_ T_ x_ S0_) (hin_ : ∀ p_, x_ = .inr p_ → inr_ b_ n_ T_ K_ f_ S0_) : sm_T (mt_P sc_) 3 364 (0, [some (.inr (.inr (some (13, 0)))), none, none], [], S0_) (fun r_ => ∃ u_ S1_, r_ = (.inl u_, S1_, 0) ∧ vq_364 b_ n_ T_ x_ K_ f_ S0_ u_ S1_) := by
  have hF_ : ai_fr (sx_W vw_364) S0_ S0_ := ai_fr_rf
  refine sm_T_go 2 (c1 := (2, [some (.inr (.inr (some (13, 0)))), none, none], [.inl 1, .inr (.inr (some (13, 0)))], S0_)) rfl ?_
  refine sm_T_cal (d1 := 1) (Q1 := vq_299 1 b_ n_ T_ x_ S0_) rfl rfl (by decide) (vc_299 1 b_ n_ T_ x_ S0_ hI_ (by exact ht_) (by exact hx_) (by decide)) (fun u_ Sx1_ px4_ => ?_)
  obtain ⟨vx6_, rfl, hIx2_, hFx3_, px4_⟩ := px4_
  have hFx5_ : ai_fr (sx_W vw_364) S0_ Sx1_ := ai_fr_tr hF_ (fr_le hFx3_ rfl)
  have a23_ := px4_.1
  have g23_ : rg b_ n_ T_ (pb x_ (p_du b_ n_ 1)) Sx1_ := px4_.2
  have t23_ := rtab_fr ht_ hFx3_ rfl rfl rfl rfl rfl
  have at23_ := hFx3_.1 13 0 9 rfl
  have v23b : 0 ≤ vx6_ ∧ vx6_ ≤ 1280 := by rw [a23_, ← at23_]; exact hIx2_.1 13 0 9 rfl
  have rt23_ : ∀ r_, (pb x_ (p_du b_ n_ 1)) = .inr r_ → rtk b_ n_ T_ vx6_ r_ := by intro r_ hr_; rw [hr_] at g23_; obtain ⟨i3_, q1_, q2_⟩ := g23_.2; rw [show vx6_ = (i3_ : Int) by omega]; exact (rp_rtk t23_ q2_ (du_r hr_).2).1
  have row23_ : ∀ pq_, x_ = .inr pq_ → inr_ b_ n_ T_ K_ f_ Sx1_ := fun pq_ hp_ => inr_fr (hin_ pq_ hp_) hFx3_ rfl rfl
  refine sm_T_go 3 (c1 := (8, [some (.inr (.inr (some (13, 0)))), some (.inl vx6_), some (.inl 0)], [], Sx1_)) rfl ?_
  refine (vl_364 b_ n_ T_ x_ K_ f_ S0_ ht_ hx_ hin_ _).1 vx6_ 0 Sx1_ hIx2_ hFx5_ ⟨?_, ?_, ?_, ?_, ?_, trivial⟩ (Nat.lt_succ_self _)
  · omega
  · cases hq_ : (pb x_ (p_du b_ n_ 1)) with
    | inl e_ => left; rw [hq_] at g23_; exact ⟨e_, by unfold zn2; rw [hq_]; rfl, g23_⟩
    | inr q0_ => right; rw [hq_] at g23_; exact ⟨q0_, rfl, g23_, rfl, by omega⟩
  · omega
  · exact rt23_
  · exact row23_
end
/-! 99.z2a -/
section
/-! the reference: measures of cells; written by wip/p55/gen/vg -/

/-! measures of_ cells -/
theorem ms_w {b_ : Nat → Int} {n_ : Nat} {mo_ : Int} {x_ : pE Nat} {e_ : Int × Nat} (h_ : pb x_ (p_du b_ n_ 2) = .inl e_) : pb x_ (p_ms b_ n_ mo_) = .inl e_ := by
  cases x_ with
  | inl z_ => cases h_; rfl
  | inr q_ =>
    have h_ : p_du b_ n_ 2 q_ = .inl e_ := h_
    show p_ms b_ n_ mo_ q_ = .inl e_
    unfold p_du at h_
    unfold p_ms p_nu
    split at h_
    · cases h_
    · rename_i g_
      cases h_
      rw [if_neg g_]
      rfl
theorem ms_r {b_ : Nat → Int} {n_ q_ : Nat} {mo_ : Int} {x_ : pE Nat} (h_ : pb x_ (p_du b_ n_ 2) = .inr q_) : lx_kd b_ n_ q_ = 2 ∧ pb x_ (p_ms b_ n_ mo_) = if lx_vl b_ n_ q_ < 1 ∨ mo_ < lx_vl b_ n_ q_ then .inl (12, q_) else pb (p_ad b_ n_ q_) fun r_ => .inr (r_, lx_vl b_ n_ q_) := by
  obtain ⟨r_, h1_, h2_⟩ := pb_inr h_
  subst h1_
  unfold p_du at h2_
  split at h2_
  · rename_i g_
    cases h2_
    refine ⟨g_, ?_⟩
    show p_ms b_ n_ mo_ q_ = _
    unfold p_ms p_nu
    rw [if_pos g_]
    split <;> rfl
  · cases h2_
/-! M_.bounded -/
def vw_365 : sx_Wl := ([(13, 9), (13, 10), (13, 11)], [], [])
def vq_365 (mo_ : Int) (b_ : Nat → Int) (n_ : Nat) (T_ : Nat) (x_ : pE Nat) (S0_ : sm_S) (u_ : Option sm_V) (S1_ : sm_S) : Prop := ∃ v_ : Int, u_ = some (.inl v_) ∧ gi S1_ ∧ ai_fr (sx_W vw_365) S0_ S1_ ∧ (rg b_ n_ T_ (pb (pb (pb x_ (p_nd b_ n_ 44)) (p_ms b_ n_ mo_)) fun r_ => .inr r_.1) S1_ ∧ (∀ r_, pb (pb x_ (p_nd b_ n_ 44)) (p_ms b_ n_ mo_) = .inr r_ → v_ = r_.2) ∧ (-2147483648 ≤ v_ ∧ v_ ≤ 2147483647))
set_option maxHeartbeats 1000000 in
theorem vc_365 {sc_ : Nat × (Nat → Int)} (mo_ : Int) (b_ : Nat → Int) (n_ : Nat) (T_ : Nat) (x_ : pE Nat) (S0_ : sm_S) (hI_ : gi S0_) (ht_ : rtab b_ n_ T_ S0_) (hx_ : rg b_ n_ T_ x_ S0_) : sm_T (mt_P sc_) 4 365 (0, [some (.inr (.inr (some (13, 0)))), some (.inl mo_), none], [], S0_) (fun r_ => ∃ u_ S1_, r_ = (.inl u_, S1_, 0) ∧ vq_365 mo_ b_ n_ T_ x_ S0_ u_ S1_) := by
  have hF_ : ai_fr (sx_W vw_365) S0_ S0_ := ai_fr_rf
  refine sm_T_go 2 (c1 := (3, [some (.inr (.inr (some (13, 0)))), some (.inl mo_), none], [.inl 44, .inr (.inr (some (13, 0)))], S0_)) rfl ?_
  refine sm_T_cal (d1 := 3) (Q1 := vq_300 44 b_ n_ T_ x_ S0_) rfl rfl (by decide) (vc_300 44 b_ n_ T_ x_ S0_ hI_ (by exact ht_) (by exact hx_) (by decide)) (fun u_ Sx1_ px4_ => ?_)
  obtain ⟨rfl, hIx2_, hFx3_, px4_⟩ := px4_
  have hFx5_ : ai_fr (sx_W vw_365) S0_ Sx1_ := ai_fr_tr hF_ (fr_le hFx3_ rfl)
  have g3_ : rg b_ n_ T_ (pb x_ (p_nd b_ n_ 44)) Sx1_ := px4_
  have t3_ := rtab_fr ht_ hFx3_ rfl rfl rfl rfl rfl
  refine sm_T_go 2 (c1 := (8, [some (.inr (.inr (some (13, 0)))), some (.inl mo_), none], [.inl 2, .inr (.inr (some (13, 0)))], Sx1_)) rfl ?_
  refine sm_T_cal (d1 := 1) (Q1 := vq_299 2 b_ n_ T_ (pb x_ (p_nd b_ n_ 44)) Sx1_) rfl rfl (by decide) (vc_299 2 b_ n_ T_ (pb x_ (p_nd b_ n_ 44)) Sx1_ hIx2_ (by exact t3_) (by exact g3_) (by decide)) (fun u_ Sx6_ px9_ => ?_)
  obtain ⟨vx11_, rfl, hIx7_, hFx8_, px9_⟩ := px9_
  have hFx10_ : ai_fr (sx_W vw_365) S0_ Sx6_ := ai_fr_tr hFx5_ (fr_le hFx8_ rfl)
  have a8_ := px9_.1
  have g8_ := px9_.2
  have t8_ := rtab_fr t3_ hFx8_ rfl rfl rfl rfl rfl
  have at8_ := hFx8_.1 13 0 9 rfl
  have v8b : 0 ≤ vx11_ ∧ vx11_ ≤ 1280 := by rw [a8_, ← at8_]; exact hIx7_.1 13 0 9 rfl
  have nv17_ : ∀ r_ i3_ : Nat, Sx6_.1 13 0 9 = (i3_ : Int) → rp b_ n_ T_ i3_ r_ → lx_kd b_ n_ r_ = 2 → Sx6_.2.2.1 121 0 vx11_.toNat = lx_vl b_ n_ r_ ∧ Sx6_.2.2.1 120 0 vx11_.toNat = (r_ : Int) ∧ Sx6_.2.2.1 119 0 vx11_.toNat ≠ 4 := by intro r_ i3_ q1_ q2_ q3_; have q4_ := rp_at t8_ q2_; rw [show vx11_.toNat = i3_ by omega, q4_.1, q4_.2.1, q4_.2.2.1, q3_]; exact ⟨rfl, rfl, by decide⟩
  obtain ⟨nz_, hnz_⟩ : ∃ nz_, Sx6_.2.2.1 121 0 vx11_.toNat = nz_ := ⟨_, rfl⟩
  refine sm_T_go 2 (c1 := (13, [some (.inr (.inr (some (13, 0)))), some (.inl mo_), some (.inl vx11_)], [.inr (.inr (some (13, 0)))], Sx6_)) rfl ?_
  refine sm_T_cal (d1 := 0) (Q1 := vq_292  Sx6_) rfl rfl (by decide) (vc_292  Sx6_ hIx7_ ) (fun u_ Sx12_ px15_ => ?_)
  obtain ⟨rfl, vx17_, rfl, px15_⟩ := px15_
  have e13_ := px15_
  refine sm_T_b0 (a := 0) (z := 24) rfl (fun cx18_ => ?_) (fun cx18_ => ?_)
  · have cx18_ : vx17_ = 0 := of_decide_eq_true cx18_
    obtain ⟨e3_, he3_⟩ := rg_w g8_ (wr_if e13_ (by omega))
    have cw3_ := ms_w (mo_ := mo_) he3_
    rw [he3_] at g8_
    obtain ⟨x4_, hx4_, hx4b⟩ : ∃ x4_ : pE Nat, rg b_ n_ T_ x4_ _ ∧ x4_ = .inl e3_ := ⟨_, g8_, rfl⟩
    have t4_ := t8_
    have nz4_ := hnz_
    refine sm_T_go 1 (c1 := (41, [some (.inr (.inr (some (13, 0)))), some (.inl mo_), some (.inl vx11_)], [.inr (.inr (some (13, 0)))], Sx6_)) rfl ?_
    refine sm_T_cal (d1 := 2) (Q1 := vq_297 b_ n_ T_ x4_ Sx6_) rfl rfl (by decide) (vc_297 b_ n_ T_ x4_ Sx6_ hIx7_ (by exact t4_) (by exact hx4_) (by (intro z_ e_; rw [hx4b] at e_; first | (cases e_; done) | (cases e_; rw [cr.1]; decide)))) (fun u_ Sx19_ px22_ => ?_)
    obtain ⟨rfl, hIx20_, hFx21_, px22_⟩ := px22_
    have hFx23_ : ai_fr (sx_W vw_365) S0_ Sx19_ := ai_fr_tr hFx10_ (fr_le hFx21_ rfl)
    have g41_ := px22_.1
    rw [hx4b] at g41_
    have nz5_ : Sx19_.2.2.1 121 0 _ = nz_ := (by rw [fr_arr hFx21_ rfl]; exact nz4_)
    refine sm_T_go 3 (c1 := (49, [some (.inr (.inr (some (13, 0)))), some (.inl mo_), some (.inl vx11_)], [.inl vx11_, .inr (.inr (some (121, 0)))], Sx19_)) rfl ?_
    refine sm_T_iald (n := 65537) rfl rfl (by omega) (by omega) ?_
    have bx24_ : (-2147483648) ≤ Sx19_.2.2.1 121 0 vx11_.toNat ∧ Sx19_.2.2.1 121 0 vx11_.toNat ≤ 2147483647 := hIx20_.2 121 0 _
    refine sm_T_ri rfl ⟨_, _, rfl, _, rfl, hIx20_, hFx23_, ?_⟩
    refine ⟨?_, fun r_ hr_ => ?_, by omega⟩
    · first | (rw [cw3_]; exact g41_) | (rw [crv_]; first | exact g41_ | (rw [pb_as]; have z_ : (pb (p_ad b_ n_ q_) fun a_ => pb (.inr (a_, lx_vl b_ n_ q_)) fun r_ => .inr r_.1) = p_ad b_ n_ q_ := pb_id; rw [z_]; exact g41_))
    · first | (rw [cw3_] at hr_; cases hr_; done) | (rw [crv_] at hr_; first | (cases hr_; done) | (obtain ⟨r9_, z1_, z2_⟩ := pb_inr hr_; cases z2_; rw [nz5_, ← hnz_]; exact nv_.1))
  · have cx18_ : ¬ (vx17_ = 0) := of_decide_eq_false cx18_
    have hz4_ := rt_if e13_ (by omega)
    obtain ⟨q_, i3_, hq3_, e31_, e32_⟩ := rg_r g8_ hz4_
    have cr := ms_r (mo_ := mo_) hq3_
    have nv_ := nv17_ q_ i3_ e31_ e32_ cr.1
    refine sm_T_go 3 (c1 := (24, [some (.inr (.inr (some (13, 0)))), some (.inl mo_), some (.inl vx11_)], [.inl vx11_, .inr (.inr (some (121, 0)))], Sx6_)) rfl ?_
    refine sm_T_iald (n := 65537) rfl rfl (by omega) (by omega) ?_
    have bx25_ : (-2147483648) ≤ Sx6_.2.2.1 121 0 vx11_.toNat ∧ Sx6_.2.2.1 121 0 vx11_.toNat ≤ 2147483647 := hIx7_.2 121 0 _
    refine sm_T_go 2 (c1 := (27, [some (.inr (.inr (some (13, 0)))), some (.inl mo_), some (.inl vx11_)], [.inl mo_, .inl 1, .inl (Sx6_.2.2.1 121 0 vx11_.toNat)], Sx6_)) rfl ?_
    refine sm_T_cal (d1 := 0) (Q1 := vq_278 (Sx6_.2.2.1 121 0 vx11_.toNat) 1 mo_ Sx6_) rfl rfl (by decide) (vc_278 (Sx6_.2.2.1 121 0 vx11_.toNat) 1 mo_ Sx6_ hIx7_ ) (fun u_ Sx26_ px29_ => ?_)
    obtain ⟨rfl, vx31_, rfl, px29_⟩ := px29_
    have e27_ := px29_
    refine sm_T_b0 (a := 1) (z := 10) rfl (fun cx32_ => ?_) (fun cx32_ => ?_)
    · have cx32_ : vx31_ ≠ 0 := of_decide_eq_true cx32_
      rw [hq3_] at g8_
      obtain ⟨x4_, hx4_, hx4b⟩ : ∃ x4_ : pE Nat, rg b_ n_ T_ x4_ _ ∧ x4_ = .inr q_ := ⟨_, g8_, rfl⟩
      have crv_ := cr.2
      have e28_ := e27_.2.mp (by omega)
      rw [if_neg (by omega)] at crv_
      have t4_ := t8_
      have nz4_ := hnz_
      refine sm_T_go 1 (c1 := (41, [some (.inr (.inr (some (13, 0)))), some (.inl mo_), some (.inl vx11_)], [.inr (.inr (some (13, 0)))], Sx6_)) rfl ?_
      refine sm_T_cal (d1 := 2) (Q1 := vq_297 b_ n_ T_ x4_ Sx6_) rfl rfl (by decide) (vc_297 b_ n_ T_ x4_ Sx6_ hIx7_ (by exact t4_) (by exact hx4_) (by (intro z_ e_; rw [hx4b] at e_; first | (cases e_; done) | (cases e_; rw [cr.1]; decide)))) (fun u_ Sx33_ px36_ => ?_)
      obtain ⟨rfl, hIx34_, hFx35_, px36_⟩ := px36_
      have hFx37_ : ai_fr (sx_W vw_365) S0_ Sx33_ := ai_fr_tr hFx10_ (fr_le hFx35_ rfl)
      have g41_ := px36_.1
      rw [hx4b] at g41_
      have nz5_ : Sx33_.2.2.1 121 0 _ = nz_ := (by rw [fr_arr hFx35_ rfl]; exact nz4_)
      refine sm_T_go 3 (c1 := (49, [some (.inr (.inr (some (13, 0)))), some (.inl mo_), some (.inl vx11_)], [.inl vx11_, .inr (.inr (some (121, 0)))], Sx33_)) rfl ?_
      refine sm_T_iald (n := 65537) rfl rfl (by omega) (by omega) ?_
      have bx38_ : (-2147483648) ≤ Sx33_.2.2.1 121 0 vx11_.toNat ∧ Sx33_.2.2.1 121 0 vx11_.toNat ≤ 2147483647 := hIx34_.2 121 0 _
      refine sm_T_ri rfl ⟨_, _, rfl, _, rfl, hIx34_, hFx37_, ?_⟩
      refine ⟨?_, fun r_ hr_ => ?_, by omega⟩
      · first | (rw [cw3_]; exact g41_) | (rw [crv_]; first | exact g41_ | (rw [pb_as]; have z_ : (pb (p_ad b_ n_ q_) fun a_ => pb (.inr (a_, lx_vl b_ n_ q_)) fun r_ => .inr r_.1) = p_ad b_ n_ q_ := pb_id; rw [z_]; exact g41_))
      · first | (rw [cw3_] at hr_; cases hr_; done) | (rw [crv_] at hr_; first | (cases hr_; done) | (obtain ⟨r9_, z1_, z2_⟩ := pb_inr hr_; cases z2_; rw [nz5_, ← hnz_]; exact nv_.1))
    · have cx32_ : ¬ (vx31_ ≠ 0) := of_decide_eq_false cx32_
      have crv_ := cr.2
      have e28_ : ¬ (1 ≤ lx_vl b_ n_ q_ ∧ lx_vl b_ n_ q_ ≤ mo_) := fun z_ => by have := e27_.2.mpr (by omega); omega
      rw [if_pos (by omega)] at crv_
      refine sm_T_go 3 (c1 := (37, [some (.inr (.inr (some (13, 0)))), some (.inl mo_), some (.inl vx11_)], [.inl vx11_, .inl 12, .inr (.inr (some (13, 0)))], Sx6_)) rfl ?_
      refine sm_T_cal (d1 := 0) (Q1 := vq_293 12 vx11_ Sx6_) rfl rfl (by decide) (vc_293 12 vx11_ Sx6_ hIx7_ (by decide) (by omega)) (fun u_ Sx39_ px42_ => ?_)
      obtain ⟨rfl, hIx40_, hFx41_, px42_⟩ := px42_
      have hFx43_ : ai_fr (sx_W vw_365) S0_ Sx39_ := ai_fr_tr hFx10_ (fr_le hFx41_ rfl)
      have g36_ : rg b_ n_ T_ (.inl (12, q_)) Sx39_ := by rcases px42_ with z_ | z_; (exact absurd hz4_ z_.1); (exact ⟨z_.2.1.trans (if_neg nv_.2.2), z_.2.2.trans nv_.2.1, by show (12 : Int) ≠ 0; decide⟩)
      obtain ⟨x4_, hx4_, hx4b⟩ : ∃ x4_ : pE Nat, rg b_ n_ T_ x4_ Sx39_ ∧ x4_ = .inl (12, q_) := ⟨_, g36_, rfl⟩
      have t4_ := rtab_fr t8_ hFx41_ rfl rfl rfl rfl rfl
      have nz4_ : Sx39_.2.2.1 121 0 _ = nz_ := (by rw [fr_arr hFx41_ rfl]; exact hnz_)
      refine sm_T_go 1 (c1 := (41, [some (.inr (.inr (some (13, 0)))), some (.inl mo_), some (.inl vx11_)], [.inr (.inr (some (13, 0)))], Sx39_)) rfl ?_
      refine sm_T_cal (d1 := 2) (Q1 := vq_297 b_ n_ T_ x4_ Sx39_) rfl rfl (by decide) (vc_297 b_ n_ T_ x4_ Sx39_ hIx40_ (by exact t4_) (by exact hx4_) (by (intro z_ e_; rw [hx4b] at e_; first | (cases e_; done) | (cases e_; rw [cr.1]; decide)))) (fun u_ Sx44_ px47_ => ?_)
      obtain ⟨rfl, hIx45_, hFx46_, px47_⟩ := px47_
      have hFx48_ : ai_fr (sx_W vw_365) S0_ Sx44_ := ai_fr_tr hFx43_ (fr_le hFx46_ rfl)
      have g41_ := px47_.1
      rw [hx4b] at g41_
      have nz5_ : Sx44_.2.2.1 121 0 _ = nz_ := (by rw [fr_arr hFx46_ rfl]; exact nz4_)
      refine sm_T_go 3 (c1 := (49, [some (.inr (.inr (some (13, 0)))), some (.inl mo_), some (.inl vx11_)], [.inl vx11_, .inr (.inr (some (121, 0)))], Sx44_)) rfl ?_
      refine sm_T_iald (n := 65537) rfl rfl (by omega) (by omega) ?_
      have bx49_ : (-2147483648) ≤ Sx44_.2.2.1 121 0 vx11_.toNat ∧ Sx44_.2.2.1 121 0 vx11_.toNat ≤ 2147483647 := hIx45_.2 121 0 _
      refine sm_T_ri rfl ⟨_, _, rfl, _, rfl, hIx45_, hFx48_, ?_⟩
      refine ⟨?_, fun r_ hr_ => ?_, by omega⟩
      · first | (rw [cw3_]; exact g41_) | (rw [crv_]; first | exact g41_ | (rw [pb_as]; have z_ : (pb (p_ad b_ n_ q_) fun a_ => pb (.inr (a_, lx_vl b_ n_ q_)) fun r_ => .inr r_.1) = p_ad b_ n_ q_ := pb_id; rw [z_]; exact g41_))
      · first | (rw [cw3_] at hr_; cases hr_; done) | (rw [crv_] at hr_; first | (cases hr_; done) | (obtain ⟨r9_, z1_, z2_⟩ := pb_inr hr_; cases z2_; rw [nz5_, ← hnz_]; exact nv_.1))
end
/-! 99.z3a -/
section
/-! the reference: cells; written by wip/p55/gen/vg -/

/-! cells -/
def y_1 (b_ : Nat → Int) (n_ K_ : Nat) (f_ : Nat → Nat) (p_ : Nat) : pE (Nat × Nat) := pb (p_nd b_ n_ 9 p_) fun q_ => pb (p_nn b_ n_ K_ f_ 12 q_) fun r_ => .inr (q_, r_)
def y_2 (b_ : Nat → Int) (n_ K_ : Nat) (f_ : Nat → Nat) (p_ : Nat) : pE (Nat × Nat) := pb (y_1 b_ n_ K_ f_ p_) fun a_ => pb (p_nd b_ n_ 40 a_.2) fun u_ => .inr (a_.1, u_)
def y_3 (b_ : Nat → Int) (n_ K_ : Nat) (f_ : Nat → Nat) (p_ : Nat) : pE (Nat × pI) := pb (y_2 b_ n_ K_ f_ p_) fun a_ => pb (p_ci b_ n_ 4 0 f_0 a_.2) fun i_ => .inr (a_.1, i_)
def y_4 (b_ : Nat → Int) (n_ K_ : Nat) (f_ : Nat → Nat) (p_ : Nat) : pE ((Nat × pI) × Nat) := pb (y_3 b_ n_ K_ f_ p_) fun a_ => pb (p_nd b_ n_ 41 a_.2.2.2) fun w_ => .inr (a_, w_)
def y_5 (b_ : Nat → Int) (n_ K_ : Nat) (f_ : Nat → Nat) (p_ : Nat) : pE ((Nat × pI) × Nat) := pb (y_4 b_ n_ K_ f_ p_) fun a_ => pb (p_nd b_ n_ 61 a_.2) fun x_ => .inr (a_.1, x_)
def y_6 (b_ : Nat → Int) (n_ K_ : Nat) (f_ : Nat → Nat) (p_ : Nat) : pE ((Nat × pI) × pR) := pb (y_5 b_ n_ K_ f_ p_) fun a_ => pb (p_ex b_ n_ true (p_pl b_ n_ a_.1.2.1 a_.1.2.2.1) [] a_.2) fun y_ => .inr (a_.1, y_)
def y_7 (b_ : Nat → Int) (n_ K_ : Nat) (f_ : Nat → Nat) (p_ : Nat) : pE (((Nat × pI) × pR) × (Nat × Int)) := pb (y_6 b_ n_ K_ f_ p_) fun a_ => pb (pb (p_nd b_ n_ 44 a_.2.1) (p_ms b_ n_ 1000)) fun ar_ => .inr (a_, ar_)
def y_8 (b_ : Nat → Int) (n_ K_ : Nat) (f_ : Nat → Nat) (p_ : Nat) : pE ((((Nat × pI) × pR) × (Nat × Int)) × (Nat × Int)) := pb (y_7 b_ n_ K_ f_ p_) fun a_ => pb (pb (p_nd b_ n_ 44 a_.2.1) (p_ms b_ n_ 100)) fun dl_ => .inr (a_, dl_)
def y_9 (b_ : Nat → Int) (n_ K_ : Nat) (f_ : Nat → Nat) (p_ : Nat) : pE (((((Nat × pI) × pR) × (Nat × Int)) × (Nat × Int)) × Nat) := pb (y_8 b_ n_ K_ f_ p_) fun a_ => pb (p_nd b_ n_ 59 a_.2.1) fun z_ => .inr (a_, z_)
theorem ce_y {b_ : Nat → Int} {n_ K_ p_ : Nat} {f_ : Nat → Nat} : p_ce b_ n_ K_ f_ p_ = pb (y_9 b_ n_ K_ f_ p_) fun a_ => .inr (a_.1.1.1.1.1, a_.1.1.1.1.2.1, p_tb a_.1.1.1.1.2.1 (h_tp a_.1.1.1.2.2.1), a_.1.1.2.2, a_.1.2.2, a_.2) := by
  unfold p_ce y_9 y_8 y_7 y_6 y_5 y_4 y_3 y_2 y_1
  simp only [pb_as, pb_ir]
def g_d {α : Type} (z_ : pE α) (d_ : α) : α := match z_ with
  | .inl _ => d_
  | .inr a_ => a_
theorem y5_1 {b_ : Nat → Int} {n_ K_ p_ : Nat} {f_ : Nat → Nat} {a_ : (Nat × pI) × Nat} (h_ : y_5 b_ n_ K_ f_ p_ = .inr a_) : y_3 b_ n_ K_ f_ p_ = .inr a_.1 := by
  obtain ⟨a4_, h1_, h2_⟩ := pb_inr h_
  obtain ⟨x_, h3_, h4_⟩ := pb_inr h2_
  cases h4_
  obtain ⟨a3_, h5_, h6_⟩ := pb_inr h1_
  obtain ⟨w_, h7_, h8_⟩ := pb_inr h6_
  cases h8_
  exact h5_
theorem y3_1 {b_ : Nat → Int} {n_ K_ p_ : Nat} {f_ : Nat → Nat} {a_ : Nat × pI} (h_ : y_3 b_ n_ K_ f_ p_ = .inr a_) : ∃ u_, y_2 b_ n_ K_ f_ p_ = .inr (a_.1, u_) := by
  obtain ⟨a2_, h1_, h2_⟩ := pb_inr h_
  obtain ⟨i_, h3_, h4_⟩ := pb_inr h2_
  cases h4_
  exact ⟨a2_.2, h1_⟩
theorem y2_1 {b_ : Nat → Int} {n_ K_ p_ : Nat} {f_ : Nat → Nat} {a_ : Nat × Nat} (h_ : y_2 b_ n_ K_ f_ p_ = .inr a_) : p_nd b_ n_ 9 p_ = .inr a_.1 ∧ ∃ r_, p_nn b_ n_ K_ f_ 12 a_.1 = .inr r_ := by
  obtain ⟨a1_, h1_, h2_⟩ := pb_inr h_
  obtain ⟨u_, h3_, h4_⟩ := pb_inr h2_
  cases h4_
  obtain ⟨q_, h5_, h6_⟩ := pb_inr h1_
  obtain ⟨r_, h7_, h8_⟩ := pb_inr h6_
  cases h8_
  exact ⟨h5_, r_, h7_⟩
theorem ex_2 {b_ : Nat → Int} {n_ M_ K_ p_ : Nat} {A_ : pA} {f_ : Nat → Nat} {c_ : List Int} : p_ex b_ n_ (mdo 2) (p_pm b_ n_ (mdo 2) A_ M_ K_ f_) c_ p_ = p_ex b_ n_ true (p_pl b_ n_ K_ f_) c_ p_ := by
  unfold p_pm
  rw [show mdo 2 = true from rfl, if_pos rfl]
theorem pm_2 {b_ : Nat → Int} {n_ M_ K_ : Nat} {A_ : pA} {f_ : Nat → Nat} : pr_ok b_ n_ (p_pm b_ n_ (mdo 2) A_ M_ K_ f_) := by
  unfold p_pm
  rw [show mdo 2 = true from rfl, if_pos rfl]
  exact pl_ok
theorem sh_b {c_ : Int} (h_ : 0 ≤ c_ ∧ c_ ≤ 3) : (0 ≤ i_shl 1 c_ ∧ i_shl 1 c_ ≤ 8) ∧ 1 ≤ i_shl 1 (i_shl 1 c_) ∧ i_shl 1 (i_shl 1 c_) ≤ 256 := by
  have h4_ : c_ = 0 ∨ c_ = 1 ∨ c_ = 2 ∨ c_ = 3 := by omega
  rcases h4_ with e_ | e_ | e_ | e_ <;> (subst e_; decide +kernel)
/-- measures within their bounds -/
def c_dt (K_ : Nat) (S_ : sm_S) : Prop := ∀ k_, k_ < K_ → (0 ≤ S_.2.2.1 181 0 k_ ∧ S_.2.2.1 181 0 k_ ≤ 1000) ∧ (0 ≤ S_.2.2.1 182 0 k_ ∧ S_.2.2.1 182 0 k_ ≤ 100)
theorem cdt_up {K_ i_ : Nat} {v_ w_ : Int} {S1_ S2_ S3_ S4_ S5_ : sm_S} (h_ : c_dt K_ S1_) (hi_ : i_ = K_) (hv_ : 1 ≤ v_ ∧ v_ ≤ 1000) (hw_ : 1 ≤ w_ ∧ w_ ≤ 100) (a2_ : S2_.2.2.1 181 0 = S1_.2.2.1 181 0) (d2_ : S2_.2.2.1 182 0 = S1_.2.2.1 182 0) (a3_ : S3_.2.2.1 181 0 = (sm_aI S2_ 181 0 i_ v_).2.2.1 181 0) (d3_ : S3_.2.2.1 182 0 = (sm_aI S2_ 181 0 i_ v_).2.2.1 182 0) (a4_ : S4_.2.2.1 181 0 = (sm_aI S3_ 182 0 i_ w_).2.2.1 181 0) (d4_ : S4_.2.2.1 182 0 = (sm_aI S3_ 182 0 i_ w_).2.2.1 182 0) (a5_ : S5_.2.2.1 181 0 = S4_.2.2.1 181 0) (d5_ : S5_.2.2.1 182 0 = S4_.2.2.1 182 0) : c_dt (K_ + 1) S5_ := by
  intro k_ hk_
  rw [a5_, d5_, a4_, d4_, rd_ne (by decide), rd_eq, a3_, d3_, rd_eq, rd_ne (by decide), a2_, d2_]
  by_cases e_ : k_ = i_
  · rw [if_pos e_, if_pos e_]; omega
  · rw [if_neg e_, if_neg e_]; exact h_ k_ (by omega)
theorem ms_b {b_ : Nat → Int} {n_ p_ : Nat} {mo_ : Int} {x_ : pE Nat} {r_ : Nat × Int} (h_ : pb x_ (p_ms b_ n_ mo_) = .inr r_) : 1 ≤ r_.2 ∧ r_.2 ≤ mo_ := by
  obtain ⟨q_, h1_, h2_⟩ := pb_inr h_
  obtain ⟨v_, h3_, h4_⟩ := pb_inr h2_
  obtain ⟨u_, h5_, h6_⟩ := pb_inr h4_
  cases h6_
  exact (p_nu_ok h3_).2.2
/-- so_ many inputs read, at r_ -/
def y_i (b_ : Nat → Int) (n_ T_ : Nat) (Z_ : pE (Nat × pI)) (S_ : sm_S) : Prop := ∃ q_ K1_ f1_ r_, rg b_ n_ T_ (.inr r_) S_ ∧ inr_ b_ n_ T_ K1_ f1_ S_ ∧ 1 ≤ K1_ ∧ Z_ = (pb (if lx_kd b_ n_ r_ = 44 then pb (p_ad b_ n_ r_) fun q2_ => p_ci b_ n_ (4 - K1_) K1_ f1_ q2_ else .inr (K1_, f1_, r_)) fun i_ => .inr (q_, i_))
def y_w (b_ : Nat → Int) (n_ T_ : Nat) (Z_ : pE (Nat × pI)) (S_ : sm_S) : Prop := ∃ e_, Z_ = .inl e_ ∧ rg b_ n_ T_ (.inl e_) S_
theorem yi_nn {b_ : Nat → Int} {n_ T_ K1_ q_ : Nat} {f1_ : Nat → Nat} {x_ : pE Nat} {Z_ : pE (Nat × pI)} {S_ : sm_S} (hK_ : K1_ ≤ 3) (g_ : rg b_ n_ T_ (pb x_ (p_nn b_ n_ K1_ f1_ 3)) S_) (hi_ : ∀ p_ r_, x_ = .inr p_ → p_nn b_ n_ K1_ f1_ 3 p_ = .inr r_ → inr_ b_ n_ T_ (K1_ + 1) (n_up f1_ K1_ p_) S_) (hZ_ : Z_ = pb (pb x_ fun u_ => p_ci b_ n_ (4 - K1_) K1_ f1_ u_) fun i_ => .inr (q_, i_)) : y_w b_ n_ T_ Z_ S_ ∨ y_i b_ n_ T_ Z_ S_ := by
  cases x_ with
  | inl e_ => left; exact ⟨e_, hZ_, g_⟩
  | inr p_ =>
    have g_ : rg b_ n_ T_ (p_nn b_ n_ K1_ f1_ 3 p_) S_ := g_
    have hZ_ : Z_ = pb (p_ci b_ n_ (4 - K1_) K1_ f1_ p_) fun i_ => .inr (q_, i_) := hZ_
    rw [show 4 - K1_ = (3 - K1_) + 1 by omega, p_ci] at hZ_
    cases hn_ : p_nn b_ n_ K1_ f1_ 3 p_ with
    | inl e_ => rw [hn_] at hZ_ g_; left; exact ⟨e_, hZ_, g_⟩
    | inr r_ =>
      rw [hn_] at hZ_ g_
      right
      refine ⟨q_, K1_ + 1, n_up f1_ K1_ p_, r_, g_, hi_ p_ r_ rfl hn_, by omega, ?_⟩
      rw [show 4 - (K1_ + 1) = 3 - K1_ by omega]
      exact hZ_
def r_m4 (S_ : sm_S) : Nat := if S_.1 13 0 10 ≠ 0 then 1 else (12 - S_.1 13 0 80).toNat
theorem rm4_b {S_ : sm_S} (hI_ : gi S_) : 1 ≤ r_m4 S_ ∧ r_m4 S_ ≤ 12 := by
  have z_ : 0 ≤ S_.1 13 0 80 ∧ S_.1 13 0 80 ≤ 3 := hI_.1 13 0 80 rfl
  unfold r_m4
  split <;> omega
end
/-! 99.z4a -/
section
/-! the reference: free places; written by wip/p55/gen/vg -/
/-! M_.free -/
def vw_362l : sx_Wl := ([], [], [])
def vq_362l (k_ : Int) (S0_ : sm_S) (u_ : Option sm_V) (S1_ : sm_S) : Prop := S0_ = S1_ ∧ ∃ v_ : Int, u_ = some (.inl v_) ∧ ((v_ = -1 ∧ ∀ j_ : Nat, j_ < 3 → (S1_.2.2.1 183 0 (j_)) = 1) ∨ (∃ u_ : Nat, v_ = (u_ : Int) ∧ u_ < 3 ∧ (S1_.2.2.1 183 0 (u_)) = 0 ∧ ∀ j_ : Nat, j_ < u_ → (S1_.2.2.1 183 0 (j_)) = 1))
set_option maxHeartbeats 400000 in
theorem vl_362l {sc_ : Nat × (Nat → Int)} (k_ : Int) (S0_ : sm_S) (hk_ : k_ = 3) : ∀ nn_ : Nat, (∀ (i_ : Int) (S_ : sm_S), gi S_ → ai_fr (sx_W vw_362l) S0_ S_ → ((0 ≤ i_ ∧ i_ ≤ 3) ∧ (∀ j_ : Nat, j_ < i_.toNat → (S_.2.2.1 183 0 (j_)) = 1) ∧ (S_ = S0_) ∧ True) → ((20 - i_).toNat) < nn_ → sm_T (mt_P sc_) 0 362 (2, [some (.inr (.inr (some (183, 0)))), some (.inl k_), some (.inl i_)], [], S_) (fun r_ => ∃ u_ S1_, r_ = (.inl u_, S1_, 0) ∧ vq_362l k_ S0_ u_ S1_)) := by
  intro nn_
  induction nn_ with
  | zero => exact fun _ _ _ _ _ h_ => absurd h_ (Nat.not_lt_zero _)
  | succ nn_ ih_ =>
    rintro i_ S_ hI_ hF_ ⟨h0_, h1_, hS_, -⟩ hm_
    refine sm_T_go 2 (c1 := (4, [some (.inr (.inr (some (183, 0)))), some (.inl k_), some (.inl i_)], [.inl k_, .inl i_], S_)) rfl ?_
    refine sm_T_br (a := 3) (z := 17) rfl (fun cx1_ => ?_) (fun cx1_ => ?_)
    · have cx1_ : k_ ≤ i_ := of_decide_eq_true cx1_
      refine sm_T_go 1 (c1 := (22, [some (.inr (.inr (some (183, 0)))), some (.inl k_), some (.inl i_)], [.inl (-1)], S_)) rfl ?_
      refine sm_T_ri rfl ⟨_, _, rfl, (by first | rfl | exact hS_.symm), _, rfl, ?_⟩
      left
      refine ⟨rfl, fun j_ hj_ => ?_⟩
      exact h1_ j_ (by omega)
    · have cx1_ : ¬ (k_ ≤ i_) := of_decide_eq_false cx1_
      refine sm_T_go 2 (c1 := (9, [some (.inr (.inr (some (183, 0)))), some (.inl k_), some (.inl i_)], [.inl i_, .inr (.inr (some (183, 0)))], S_)) rfl ?_
      refine sm_T_zald (n := 3) rfl rfl (by omega) (by omega) ?_
      have bx2_ : 0 ≤ S_.2.2.1 183 0 i_.toNat ∧ S_.2.2.1 183 0 i_.toNat ≤ 1 := hI_.2 183 0 _
      refine sm_T_b0 (a := 1) (z := 5) rfl (fun cx3_ => ?_) (fun cx3_ => ?_)
      · have cx3_ : (S_.2.2.1 183 0 i_.toNat) ≠ 0 := of_decide_eq_true cx3_
        refine sm_T_inc (a := 2) (z := 1) (v := i_) (w := i_ + 1) rfl rfl (by omega) (by omega) (by omega) ?_
        refine sm_T_go 1 (c1 := (2, [some (.inr (.inr (some (183, 0)))), some (.inl k_), some (.inl (i_ + 1))], [], S_)) rfl ?_
        refine ih_ (i_ + 1) S_ hI_ hF_ ⟨?_, ?_, ?_, trivial⟩ ?_
        · omega
        · intro j_ hj_
          by_cases z_ : j_ = i_.toNat
          · rw [z_]; omega
          · exact h1_ j_ (by omega)
        · first | rfl | exact hS_
        · omega
      · have cx3_ : ¬ ((S_.2.2.1 183 0 i_.toNat) ≠ 0) := of_decide_eq_false cx3_
        refine sm_T_go 1 (c1 := (14, [some (.inr (.inr (some (183, 0)))), some (.inl k_), some (.inl i_)], [.inl i_], S_)) rfl ?_
        refine sm_T_ri rfl ⟨_, _, rfl, (by first | rfl | exact hS_.symm), _, rfl, ?_⟩
        right
        exact ⟨i_.toNat, by omega, by omega, by omega, h1_⟩
set_option maxHeartbeats 400000 in
theorem vc_362l {sc_ : Nat × (Nat → Int)} (k_ : Int) (S0_ : sm_S) (hI_ : gi S0_) (hk_ : k_ = 3) : sm_T (mt_P sc_) 0 362 (0, [some (.inr (.inr (some (183, 0)))), some (.inl k_), none], [], S0_) (fun r_ => ∃ u_ S1_, r_ = (.inl u_, S1_, 0) ∧ vq_362l k_ S0_ u_ S1_) := by
  have hF_ : ai_fr (sx_W vw_362l) S0_ S0_ := ai_fr_rf
  refine sm_T_go 2 (c1 := (2, [some (.inr (.inr (some (183, 0)))), some (.inl k_), some (.inl 0)], [], S0_)) rfl ?_
  refine (vl_362l k_ S0_ hk_ _) 0 S0_ hI_ hF_ ⟨?_, ?_, ?_, trivial⟩ (Nat.lt_succ_self _)
  · omega
  · (intro j_ hj_; exact absurd hj_ (Nat.not_lt_zero _))
  · first | rfl | exact hS_
end
/-! 99.z4b -/
section
/-! M_.free -/
def vw_362d : sx_Wl := ([], [], [])
def vq_362d (k_ : Int) (S0_ : sm_S) (u_ : Option sm_V) (S1_ : sm_S) : Prop := S0_ = S1_ ∧ ∃ v_ : Int, u_ = some (.inl v_) ∧ ((v_ = -1 ∧ ∀ j_ : Nat, j_ < 6 → (S1_.2.2.1 153 0 (j_)) = 1) ∨ (∃ u_ : Nat, v_ = (u_ : Int) ∧ u_ < 6 ∧ (S1_.2.2.1 153 0 (u_)) = 0 ∧ ∀ j_ : Nat, j_ < u_ → (S1_.2.2.1 153 0 (j_)) = 1))
set_option maxHeartbeats 400000 in
theorem vl_362d {sc_ : Nat × (Nat → Int)} (k_ : Int) (S0_ : sm_S) (hk_ : k_ = 6) : ∀ nn_ : Nat, (∀ (i_ : Int) (S_ : sm_S), gi S_ → ai_fr (sx_W vw_362d) S0_ S_ → ((0 ≤ i_ ∧ i_ ≤ 6) ∧ (∀ j_ : Nat, j_ < i_.toNat → (S_.2.2.1 153 0 (j_)) = 1) ∧ (S_ = S0_) ∧ True) → ((20 - i_).toNat) < nn_ → sm_T (mt_P sc_) 0 362 (2, [some (.inr (.inr (some (153, 0)))), some (.inl k_), some (.inl i_)], [], S_) (fun r_ => ∃ u_ S1_, r_ = (.inl u_, S1_, 0) ∧ vq_362d k_ S0_ u_ S1_)) := by
  intro nn_
  induction nn_ with
  | zero => exact fun _ _ _ _ _ h_ => absurd h_ (Nat.not_lt_zero _)
  | succ nn_ ih_ =>
    rintro i_ S_ hI_ hF_ ⟨h0_, h1_, hS_, -⟩ hm_
    refine sm_T_go 2 (c1 := (4, [some (.inr (.inr (some (153, 0)))), some (.inl k_), some (.inl i_)], [.inl k_, .inl i_], S_)) rfl ?_
    refine sm_T_br (a := 3) (z := 17) rfl (fun cx1_ => ?_) (fun cx1_ => ?_)
    · have cx1_ : k_ ≤ i_ := of_decide_eq_true cx1_
      refine sm_T_go 1 (c1 := (22, [some (.inr (.inr (some (153, 0)))), some (.inl k_), some (.inl i_)], [.inl (-1)], S_)) rfl ?_
      refine sm_T_ri rfl ⟨_, _, rfl, (by first | rfl | exact hS_.symm), _, rfl, ?_⟩
      left
      refine ⟨rfl, fun j_ hj_ => ?_⟩
      exact h1_ j_ (by omega)
    · have cx1_ : ¬ (k_ ≤ i_) := of_decide_eq_false cx1_
      refine sm_T_go 2 (c1 := (9, [some (.inr (.inr (some (153, 0)))), some (.inl k_), some (.inl i_)], [.inl i_, .inr (.inr (some (153, 0)))], S_)) rfl ?_
      refine sm_T_zald (n := 6) rfl rfl (by omega) (by omega) ?_
      have bx2_ : 0 ≤ S_.2.2.1 153 0 i_.toNat ∧ S_.2.2.1 153 0 i_.toNat ≤ 1 := hI_.2 153 0 _
      refine sm_T_b0 (a := 1) (z := 5) rfl (fun cx3_ => ?_) (fun cx3_ => ?_)
      · have cx3_ : (S_.2.2.1 153 0 i_.toNat) ≠ 0 := of_decide_eq_true cx3_
        refine sm_T_inc (a := 2) (z := 1) (v := i_) (w := i_ + 1) rfl rfl (by omega) (by omega) (by omega) ?_
        refine sm_T_go 1 (c1 := (2, [some (.inr (.inr (some (153, 0)))), some (.inl k_), some (.inl (i_ + 1))], [], S_)) rfl ?_
        refine ih_ (i_ + 1) S_ hI_ hF_ ⟨?_, ?_, ?_, trivial⟩ ?_
        · omega
        · intro j_ hj_
          by_cases z_ : j_ = i_.toNat
          · rw [z_]; omega
          · exact h1_ j_ (by omega)
        · first | rfl | exact hS_
        · omega
      · have cx3_ : ¬ ((S_.2.2.1 153 0 i_.toNat) ≠ 0) := of_decide_eq_false cx3_
        refine sm_T_go 1 (c1 := (14, [some (.inr (.inr (some (153, 0)))), some (.inl k_), some (.inl i_)], [.inl i_], S_)) rfl ?_
        refine sm_T_ri rfl ⟨_, _, rfl, (by first | rfl | exact hS_.symm), _, rfl, ?_⟩
        right
        exact ⟨i_.toNat, by omega, by omega, by omega, h1_⟩
set_option maxHeartbeats 400000 in
theorem vc_362d {sc_ : Nat × (Nat → Int)} (k_ : Int) (S0_ : sm_S) (hI_ : gi S0_) (hk_ : k_ = 6) : sm_T (mt_P sc_) 0 362 (0, [some (.inr (.inr (some (153, 0)))), some (.inl k_), none], [], S0_) (fun r_ => ∃ u_ S1_, r_ = (.inl u_, S1_, 0) ∧ vq_362d k_ S0_ u_ S1_) := by
  have hF_ : ai_fr (sx_W vw_362d) S0_ S0_ := ai_fr_rf
  refine sm_T_go 2 (c1 := (2, [some (.inr (.inr (some (153, 0)))), some (.inl k_), some (.inl 0)], [], S0_)) rfl ?_
  refine (vl_362d k_ S0_ hk_ _) 0 S0_ hI_ hF_ ⟨?_, ?_, ?_, trivial⟩ (Nat.lt_succ_self _)
  · omega
  · (intro j_ hj_; exact absurd hj_ (Nat.not_lt_zero _))
  · first | rfl | exact hS_
end
/-! 99.z4c -/
section
/-! M_.free -/
def vw_362c : sx_Wl := ([], [], [])
def vq_362c (k_ : Int) (S0_ : sm_S) (u_ : Option sm_V) (S1_ : sm_S) : Prop := S0_ = S1_ ∧ ∃ v_ : Int, u_ = some (.inl v_) ∧ ((v_ = -1 ∧ ∀ j_ : Nat, j_ < 4 → (S1_.2.2.1 222 0 (j_)) = 1) ∨ (∃ u_ : Nat, v_ = (u_ : Int) ∧ u_ < 4 ∧ (S1_.2.2.1 222 0 (u_)) = 0 ∧ ∀ j_ : Nat, j_ < u_ → (S1_.2.2.1 222 0 (j_)) = 1))
set_option maxHeartbeats 400000 in
theorem vl_362c {sc_ : Nat × (Nat → Int)} (k_ : Int) (S0_ : sm_S) (hk_ : k_ = 4) : ∀ nn_ : Nat, (∀ (i_ : Int) (S_ : sm_S), gi S_ → ai_fr (sx_W vw_362c) S0_ S_ → ((0 ≤ i_ ∧ i_ ≤ 4) ∧ (∀ j_ : Nat, j_ < i_.toNat → (S_.2.2.1 222 0 (j_)) = 1) ∧ (S_ = S0_) ∧ True) → ((20 - i_).toNat) < nn_ → sm_T (mt_P sc_) 0 362 (2, [some (.inr (.inr (some (222, 0)))), some (.inl k_), some (.inl i_)], [], S_) (fun r_ => ∃ u_ S1_, r_ = (.inl u_, S1_, 0) ∧ vq_362c k_ S0_ u_ S1_)) := by
  intro nn_
  induction nn_ with
  | zero => exact fun _ _ _ _ _ h_ => absurd h_ (Nat.not_lt_zero _)
  | succ nn_ ih_ =>
    rintro i_ S_ hI_ hF_ ⟨h0_, h1_, hS_, -⟩ hm_
    refine sm_T_go 2 (c1 := (4, [some (.inr (.inr (some (222, 0)))), some (.inl k_), some (.inl i_)], [.inl k_, .inl i_], S_)) rfl ?_
    refine sm_T_br (a := 3) (z := 17) rfl (fun cx1_ => ?_) (fun cx1_ => ?_)
    · have cx1_ : k_ ≤ i_ := of_decide_eq_true cx1_
      refine sm_T_go 1 (c1 := (22, [some (.inr (.inr (some (222, 0)))), some (.inl k_), some (.inl i_)], [.inl (-1)], S_)) rfl ?_
      refine sm_T_ri rfl ⟨_, _, rfl, (by first | rfl | exact hS_.symm), _, rfl, ?_⟩
      left
      refine ⟨rfl, fun j_ hj_ => ?_⟩
      exact h1_ j_ (by omega)
    · have cx1_ : ¬ (k_ ≤ i_) := of_decide_eq_false cx1_
      refine sm_T_go 2 (c1 := (9, [some (.inr (.inr (some (222, 0)))), some (.inl k_), some (.inl i_)], [.inl i_, .inr (.inr (some (222, 0)))], S_)) rfl ?_
      refine sm_T_zald (n := 4) rfl rfl (by omega) (by omega) ?_
      have bx2_ : 0 ≤ S_.2.2.1 222 0 i_.toNat ∧ S_.2.2.1 222 0 i_.toNat ≤ 1 := hI_.2 222 0 _
      refine sm_T_b0 (a := 1) (z := 5) rfl (fun cx3_ => ?_) (fun cx3_ => ?_)
      · have cx3_ : (S_.2.2.1 222 0 i_.toNat) ≠ 0 := of_decide_eq_true cx3_
        refine sm_T_inc (a := 2) (z := 1) (v := i_) (w := i_ + 1) rfl rfl (by omega) (by omega) (by omega) ?_
        refine sm_T_go 1 (c1 := (2, [some (.inr (.inr (some (222, 0)))), some (.inl k_), some (.inl (i_ + 1))], [], S_)) rfl ?_
        refine ih_ (i_ + 1) S_ hI_ hF_ ⟨?_, ?_, ?_, trivial⟩ ?_
        · omega
        · intro j_ hj_
          by_cases z_ : j_ = i_.toNat
          · rw [z_]; omega
          · exact h1_ j_ (by omega)
        · first | rfl | exact hS_
        · omega
      · have cx3_ : ¬ ((S_.2.2.1 222 0 i_.toNat) ≠ 0) := of_decide_eq_false cx3_
        refine sm_T_go 1 (c1 := (14, [some (.inr (.inr (some (222, 0)))), some (.inl k_), some (.inl i_)], [.inl i_], S_)) rfl ?_
        refine sm_T_ri rfl ⟨_, _, rfl, (by first | rfl | exact hS_.symm), _, rfl, ?_⟩
        right
        exact ⟨i_.toNat, by omega, by omega, by omega, h1_⟩
set_option maxHeartbeats 400000 in
theorem vc_362c {sc_ : Nat × (Nat → Int)} (k_ : Int) (S0_ : sm_S) (hI_ : gi S0_) (hk_ : k_ = 4) : sm_T (mt_P sc_) 0 362 (0, [some (.inr (.inr (some (222, 0)))), some (.inl k_), none], [], S0_) (fun r_ => ∃ u_ S1_, r_ = (.inl u_, S1_, 0) ∧ vq_362c k_ S0_ u_ S1_) := by
  have hF_ : ai_fr (sx_W vw_362c) S0_ S0_ := ai_fr_rf
  refine sm_T_go 2 (c1 := (2, [some (.inr (.inr (some (222, 0)))), some (.inl k_), some (.inl 0)], [], S0_)) rfl ?_
  refine (vl_362c k_ S0_ hk_ _) 0 S0_ hI_ hF_ ⟨?_, ?_, ?_, trivial⟩ (Nat.lt_succ_self _)
  · omega
  · (intro j_ hj_; exact absurd hj_ (Nat.not_lt_zero _))
  · first | rfl | exact hS_
end
/-! 99.z5a -/
section
/-! the reference: libraries; written by wip/p55/gen/vg -/

/-! a_ library told -/
def lX (b_ : Nat → Int) (n_ T_ : Nat) (S_ : sm_S) : Prop := ∃ e_, p_li b_ n_ = .inl e_ ∧ rg b_ n_ T_ (.inl e_) S_
def lE (b_ : Nat → Int) (n_ : Nat) (S_ : sm_S) : Prop := ∃ K_ L_, p_li b_ n_ = .inr (K_, L_) ∧ S_.1 13 0 10 = 0 ∧ S_.1 13 0 83 = (K_ : Int) ∧ c_dt K_ S_
def lW (b_ : Nat → Int) (n_ : Nat) (S_ : sm_S) : Prop := ∃ e_, p_li b_ n_ = .inl e_ ∧ S_.1 13 0 10 = e_.1 ∧ S_.1 13 0 11 = (e_.2 : Int) ∧ e_.1 ≠ 0
def r_mc (S_ : sm_S) : Nat := if S_.1 13 0 10 ≠ 0 then 1 else (20 - S_.1 13 0 83).toNat
theorem lb_u {b_ : Nat → Int} {n_ K_ p_ : Nat} {f_ : Nat → Nat} {L_ : pL} (hK_ : K_ ≤ 12) : p_lb b_ n_ (13 - K_) K_ f_ L_ p_ = pb (p_ce b_ n_ K_ f_ p_) (k_lb b_ n_ (12 - K_) K_ f_ L_) := by
  rw [show 13 - K_ = (12 - K_) + 1 by omega]
  rfl
/-! M_.library -/
def vw_367 : sx_Wl := ([(13, 0), (13, 2), (13, 3), (13, 9), (13, 10), (13, 11), (13, 27), (13, 32), (13, 33), (13, 34), (13, 79), (13, 80), (13, 83)], [119, 120, 121, 122, 123, 136, 137, 138, 139, 177, 178, 179, 180, 181, 182, 183, 184, 185, 186, 187, 188], [])
def vq_367 (b_ : Nat → Int) (n_ : Nat) (S0_ : sm_S) (u_ : Option sm_V) (S1_ : sm_S) : Prop := ∃ v_ : Int, u_ = some (.inl v_) ∧ gi S1_ ∧ ai_fr (sx_W vw_367) S0_ S1_ ∧ (((S1_.1 13 0 0) = 1 ∧ (∀ j_ : Nat, j_ < 3 → (S0_.2.2.1 183 0 (j_)) = 1) ∧ (S1_.1 13 0 2) = (S0_.1 13 0 2) ∧ ∀ j_ : Nat, (S1_.2.2.1 183 0 (j_)) = (S0_.2.2.1 183 0 (j_))) ∨ ((S1_.1 13 0 0) = 0 ∧ ∃ sl_ : Nat, sl_ < 3 ∧ (S0_.2.2.1 183 0 (sl_)) = 0 ∧ (∀ j_ : Nat, j_ < sl_ → (S0_.2.2.1 183 0 (j_)) = 1) ∧ (S1_.1 13 0 2) = 0 ∧ ((∃ e_, p_li b_ n_ = .inl e_ ∧ v_ = -1 - (e_.2 : Int) ∧ (S1_.1 13 0 79) = e_.1 ∧ ∀ j_ : Nat, (S1_.2.2.1 183 0 (j_)) = (S0_.2.2.1 183 0 (j_))) ∨ ((∃ r_, p_li b_ n_ = .inr r_) ∧ v_ = (sl_ : Int) ∧ (S1_.1 13 0 79) = 0 ∧ ∀ j_ : Nat, (S1_.2.2.1 183 0 (j_)) = if j_ = sl_ then 1 else (S0_.2.2.1 183 0 (j_))))))
end
/-! 99.z6a -/
section
/-! the class: libraries; written by wip/p55/gen/vg -/

/-! calls that throw, where a_ handler is_ or where others are_ -/
theorem sm_T_calg {P_ : sm_P} {d_ d1_ mid_ pc_ n0_ a_ b_ v_ ex_ : Nat} {z_ : Int} {L_ : sm_L} {st_ : List sm_V} {S_ : sm_S} {Q_ : sm_R → Prop} {Q1_ : Option sm_V → sm_S → Prop} {Q2_ : sm_S → Prop} (hx_ : P_.1 mid_ pc_ = some (40, n0_, a_, b_, v_, z_))
    (hc_ : (L_.length = (P_.2.1 mid_).2 && (st_.take b_).length = b_ && ((st_.drop b_).map sm_cat).sum ≤ 8 && (v_ = 1 || sm_rcv (P_.2.1 a_).1 (st_.take b_).reverse) && (sm_vsl (st_.take b_).reverse).length ≤ (P_.2.1 a_).2) = true)
    (hd_ : d1_ ≤ d_) (hsub : sm_T P_ d1_ a_ (0, sm_ent (P_.2.1 a_).2 (st_.take b_).reverse, [], S_) (fun r_ => (∃ u_ S1_, r_ = (.inl u_, S1_, 0) ∧ Q1_ u_ S1_) ∨ ∃ S1_, r_ = (.inr ex_, S1_, 1) ∧ Q2_ S1_))
    (hh_ : sm_fh (P_.2.2.1 mid_) pc_ ex_ = none) (hv_ : sm_cov (P_.2.2.1 mid_) pc_ = false) (kx_ : ∀ S1_, Q2_ S1_ → Q_ (.inr ex_, S1_, 1))
    (kn_ : ∀ u_ S1_, Q1_ u_ S1_ → sm_T P_ (d_ + 1) mid_ (pc_ + 3, L_, u_.toList ++ st_.drop b_, S1_) Q_) : sm_T P_ (d_ + 1) mid_ (pc_, L_, st_, S_) Q_ := by
  refine sm_T_call hx_ hc_ (hsub.deep hd_) (fun u_ S1_ k1_ q_ => ?_) (fun ex2_ S1_ k1_ q_ => ?_)
  · rcases q_ with ⟨u'_, S1'_, e_, q_⟩ | ⟨S1'_, e_, q_⟩
    · cases e_
      exact (kn_ _ _ q_).mono (fun r_ h_ => by rw [sm_add_0]; exact h_)
    · cases e_
  · rcases q_ with ⟨u'_, S1'_, e_, q_⟩ | ⟨S1'_, e_, q_⟩
    · cases e_
    · cases e_
      rw [hh_]
      exact ⟨hv_, kx_ _ q_⟩
theorem sm_T_calh {P_ : sm_P} {d_ d1_ mid_ pc_ n0_ a_ b_ v_ ex_ h_ n'_ a'_ b'_ v'_ : Nat} {z_ z'_ : Int} {L_ : sm_L} {st_ : List sm_V} {S_ : sm_S} {Q_ : sm_R → Prop} {Q1_ : Option sm_V → sm_S → Prop} {Q2_ : sm_S → Prop} (hx_ : P_.1 mid_ pc_ = some (40, n0_, a_, b_, v_, z_))
    (hc_ : (L_.length = (P_.2.1 mid_).2 && (st_.take b_).length = b_ && ((st_.drop b_).map sm_cat).sum ≤ 8 && (v_ = 1 || sm_rcv (P_.2.1 a_).1 (st_.take b_).reverse) && (sm_vsl (st_.take b_).reverse).length ≤ (P_.2.1 a_).2) = true)
    (hd_ : d1_ ≤ d_) (hsub : sm_T P_ d1_ a_ (0, sm_ent (P_.2.1 a_).2 (st_.take b_).reverse, [], S_) (fun r_ => (∃ u_ S1_, r_ = (.inl u_, S1_, 0) ∧ Q1_ u_ S1_) ∨ ∃ S1_, r_ = (.inr ex_, S1_, 1) ∧ Q2_ S1_))
    (hh_ : sm_fh (P_.2.2.1 mid_) pc_ ex_ = some h_) (h7_ : P_.1 mid_ h_ = some (7, n'_, a'_, b'_, v'_, z'_)) (ha_ : a'_ < L_.length) (kx_ : ∀ S1_, Q2_ S1_ → sm_T P_ (d_ + 1) mid_ (h_ + n'_, sm_s0 L_ a'_, [], S1_) (fun r_ => Q_ (sm_add 1 r_)))
    (kn_ : ∀ u_ S1_, Q1_ u_ S1_ → sm_T P_ (d_ + 1) mid_ (pc_ + 3, L_, u_.toList ++ st_.drop b_, S1_) Q_) : sm_T P_ (d_ + 1) mid_ (pc_, L_, st_, S_) Q_ := by
  refine sm_T_call hx_ hc_ (hsub.deep hd_) (fun u_ S1_ k1_ q_ => ?_) (fun ex2_ S1_ k1_ q_ => ?_)
  · rcases q_ with ⟨u'_, S1'_, e_, q_⟩ | ⟨S1'_, e_, q_⟩
    · cases e_
      exact (kn_ _ _ q_).mono (fun r_ h_ => by rw [sm_add_0]; exact h_)
    · cases e_
  · rcases q_ with ⟨u'_, S1'_, e_, q_⟩ | ⟨S1'_, e_, q_⟩
    · cases e_
    · cases e_
      rw [hh_]
      exact ⟨_, _, _, _, _, h7_, ha_, kx_ _ q_⟩
/-! ChipFlow.freeLibrary -/
def vw_274 : sx_Wl := ([], [], [])
def vq_274  (S0_ : sm_S) (u_ : Option sm_V) (S1_ : sm_S) : Prop := S0_ = S1_ ∧ ∃ v_ : Int, u_ = some (.inl v_) ∧ ((v_ = -1 ∧ ∀ j_ : Nat, j_ < 3 → S1_.1 5 j_ 0 = 1) ∨ (∃ u_ : Nat, v_ = (u_ : Int) ∧ u_ < 3 ∧ S1_.1 5 u_ 0 = 0 ∧ ∀ j_ : Nat, j_ < u_ → S1_.1 5 j_ 0 = 1))
set_option maxHeartbeats 400000 in
theorem vl_274 {sc_ : Nat × (Nat → Int)}  (S0_ : sm_S)  : ∀ nn_ : Nat, (∀ (i_ : Int) (S_ : sm_S), gi S_ → ai_fr (sx_W vw_274) S0_ S_ → ((0 ≤ i_ ∧ i_ ≤ 3) ∧ (∀ j_ : Nat, j_ < i_.toNat → S_.1 5 j_ 0 = 1) ∧ (S_ = S0_) ∧ True) → ((20 - i_).toNat) < nn_ → sm_T (mt_P sc_) 0 274 (2, [some (.inr (.inr (some (12, 0)))), some (.inl i_)], [], S_) (fun r_ => ∃ u_ S1_, r_ = (.inl u_, S1_, 0) ∧ vq_274  S0_ u_ S1_)) := by
  intro nn_
  induction nn_ with
  | zero => exact fun _ _ _ _ _ h_ => absurd h_ (Nat.not_lt_zero _)
  | succ nn_ ih_ =>
    rintro i_ S_ hI_ hF_ ⟨h0_, h1_, hS_, -⟩ hm_
    refine sm_T_go 2 (c1 := (4, [some (.inr (.inr (some (12, 0)))), some (.inl i_)], [.inl 3, .inl i_], S_)) rfl ?_
    refine sm_T_br (a := 3) (z := 23) rfl (fun cx1_ => ?_) (fun cx1_ => ?_)
    · have cx1_ : 3 ≤ i_ := of_decide_eq_true cx1_
      refine sm_T_go 1 (c1 := (28, [some (.inr (.inr (some (12, 0)))), some (.inl i_)], [.inl (-1)], S_)) rfl ?_
      refine sm_T_ri rfl ⟨_, _, rfl, (by first | rfl | exact hS_.symm), _, rfl, ?_⟩
      left
      exact ⟨rfl, fun j_ hj_ => h1_ j_ (by omega)⟩
    · have cx1_ : ¬ (3 ≤ i_) := of_decide_eq_false cx1_
      refine sm_T_go 3 (c1 := (12, [some (.inr (.inr (some (12, 0)))), some (.inl i_)], [.inl i_, .inr (.inr (some (111, 0)))], S_)) rfl ?_
      refine sm_T_aald (t0 := 5) (n := 3) rfl rfl (by omega) (by omega) ?_
      have bx2_ : 0 ≤ S_.1 5 i_.toNat 0 ∧ S_.1 5 i_.toNat 0 ≤ 1 := hI_.1 5 i_.toNat 0 rfl
      refine sm_T_go 1 (c1 := (16, [some (.inr (.inr (some (12, 0)))), some (.inl i_)], [.inl (S_.1 5 i_.toNat 0)], S_)) rfl ?_
      refine sm_T_b0 (a := 1) (z := 5) rfl (fun cx3_ => ?_) (fun cx3_ => ?_)
      · have cx3_ : (S_.1 5 i_.toNat 0) ≠ 0 := of_decide_eq_true cx3_
        refine sm_T_inc (a := 1) (z := 1) (v := i_) (w := i_ + 1) rfl rfl (by omega) (by omega) (by omega) ?_
        refine sm_T_go 1 (c1 := (2, [some (.inr (.inr (some (12, 0)))), some (.inl (i_ + 1))], [], S_)) rfl ?_
        refine ih_ (i_ + 1) S_ hI_ hF_ ⟨?_, ?_, ?_, trivial⟩ ?_
        · omega
        · intro j_ hj_
          by_cases z_ : j_ = i_.toNat
          · rw [z_]; omega
          · exact h1_ j_ (by omega)
        · first | rfl | exact hS_
        · omega
      · have cx3_ : ¬ ((S_.1 5 i_.toNat 0) ≠ 0) := of_decide_eq_false cx3_
        refine sm_T_go 1 (c1 := (20, [some (.inr (.inr (some (12, 0)))), some (.inl i_)], [.inl i_], S_)) rfl ?_
        refine sm_T_ri rfl ⟨_, _, rfl, (by first | rfl | exact hS_.symm), _, rfl, ?_⟩
        right
        exact ⟨i_.toNat, by omega, by omega, by omega, h1_⟩
set_option maxHeartbeats 400000 in
theorem vc_274 {sc_ : Nat × (Nat → Int)}  (S0_ : sm_S) (hI_ : gi S0_)  : sm_T (mt_P sc_) 0 274 (0, [some (.inr (.inr (some (12, 0)))), none], [], S0_) (fun r_ => ∃ u_ S1_, r_ = (.inl u_, S1_, 0) ∧ vq_274  S0_ u_ S1_) := by
  have hF_ : ai_fr (sx_W vw_274) S0_ S0_ := ai_fr_rf
  refine sm_T_go 2 (c1 := (2, [some (.inr (.inr (some (12, 0)))), some (.inl 0)], [], S0_)) rfl ?_
  refine (vl_274 S0_ _) 0 S0_ hI_ hF_ ⟨?_, ?_, ?_, trivial⟩ (Nat.lt_succ_self _)
  · omega
  · (intro j_ hj_; exact absurd hj_ (Nat.not_lt_zero _))
  · first | rfl | exact hS_
end
/-! 99.z6b -/
section
/-! ChipFlow.freeDesign -/
def vw_273 : sx_Wl := ([], [], [])
def vq_273  (S0_ : sm_S) (u_ : Option sm_V) (S1_ : sm_S) : Prop := S0_ = S1_ ∧ ∃ v_ : Int, u_ = some (.inl v_) ∧ ((v_ = -1 ∧ ∀ j_ : Nat, j_ < 6 → S1_.1 3 j_ 0 = 1) ∨ (∃ u_ : Nat, v_ = (u_ : Int) ∧ u_ < 6 ∧ S1_.1 3 u_ 0 = 0 ∧ ∀ j_ : Nat, j_ < u_ → S1_.1 3 j_ 0 = 1))
set_option maxHeartbeats 400000 in
theorem vl_273 {sc_ : Nat × (Nat → Int)}  (S0_ : sm_S)  : ∀ nn_ : Nat, (∀ (i_ : Int) (S_ : sm_S), gi S_ → ai_fr (sx_W vw_273) S0_ S_ → ((0 ≤ i_ ∧ i_ ≤ 6) ∧ (∀ j_ : Nat, j_ < i_.toNat → S_.1 3 j_ 0 = 1) ∧ (S_ = S0_) ∧ True) → ((20 - i_).toNat) < nn_ → sm_T (mt_P sc_) 0 273 (2, [some (.inr (.inr (some (12, 0)))), some (.inl i_)], [], S_) (fun r_ => ∃ u_ S1_, r_ = (.inl u_, S1_, 0) ∧ vq_273  S0_ u_ S1_)) := by
  intro nn_
  induction nn_ with
  | zero => exact fun _ _ _ _ _ h_ => absurd h_ (Nat.not_lt_zero _)
  | succ nn_ ih_ =>
    rintro i_ S_ hI_ hF_ ⟨h0_, h1_, hS_, -⟩ hm_
    refine sm_T_go 2 (c1 := (5, [some (.inr (.inr (some (12, 0)))), some (.inl i_)], [.inl 6, .inl i_], S_)) rfl ?_
    refine sm_T_br (a := 3) (z := 23) rfl (fun cx1_ => ?_) (fun cx1_ => ?_)
    · have cx1_ : 6 ≤ i_ := of_decide_eq_true cx1_
      refine sm_T_go 1 (c1 := (29, [some (.inr (.inr (some (12, 0)))), some (.inl i_)], [.inl (-1)], S_)) rfl ?_
      refine sm_T_ri rfl ⟨_, _, rfl, (by first | rfl | exact hS_.symm), _, rfl, ?_⟩
      left
      exact ⟨rfl, fun j_ hj_ => h1_ j_ (by omega)⟩
    · have cx1_ : ¬ (6 ≤ i_) := of_decide_eq_false cx1_
      refine sm_T_go 3 (c1 := (13, [some (.inr (.inr (some (12, 0)))), some (.inl i_)], [.inl i_, .inr (.inr (some (110, 0)))], S_)) rfl ?_
      refine sm_T_aald (t0 := 4) (n := 6) rfl rfl (by omega) (by omega) ?_
      have bx2_ : 0 ≤ S_.1 3 i_.toNat 0 ∧ S_.1 3 i_.toNat 0 ≤ 1 := hI_.1 3 i_.toNat 0 rfl
      refine sm_T_go 1 (c1 := (17, [some (.inr (.inr (some (12, 0)))), some (.inl i_)], [.inl (S_.1 3 i_.toNat 0)], S_)) rfl ?_
      refine sm_T_b0 (a := 1) (z := 5) rfl (fun cx3_ => ?_) (fun cx3_ => ?_)
      · have cx3_ : (S_.1 3 i_.toNat 0) ≠ 0 := of_decide_eq_true cx3_
        refine sm_T_inc (a := 1) (z := 1) (v := i_) (w := i_ + 1) rfl rfl (by omega) (by omega) (by omega) ?_
        refine sm_T_go 1 (c1 := (2, [some (.inr (.inr (some (12, 0)))), some (.inl (i_ + 1))], [], S_)) rfl ?_
        refine ih_ (i_ + 1) S_ hI_ hF_ ⟨?_, ?_, ?_, trivial⟩ ?_
        · omega
        · intro j_ hj_
          by_cases z_ : j_ = i_.toNat
          · rw [z_]; omega
          · exact h1_ j_ (by omega)
        · first | rfl | exact hS_
        · omega
      · have cx3_ : ¬ ((S_.1 3 i_.toNat 0) ≠ 0) := of_decide_eq_false cx3_
        refine sm_T_go 1 (c1 := (21, [some (.inr (.inr (some (12, 0)))), some (.inl i_)], [.inl i_], S_)) rfl ?_
        refine sm_T_ri rfl ⟨_, _, rfl, (by first | rfl | exact hS_.symm), _, rfl, ?_⟩
        right
        exact ⟨i_.toNat, by omega, by omega, by omega, h1_⟩
set_option maxHeartbeats 400000 in
theorem vc_273 {sc_ : Nat × (Nat → Int)}  (S0_ : sm_S) (hI_ : gi S0_)  : sm_T (mt_P sc_) 0 273 (0, [some (.inr (.inr (some (12, 0)))), none], [], S0_) (fun r_ => ∃ u_ S1_, r_ = (.inl u_, S1_, 0) ∧ vq_273  S0_ u_ S1_) := by
  have hF_ : ai_fr (sx_W vw_273) S0_ S0_ := ai_fr_rf
  refine sm_T_go 2 (c1 := (2, [some (.inr (.inr (some (12, 0)))), some (.inl 0)], [], S0_)) rfl ?_
  refine (vl_273 S0_ _) 0 S0_ hI_ hF_ ⟨?_, ?_, ?_, trivial⟩ (Nat.lt_succ_self _)
  · omega
  · (intro j_ hj_; exact absurd hj_ (Nat.not_lt_zero _))
  · first | rfl | exact hS_
end
/-! 99.z6c -/
section
/-! ChipFlow.needRoom -/
def vw_268 : sx_Wl := ([], [], [])
def vq_268 (k_ : Int) (S0_ : sm_S) (u_ : Option sm_V) (S1_ : sm_S) : Prop := u_ = none ∧ gi S1_ ∧ ai_fr (sx_W vw_268) S0_ S1_ ∧ (k_ ≠ 0)
def vx_268 (k_ : Int) (S0_ : sm_S) (S1_ : sm_S) : Prop := gi S1_ ∧ ai_fr (sx_W vw_268) S0_ S1_ ∧ (k_ = 0 ∧ S1_ = S0_)
set_option maxHeartbeats 400000 in
theorem vc_268 {sc_ : Nat × (Nat → Int)} (k_ : Int) (S0_ : sm_S) (hI_ : gi S0_)  : sm_T (mt_P sc_) 0 268 (0, [some (.inl k_)], [], S0_) (fun r_ => (∃ u_ S1_, r_ = (.inl u_, S1_, 0) ∧ vq_268 k_ S0_ u_ S1_) ∨ ∃ S1_, r_ = (.inr 3, S1_, 1) ∧ vx_268 k_ S0_ S1_) := by
  have hF_ : ai_fr (sx_W vw_268) S0_ S0_ := ai_fr_rf
  refine sm_T_go 1 (c1 := (1, [some (.inl k_)], [.inl k_], S0_)) rfl ?_
  refine sm_T_b0 (a := 1) (z := 11) rfl (fun cx1_ => ?_) (fun cx1_ => ?_)
  · have cx1_ : k_ ≠ 0 := of_decide_eq_true cx1_
    refine sm_T_rv rfl (Or.inl ⟨_, _, rfl, rfl, hI_, hF_, ?_⟩)
    omega
  · have cx1_ : ¬ (k_ ≠ 0) := of_decide_eq_false cx1_
    refine sm_T_th rfl rfl (Or.inr ⟨_, rfl, hI_, hF_, ?_⟩)
    exact ⟨by omega, rfl⟩
end
/-! 99.z6d -/
section
/-! ChipFlow.library -/
def vw_214 : sx_Wl := ([(5, 0), (5, 1), (5, 2), (7, 2), (7, 14), (7, 16), (7, 17), (10, 1), (10, 2), (10, 3), (10, 4), (10, 5), (10, 6), (10, 7), (10, 8), (12, 10)], [55, 56, 57, 58, 74, 77, 78, 82, 83, 84], [(7, 11)])
def vq_214 (b_ : Nat → Int) (n_ : Nat) (S0_ : sm_S) (u_ : Option sm_V) (S1_ : sm_S) : Prop := ∃ v_ : Int, u_ = some (.inl v_) ∧ gi S1_ ∧ ai_fr (sx_W vw_214) S0_ S1_ ∧ (∃ sl_ : Nat, sl_ < 3 ∧ S0_.1 5 sl_ 0 = 0 ∧ (∀ j_ : Nat, j_ < sl_ → S0_.1 5 j_ 0 = 1) ∧ (S1_.1 10 0 1) = 0 ∧ ((∃ e_, p_li b_ n_ = .inl e_ ∧ v_ = -1 - (e_.2 : Int) ∧ (S1_.1 12 0 10) = e_.1 ∧ ∀ j_ : Nat, S1_.1 5 j_ 0 = S0_.1 5 j_ 0) ∨ ((∃ r_, p_li b_ n_ = .inr r_) ∧ v_ = (sl_ : Int) ∧ (S1_.1 12 0 10) = 0 ∧ ∀ j_ : Nat, S1_.1 5 j_ 0 = if j_ = sl_ then 1 else S0_.1 5 j_ 0)))
end
/-! 99.z7a -/
section
/-! the class: limits; written by wip/p55/gen/vg -/

/-! sums that are_ cut_ off_ at different heights -/
def mc (x_ : Int) : Int := if 100000 < x_ then 100000 else x_
theorem mc_b {x_ : Int} (h_ : 0 ≤ x_) : 0 ≤ mc x_ ∧ mc x_ ≤ 100000 := by
  unfold mc
  split <;> omega
theorem mn_mc {x_ : Int} : mn (mc x_) = mn x_ := by
  unfold mn mc
  repeat' split
  all_goals omega
theorem mn_ad {x_ y_ z_ w_ : Int} (hx_ : 0 ≤ x_) (hy_ : 0 ≤ y_) (hz_ : 0 ≤ z_) (hw_ : 0 ≤ w_) (h1_ : mn x_ = mn z_) (h2_ : mn y_ = mn w_) : mn (x_ + y_) = mn (z_ + w_) := by
  unfold mn at h1_ h2_ ⊢
  repeat' split at h1_
  all_goals repeat' split at h2_
  all_goals repeat' split
  all_goals omega
theorem su_mn {f_ g_ : Nat → Int} : ∀ {k_ : Nat}, (∀ j_, j_ < k_ → 0 ≤ f_ j_ ∧ 0 ≤ g_ j_ ∧ mn (f_ j_) = mn (g_ j_)) → 0 ≤ su f_ k_ ∧ 0 ≤ su g_ k_ ∧ mn (su f_ k_) = mn (su g_ k_)
  | 0, _ => ⟨Int.le_refl _, Int.le_refl _, rfl⟩
  | k_ + 1, h_ => by
    have h1_ := su_mn (f_ := f_) (g_ := g_) (k_ := k_) (fun j_ hj_ => h_ j_ (by omega))
    have h2_ := h_ k_ (by omega)
    refine ⟨?_, ?_, ?_⟩
    · show 0 ≤ su f_ k_ + f_ k_
      omega
    · show 0 ≤ su g_ k_ + g_ k_
      omega
    · exact mn_ad h1_.1 h2_.1 h1_.2.1 h2_.2.1 h1_.2.2 h2_.2.2
/-- both tables of_ a_ module's sums are_ the_ same below a_ thousand -/
theorem sat_eq {b_ : Nat → Int} {n_ M_ : Nat} {A_ : pA} {r1_ r2_ i1_ i2_ : Nat → Int} (hA_ : ∀ m_, m_ < M_ → a_ok b_ n_ A_ m_) (h1_ : ∀ m_, m_ < M_ → r1_ m_ = mn (su (t_rg r1_ A_ m_) (A_.1 m_))) (h2_ : ∀ m_, m_ < M_ → r2_ m_ = mc (su (t_rg r2_ A_ m_) (A_.1 m_))) (h3_ : ∀ m_, m_ < M_ → i1_ m_ = mn (su (t_is i1_ A_ m_) (A_.1 m_))) (h4_ : ∀ m_, m_ < M_ → i2_ m_ = mc (su (t_is i2_ A_ m_) (A_.1 m_))) : ∀ k_ m_, m_ < k_ → m_ < M_ → (r1_ m_ = mn (r2_ m_) ∧ 0 ≤ r2_ m_) ∧ (i1_ m_ = mn (i2_ m_) ∧ 0 ≤ i2_ m_) := by
  intro k_
  induction k_ with
  | zero => intro m_ hm_; exact absurd hm_ (Nat.not_lt_zero _)
  | succ k_ ih_ =>
    intro m_ hm_ hM_
    have a1_ := (hA_ m_ hM_).2 m_ (Nat.le_refl m_)
    have dt_ : ∀ s_, s_ < A_.1 m_ → A_.2.2.1 (40 * m_ + s_) = 5 → (A_.2.2.2.2 (40 * m_ + s_)).toNat < m_ := by
      intro s_ hs_ h5_
      have := (a1_.2 s_ hs_).2.2.2.2.1 h5_
      omega
    have q1_ := su_mn (f_ := t_rg r1_ A_ m_) (g_ := t_rg r2_ A_ m_) (k_ := A_.1 m_) (fun s_ hs_ => by
      have w_ := (a1_.2 s_ hs_).2.2.1
      unfold t_rg
      by_cases z_ : A_.2.2.1 (40 * m_ + s_) = 3 ∨ A_.2.2.1 (40 * m_ + s_) = 4
      · rw [if_pos z_, if_pos z_]; exact ⟨w_.1, w_.1, rfl⟩
      · rw [if_neg z_, if_neg z_]
        by_cases z2_ : A_.2.2.1 (40 * m_ + s_) = 5
        · have d_ := dt_ s_ hs_ z2_
          have e_ := (ih_ (A_.2.2.2.2 (40 * m_ + s_)).toNat (by omega) (by omega)).1
          rw [if_pos z2_, if_pos z2_, e_.1]
          have mb_ := mn_b e_.2
          refine ⟨mb_.1, e_.2, ?_⟩
          unfold mn
          repeat' split
          all_goals omega
        · rw [if_neg z2_, if_neg z2_]; exact ⟨Int.le_refl _, Int.le_refl _, rfl⟩)
    have q2_ := su_mn (f_ := t_is i1_ A_ m_) (g_ := t_is i2_ A_ m_) (k_ := A_.1 m_) (fun s_ hs_ => by
      unfold t_is
      by_cases z2_ : A_.2.2.1 (40 * m_ + s_) = 5
      · have d_ := dt_ s_ hs_ z2_
        have e_ := (ih_ (A_.2.2.2.2 (40 * m_ + s_)).toNat (by omega) (by omega)).2
        rw [if_pos z2_, if_pos z2_, e_.1]
        have mb_ := mn_b e_.2
        refine ⟨by omega, by omega, ?_⟩
        unfold mn
        repeat' split
        all_goals omega
      · rw [if_neg z2_, if_neg z2_]; exact ⟨Int.le_refl _, Int.le_refl _, rfl⟩)
    rw [h1_ m_ hM_, h2_ m_ hM_, h3_ m_ hM_, h4_ m_ hM_, mn_mc, mn_mc]
    exact ⟨⟨q1_.2.2, (mc_b q1_.2.1).1⟩, q2_.2.2, (mc_b q2_.2.1).1⟩
theorem lm_sat {i_ r_ x_ y_ : Int} (hi_ : 0 ≤ i_) (hr_ : 0 ≤ r_) (hx_ : 0 ≤ x_) : p_lm (mn i_) x_ (mn r_) y_ = p_lm i_ x_ r_ y_ := by
  unfold p_lm mn
  repeat' split
  all_goals first | rfl | (exfalso; omega)
/-! Builder.bitsOf -/
def vw_33 : sx_Wl := ([], [], [])
def vq_33 (m_ : Int) (so_ : Int) (b_ : Nat → Int) (n_ : Nat) (A_ : pA) (mm_ : Nat) (S0_ : sm_S) (u_ : Option sm_V) (S1_ : sm_S) : Prop := S0_ = S1_ ∧ ∃ v_ : Int, u_ = some (.inl v_) ∧ (v_ = su (t_in A_ so_ mm_) (A_.1 mm_) ∧ 0 ≤ v_ ∧ v_ ≤ 320)
set_option maxHeartbeats 400000 in
theorem vl_33 {sc_ : Nat × (Nat → Int)} (m_ : Int) (so_ : Int) (b_ : Nat → Int) (n_ : Nat) (A_ : pA) (mm_ : Nat) (S0_ : sm_S) (hm1_ : m_ = (mm_ : Int) ∧ mm_ ≤ 15) (hr_ : er1 b_ n_ A_ mm_ S0_) (hA_ : a_ok b_ n_ A_ mm_) : ∀ nn_ : Nat, (∀ (c_ : Int) (k_ : Int) (S_ : sm_S), gi S_ → ai_fr (sx_W vw_33) S0_ S_ → ((0 ≤ k_ ∧ k_ ≤ (A_.1 mm_ : Int)) ∧ (c_ = su (t_in A_ so_ mm_) k_.toNat) ∧ (S_ = S0_) ∧ True) → (((A_.1 mm_ : Int) - k_).toNat) < nn_ → sm_T (mt_P sc_) 0 33 (5, [some (.inr (.inr (some (1, 0)))), some (.inl m_), some (.inl so_), some (.inl c_), some (.inl k_)], [], S_) (fun r_ => ∃ u_ S1_, r_ = (.inl u_, S1_, 0) ∧ vq_33 m_ so_ b_ n_ A_ mm_ S0_ u_ S1_)) := by
  intro nn_
  induction nn_ with
  | zero => exact fun _ _ _ _ _ _ h_ => absurd h_ (Nat.not_lt_zero _)
  | succ nn_ ih_ =>
    rintro c_ k_ S_ hI_ hF_ ⟨h0_, h1_, hS_, -⟩ hm_
    have A40_ := (hA_.2 mm_ (Nat.le_refl _)).1
    have hK_ : S_.2.2.1 77 0 m_.toNat = (A_.1 mm_ : Int) := by rw [hS_, show m_.toNat = mm_ by omega]; exact hr_.1
    have cb_ := su_b (f_ := t_in A_ so_ mm_) (c_ := 8) (k_ := k_.toNat) (fun j_ hj_ => by have z_ := ((hA_.2 mm_ (Nat.le_refl _)).2 j_ (by omega)).2.2.1; unfold t_in; split <;> omega)
    have sv_ : k_ < (A_.1 mm_ : Int) → S_.2.2.1 79 0 (40 * m_ + k_).toNat = A_.2.2.1 (40 * mm_ + k_.toNat) ∧ S_.2.2.1 80 0 (40 * m_ + k_).toNat = A_.2.2.2.1 (40 * mm_ + k_.toNat) := by intro z_; rw [hS_, show (40 * m_ + k_).toNat = 40 * mm_ + k_.toNat by omega]; exact ⟨(hr_.2 k_.toNat (by omega)).2.1, (hr_.2 k_.toNat (by omega)).2.2.1⟩
    refine sm_T_go 5 (c1 := (15, [some (.inr (.inr (some (1, 0)))), some (.inl m_), some (.inl so_), some (.inl c_), some (.inl k_)], [.inl m_, .inr (.inr (some (77, 0))), .inl k_], S_)) rfl ?_
    refine sm_T_iald (n := 17) rfl rfl (by omega) (by omega) ?_
    have bx1_ : 0 ≤ S_.2.2.1 77 0 m_.toNat ∧ S_.2.2.1 77 0 m_.toNat ≤ 40 := hI_.2 77 0 _
    refine sm_T_br (a := 3) (z := 46) rfl (fun cx2_ => ?_) (fun cx2_ => ?_)
    · have cx2_ : (S_.2.2.1 77 0 m_.toNat) ≤ k_ := of_decide_eq_true cx2_
      refine sm_T_go 1 (c1 := (63, [some (.inr (.inr (some (1, 0)))), some (.inl m_), some (.inl so_), some (.inl c_), some (.inl k_)], [.inl c_], S_)) rfl ?_
      refine sm_T_ri rfl ⟨_, _, rfl, (by first | rfl | exact hS_.symm), _, rfl, ?_⟩
      refine ⟨?_, by omega, by omega⟩
      rw [show A_.1 mm_ = k_.toNat by omega]
      exact h1_
    · have cx2_ : ¬ ((S_.2.2.1 77 0 m_.toNat) ≤ k_) := of_decide_eq_false cx2_
      refine sm_T_go 5 (c1 := (29, [some (.inr (.inr (some (1, 0)))), some (.inl m_), some (.inl so_), some (.inl c_), some (.inl k_)], [.inl 40, .inl m_, .inr (.inr (some (79, 0)))], S_)) rfl ?_
      refine sm_T_bin (w := 40 * m_) rfl (bi_mul (by omega) (by omega) (by omega)) ?_
      refine sm_T_go 1 (c1 := (32, [some (.inr (.inr (some (1, 0)))), some (.inl m_), some (.inl so_), some (.inl c_), some (.inl k_)], [.inl k_, .inl (40 * m_), .inr (.inr (some (79, 0)))], S_)) rfl ?_
      refine sm_T_bin (w := 40 * m_ + k_) rfl (bi_add (by omega) (by omega) (by omega)) ?_
      refine sm_T_iald (n := 640) rfl rfl (by omega) (by omega) ?_
      have bx3_ : 0 ≤ S_.2.2.1 79 0 (40 * m_ + k_).toNat ∧ S_.2.2.1 79 0 (40 * m_ + k_).toNat ≤ 5 := hI_.2 79 0 _
      refine sm_T_go 1 (c1 := (35, [some (.inr (.inr (some (1, 0)))), some (.inl m_), some (.inl so_), some (.inl c_), some (.inl k_)], [.inl so_, .inl (S_.2.2.1 79 0 (40 * m_ + k_).toNat)], S_)) rfl ?_
      refine sm_T_br (a := 1) (z := 21) rfl (fun cx4_ => ?_) (fun cx4_ => ?_)
      · have cx4_ : (S_.2.2.1 79 0 (40 * m_ + k_).toNat) ≠ so_ := of_decide_eq_true cx4_
        refine sm_T_inc (a := 4) (z := 1) (v := k_) (w := k_ + 1) rfl rfl (by omega) (by omega) (by omega) ?_
        refine sm_T_go 1 (c1 := (5, [some (.inr (.inr (some (1, 0)))), some (.inl m_), some (.inl so_), some (.inl c_), some (.inl (k_ + 1))], [], S_)) rfl ?_
        refine ih_ c_ (k_ + 1) S_ hI_ hF_ ⟨?_, ?_, ?_, trivial⟩ ?_
        · omega
        · have s9_ := sv_ (by omega)
          rw [show (k_ + 1).toNat = k_.toNat + 1 by omega]
          show _ = su (t_in A_ so_ mm_) k_.toNat + (if A_.2.2.1 (40 * mm_ + k_.toNat) = so_ then A_.2.2.2.1 (40 * mm_ + k_.toNat) else 0)
          first | (rw [if_pos (by omega)]; omega) | (rw [if_neg (by omega)]; omega)
        · first | rfl | exact hS_
        · omega
      · have cx4_ : ¬ ((S_.2.2.1 79 0 (40 * m_ + k_).toNat) ≠ so_) := of_decide_eq_false cx4_
        refine sm_T_go 6 (c1 := (49, [some (.inr (.inr (some (1, 0)))), some (.inl m_), some (.inl so_), some (.inl c_), some (.inl k_)], [.inl 40, .inl m_, .inr (.inr (some (80, 0))), .inl c_], S_)) rfl ?_
        refine sm_T_bin (w := 40 * m_) rfl (bi_mul (by omega) (by omega) (by omega)) ?_
        refine sm_T_go 1 (c1 := (52, [some (.inr (.inr (some (1, 0)))), some (.inl m_), some (.inl so_), some (.inl c_), some (.inl k_)], [.inl k_, .inl (40 * m_), .inr (.inr (some (80, 0))), .inl c_], S_)) rfl ?_
        refine sm_T_bin (w := 40 * m_ + k_) rfl (bi_add (by omega) (by omega) (by omega)) ?_
        refine sm_T_iald (n := 640) rfl rfl (by omega) (by omega) ?_
        have bx5_ : 0 ≤ S_.2.2.1 80 0 (40 * m_ + k_).toNat ∧ S_.2.2.1 80 0 (40 * m_ + k_).toNat ≤ 8 := hI_.2 80 0 _
        refine sm_T_bin (w := c_ + (S_.2.2.1 80 0 (40 * m_ + k_).toNat)) rfl (bi_add (by omega) (by omega) (by omega)) ?_
        refine sm_T_go 1 (c1 := (56, [some (.inr (.inr (some (1, 0)))), some (.inl m_), some (.inl so_), some (.inl (c_ + (S_.2.2.1 80 0 (40 * m_ + k_).toNat))), some (.inl k_)], [], S_)) rfl ?_
        refine sm_T_inc (a := 4) (z := 1) (v := k_) (w := k_ + 1) rfl rfl (by omega) (by omega) (by omega) ?_
        refine sm_T_go 1 (c1 := (5, [some (.inr (.inr (some (1, 0)))), some (.inl m_), some (.inl so_), some (.inl (c_ + (S_.2.2.1 80 0 (40 * m_ + k_).toNat))), some (.inl (k_ + 1))], [], S_)) rfl ?_
        refine ih_ (c_ + (S_.2.2.1 80 0 (40 * m_ + k_).toNat)) (k_ + 1) S_ hI_ hF_ ⟨?_, ?_, ?_, trivial⟩ ?_
        · omega
        · have s9_ := sv_ (by omega)
          rw [show (k_ + 1).toNat = k_.toNat + 1 by omega]
          show _ = su (t_in A_ so_ mm_) k_.toNat + (if A_.2.2.1 (40 * mm_ + k_.toNat) = so_ then A_.2.2.2.1 (40 * mm_ + k_.toNat) else 0)
          first | (rw [if_pos (by omega)]; omega) | (rw [if_neg (by omega)]; omega)
        · first | rfl | exact hS_
        · omega
set_option maxHeartbeats 400000 in
theorem vc_33 {sc_ : Nat × (Nat → Int)} (m_ : Int) (so_ : Int) (b_ : Nat → Int) (n_ : Nat) (A_ : pA) (mm_ : Nat) (S0_ : sm_S) (hI_ : gi S0_) (hm1_ : m_ = (mm_ : Int) ∧ mm_ ≤ 15) (hr_ : er1 b_ n_ A_ mm_ S0_) (hA_ : a_ok b_ n_ A_ mm_) : sm_T (mt_P sc_) 0 33 (0, [some (.inr (.inr (some (1, 0)))), some (.inl m_), some (.inl so_), none, none], [], S0_) (fun r_ => ∃ u_ S1_, r_ = (.inl u_, S1_, 0) ∧ vq_33 m_ so_ b_ n_ A_ mm_ S0_ u_ S1_) := by
  have hF_ : ai_fr (sx_W vw_33) S0_ S0_ := ai_fr_rf
  refine sm_T_go 4 (c1 := (5, [some (.inr (.inr (some (1, 0)))), some (.inl m_), some (.inl so_), some (.inl 0), some (.inl 0)], [], S0_)) rfl ?_
  refine (vl_33 m_ so_ b_ n_ A_ mm_ S0_ hm1_ hr_ hA_ _) 0 0 S0_ hI_ hF_ ⟨?_, ?_, ?_, trivial⟩ (Nat.lt_succ_self _)
  · omega
  · rfl
  · first | rfl | exact hS_
end
/-! 99.z8a -/
section
/-! the class: limits told; written by wip/p55/gen/vg -/

/-! limits -/
def lt1 (A_ : pA) (m_ : Nat) (S_ : sm_S) : Prop := S_.2.2.1 30 0 m_ = mc (su (t_is (S_.2.2.1 30 0) A_ m_) (A_.1 m_)) ∧ S_.2.2.1 31 0 m_ = mc (su (t_rg (S_.2.2.1 31 0) A_ m_) (A_.1 m_))
theorem er1_fr {w_ : sx_Wl} {b_ : Nat → Int} {n_ m_ : Nat} {A_ : pA} {S_ S'_ : sm_S} (y_ : er1 b_ n_ A_ m_ S_) (f_ : ai_fr (sx_W w_) S_ S'_) (h0_ : (sx_W w_).2.1 77 = false) (h1_ : (sx_W w_).2.1 78 = false) (h2_ : (sx_W w_).2.1 79 = false) (h3_ : (sx_W w_).2.1 80 = false) (h4_ : (sx_W w_).2.1 81 = false) : er1 b_ n_ A_ m_ S'_ := by
  unfold er1 at y_ ⊢
  rw [fr_arr f_ h0_, fr_arr f_ h1_, fr_arr f_ h2_, fr_arr f_ h3_, fr_arr f_ h4_]
  exact y_
theorem sm_mc (x_ : Int) : sm_mn x_ 100000 = mc x_ := by
  have z_ := sm_mn_d x_ 100000
  unfold mc
  split <;> omega
theorem lt1_up {b_ : Nat → Int} {n_ m_ : Nat} {A_ : pA} {S_ S'_ : sm_S} (hA_ : a_ok b_ n_ A_ m_) (h_ : ∀ k_, k_ < m_ → lt1 A_ k_ S_) (h0_ : ∀ j_, S'_.2.2.1 30 0 j_ = if j_ = m_ then mc (su (t_is (S_.2.2.1 30 0) A_ m_) (A_.1 m_)) else S_.2.2.1 30 0 j_) (h1_ : ∀ j_, S'_.2.2.1 31 0 j_ = if j_ = m_ then mc (su (t_rg (S_.2.2.1 31 0) A_ m_) (A_.1 m_)) else S_.2.2.1 31 0 j_) : ∀ k_, k_ < m_ + 1 → lt1 A_ k_ S'_ := by
  intro k_ hk_
  have dt_ : ∀ s_, s_ < A_.1 k_ → A_.2.2.1 (40 * k_ + s_) = 5 → (A_.2.2.2.2 (40 * k_ + s_)).toNat ≠ m_ := by
    intro s_ hs_ h5_
    have := ((hA_.2 k_ (by omega)).2 s_ hs_).2.2.2.2.1 h5_
    omega
  have e0_ : su (t_is (S'_.2.2.1 30 0) A_ k_) (A_.1 k_) = su (t_is (S_.2.2.1 30 0) A_ k_) (A_.1 k_) := su_cg (fun s_ hs_ => by
    unfold t_is
    by_cases z2_ : A_.2.2.1 (40 * k_ + s_) = 5
    · rw [if_pos z2_, if_pos z2_, h0_, if_neg (dt_ s_ hs_ z2_)]
    · rw [if_neg z2_, if_neg z2_])
  have e1_ : su (t_rg (S'_.2.2.1 31 0) A_ k_) (A_.1 k_) = su (t_rg (S_.2.2.1 31 0) A_ k_) (A_.1 k_) := su_cg (fun s_ hs_ => by
    unfold t_rg
    by_cases z_ : A_.2.2.1 (40 * k_ + s_) = 3 ∨ A_.2.2.1 (40 * k_ + s_) = 4
    · rw [if_pos z_, if_pos z_]
    · rw [if_neg z_, if_neg z_]
      by_cases z2_ : A_.2.2.1 (40 * k_ + s_) = 5
      · rw [if_pos z2_, if_pos z2_, h1_, if_neg (dt_ s_ hs_ z2_)]
      · rw [if_neg z2_, if_neg z2_])
  unfold lt1
  rw [e0_, e1_, h0_, h1_]
  by_cases e_ : k_ = m_
  · rw [if_pos e_, if_pos e_, e_]
    exact ⟨rfl, rfl⟩
  · rw [if_neg e_, if_neg e_]
    exact h_ k_ (by omega)
end
/-! 99.za0 -/
section
/-! the graph, abstractly; written by wip/p55/gen/vg -/

/-! the_ graph: pairs of_ literals, the_ lesser first, in the_ order in which they are_ made -/
abbrev pGr : Type := List (Int × Int)
def g_fd (x_ y_ : Int) : pGr → Nat → Option Nat
  | [], _ => none
  | p_ :: l_, k_ => if p_.1 = x_ ∧ p_.2 = y_ then some k_ else g_fd x_ y_ l_ (k_ + 1)
def g_a2 (F_ : Nat) (G_ : pGr) (x_ y_ : Int) : Int × pGr := if x_ = 0 ∨ x_ = i_xor y_ 1 then (0, G_) else if x_ = 1 ∨ x_ = y_ then (y_, G_) else match g_fd x_ y_ G_ 0 with
  | some k_ => (2 * ((F_ + k_ : Nat) : Int), G_)
  | none => (2 * ((F_ + G_.length : Nat) : Int), G_ ++ [(x_, y_)])
/-- both, either, one_ alone; each with the_ graph behind it_ -/
def g_an (F_ : Nat) (G_ : pGr) (a_ b_ : Int) : Int × pGr := if a_ < b_ then g_a2 F_ G_ a_ b_ else g_a2 F_ G_ b_ a_
def g_or (F_ : Nat) (G_ : pGr) (a_ b_ : Int) : Int × pGr := (i_xor (g_an F_ G_ (i_xor a_ 1) (i_xor b_ 1)).1 1, (g_an F_ G_ (i_xor a_ 1) (i_xor b_ 1)).2)
def g_xo (F_ : Nat) (G_ : pGr) (a_ b_ : Int) : Int × pGr := g_or F_ (g_an F_ (g_an F_ G_ a_ (i_xor b_ 1)).2 (i_xor a_ 1) b_).2 (g_an F_ G_ a_ (i_xor b_ 1)).1 (g_an F_ (g_an F_ G_ a_ (i_xor b_ 1)).2 (i_xor a_ 1) b_).1
theorem g_fd_b {x_ y_ : Int} : ∀ {l_ : pGr} {k_ i_ : Nat}, g_fd x_ y_ l_ k_ = some i_ → k_ ≤ i_ ∧ i_ < k_ + l_.length ∧ l_[i_ - k_]? = some (x_, y_)
  | [], k_, i_, h_ => by cases h_
  | p_ :: l_, k_, i_, h_ => by
    unfold g_fd at h_
    split at h_
    · rename_i g_
      cases h_
      refine ⟨Nat.le_refl _, by simp, ?_⟩
      rw [Nat.sub_self]
      show some p_ = _
      rw [← g_.1, ← g_.2]
    · have k1_ := g_fd_b h_
      refine ⟨by omega, by simp only [List.length_cons]; omega, ?_⟩
      rw [show i_ - k_ = (i_ - (k_ + 1)) + 1 by omega, List.getElem?_cons_succ]
      exact k1_.2.2
theorem g_a2_le {F_ : Nat} {G_ : pGr} {x_ y_ : Int} : G_.length ≤ (g_a2 F_ G_ x_ y_).2.length ∧ (g_a2 F_ G_ x_ y_).2.length ≤ G_.length + 1 := by
  unfold g_a2
  split
  · exact ⟨Nat.le_refl _, Nat.le_succ _⟩
  · split
    · exact ⟨Nat.le_refl _, Nat.le_succ _⟩
    · split
      · exact ⟨Nat.le_refl _, Nat.le_succ _⟩
      · simp
theorem g_an_le {F_ : Nat} {G_ : pGr} {a_ b_ : Int} : G_.length ≤ (g_an F_ G_ a_ b_).2.length ∧ (g_an F_ G_ a_ b_).2.length ≤ G_.length + 1 := by
  unfold g_an
  split <;> exact g_a2_le
end
/-! 99.za1 -/
section
/-! the graph in the class; written by wip/p55/gen/vg -/

/-! the_ graph in the_ class: open addressing -/
theorem i_x1f : ∀ k_ : Fin 2048, i_xor (k_.val : Int) 1 = (k_.val : Int) + 1 - 2 * ((k_.val : Int) % 2) := by decide +kernel
theorem i_x1 {x_ : Int} (h_ : 0 ≤ x_ ∧ x_ ≤ 2047) : i_xor x_ 1 = x_ + 1 - 2 * (x_ % 2) := by
  have k_ := i_x1f ⟨x_.toNat, by omega⟩
  rw [show ((⟨x_.toNat, by omega⟩ : Fin 2048).val : Int) = x_ from Int.toNat_of_nonneg h_.1] at k_
  exact k_
theorem i_xc {x_ y_ : Int} : i_xor x_ y_ = i_xor y_ x_ := by
  unfold i_xor
  rw [Int32.xor_comm]
/-- an_ implication that omega doesn't look into -/
def imq (p_ q_ : Prop) : Prop := p_ → q_
def nz (u_ : Nat → Int) : Nat → Int := fun j_ => if u_ j_ = 0 then 0 else 1
def hpl (x_ y_ : Int) (j_ : Nat) : Nat := ((2027 * x_ + 31 * y_ + (j_ : Int)) % 4096).toNat
def gnd (G_ : pGr) : Prop := ∀ (i_ j_ : Nat) (p_ : Int × Int), G_[i_]? = some p_ → G_[j_]? = some p_ → i_ = j_
def bkr (F_ : Nat) (G_ : pGr) (u_ : Nat → Int) : Prop := (∀ j_, j_ < 4096 → u_ j_ = 0 ∨ ∃ k_, k_ < G_.length ∧ u_ j_ = ((F_ + k_ : Nat) : Int)) ∧ (∀ (k_ : Nat) (x_ y_ : Int), G_[k_]? = some (x_, y_) → ∃ j_, j_ < 4096 ∧ u_ (hpl x_ y_ j_) = ((F_ + k_ : Nat) : Int) ∧ ∀ i_, i_ < j_ → u_ (hpl x_ y_ i_) ≠ 0) ∧ cn1 (nz u_) 4096 = G_.length
theorem cn1_all {f_ : Nat → Int} : ∀ {n_ : Nat}, (∀ k_, k_ < n_ → f_ k_ = 1) → cn1 f_ n_ = n_
  | 0, _ => rfl
  | n_ + 1, h_ => by
    unfold cn1
    rw [cn1_all (fun k_ hk_ => h_ k_ (by omega)), if_pos (h_ n_ (by omega))]
theorem hpl_lt {x_ y_ : Int} {j_ : Nat} : hpl x_ y_ j_ < 4096 := by
  unfold hpl
  omega
theorem hpl_su {x_ y_ : Int} (q_ : Nat) (hq_ : q_ < 4096) : ∃ i_, i_ < 4096 ∧ hpl x_ y_ i_ = q_ := by
  refine ⟨(((q_ : Int) - (2027 * x_ + 31 * y_)) % 4096).toNat, by omega, ?_⟩
  unfold hpl
  omega
theorem g_fd_n {x_ y_ : Int} : ∀ {l_ : pGr} {k_ : Nat}, g_fd x_ y_ l_ k_ = none → ∀ i_ : Nat, l_[i_]? ≠ some (x_, y_)
  | [], k_, _, i_ => by simp
  | p_ :: l_, k_, h_, i_ => by
    unfold g_fd at h_
    split at h_
    · cases h_
    · rename_i g_
      cases i_ with
      | zero => intro e_; rw [List.getElem?_cons_zero] at e_; cases e_; exact g_ ⟨rfl, rfl⟩
      | succ i_ => rw [List.getElem?_cons_succ]; exact g_fd_n h_ i_
theorem g_fd_s {x_ y_ : Int} {G_ : pGr} (hn_ : gnd G_) {k_ : Nat} (h_ : G_[k_]? = some (x_, y_)) : g_fd x_ y_ G_ 0 = some k_ := by
  cases e_ : g_fd x_ y_ G_ 0 with
  | none => exact absurd h_ (g_fd_n e_ k_)
  | some i_ =>
    have q_ := (g_fd_b e_).2.2
    rw [Nat.sub_zero] at q_
    rw [hn_ i_ k_ _ q_ h_]
theorem bk_fd {F_ : Nat} {G_ : pGr} {u_ : Nat → Int} {a_ b_ : Int} {j_ : Nat} (h_ : bkr F_ G_ u_) (hG_ : G_.length ≤ 1000) (hF_ : 1 ≤ F_) (hj_ : j_ ≤ 4096) (h1_ : ∀ i_, i_ < j_ → u_ (hpl a_ b_ i_) ≠ 0 ∧ ∀ k_ : Nat, u_ (hpl a_ b_ i_) = ((F_ + k_ : Nat) : Int) → G_[k_]? ≠ some (a_, b_)) (h2_ : j_ = 4096 ∨ u_ (hpl a_ b_ j_) = 0) : u_ (hpl a_ b_ j_) = 0 ∧ j_ < 4096 ∧ g_fd a_ b_ G_ 0 = none := by
  have h3_ : j_ < 4096 := by
    by_cases z_ : j_ < 4096
    · exact z_
    · exfalso
      have e_ : cn1 (nz u_) 4096 = 4096 := cn1_all (fun k_ hk_ => by
        obtain ⟨i_, hi_, e_⟩ := hpl_su (x_ := a_) (y_ := b_) k_ hk_
        have q_ := (h1_ i_ (by omega)).1
        rw [e_] at q_
        exact if_neg q_)
      have := h_.2.2
      omega
  have h4_ : u_ (hpl a_ b_ j_) = 0 := by
    rcases h2_ with z_ | z_
    · omega
    · exact z_
  refine ⟨h4_, h3_, ?_⟩
  cases e_ : g_fd a_ b_ G_ 0 with
  | none => rfl
  | some k_ =>
    exfalso
    have q_ := (g_fd_b e_).2.2
    rw [Nat.sub_zero] at q_
    obtain ⟨i_, hi_, q1_, q2_⟩ := h_.2.1 k_ a_ b_ q_
    by_cases z_ : i_ < j_
    · exact (h1_ i_ z_).2 k_ q1_ q_
    · by_cases z2_ : i_ = j_
      · rw [z2_, h4_] at q1_
        omega
      · exact q2_ j_ (by omega) h4_
theorem gnd_ap {G_ : pGr} {a_ b_ : Int} (h_ : gnd G_) (hn_ : g_fd a_ b_ G_ 0 = none) : gnd (G_ ++ [(a_, b_)]) := by
  have key_ : ∀ (i_ : Nat) (p_ : Int × Int), (G_ ++ [(a_, b_)])[i_]? = some p_ → (i_ < G_.length ∧ G_[i_]? = some p_) ∨ (i_ = G_.length ∧ p_ = (a_, b_)) := by
    intro i_ p_ e_
    by_cases z_ : i_ < G_.length
    · rw [List.getElem?_append_left z_] at e_
      exact Or.inl ⟨z_, e_⟩
    · rw [List.getElem?_append_right (by omega)] at e_
      by_cases z2_ : i_ = G_.length
      · rw [z2_, Nat.sub_self, List.getElem?_cons_zero] at e_
        cases e_
        exact Or.inr ⟨z2_, rfl⟩
      · rw [show i_ - G_.length = (i_ - G_.length - 1) + 1 by omega, List.getElem?_cons_succ] at e_
        simp at e_
  intro i_ j_ p_ hi_ hj_
  rcases key_ i_ p_ hi_ with ⟨z1_, z2_⟩ | ⟨z1_, z2_⟩
  · rcases key_ j_ p_ hj_ with ⟨w1_, w2_⟩ | ⟨w1_, w2_⟩
    · exact h_ i_ j_ p_ z2_ w2_
    · rw [w2_] at z2_
      exact absurd z2_ (g_fd_n hn_ i_)
  · rcases key_ j_ p_ hj_ with ⟨w1_, w2_⟩ | ⟨w1_, w2_⟩
    · rw [z2_] at w2_
      exact absurd w2_ (g_fd_n hn_ j_)
    · omega
theorem ap_get {G_ : pGr} {a_ b_ x_ y_ : Int} {k_ : Nat} (e_ : (G_ ++ [(a_, b_)])[k_]? = some (x_, y_)) : (k_ < G_.length ∧ G_[k_]? = some (x_, y_)) ∨ (k_ = G_.length ∧ x_ = a_ ∧ y_ = b_) := by
  by_cases z_ : k_ < G_.length
  · rw [List.getElem?_append_left z_] at e_
    exact Or.inl ⟨z_, e_⟩
  · rw [List.getElem?_append_right (by omega)] at e_
    by_cases z2_ : k_ = G_.length
    · rw [z2_, Nat.sub_self, List.getElem?_cons_zero] at e_
      cases e_
      exact Or.inr ⟨z2_, rfl, rfl⟩
    · rw [show k_ - G_.length = (k_ - G_.length - 1) + 1 by omega, List.getElem?_cons_succ] at e_
      simp at e_
theorem bk_put {F_ : Nat} {G_ : pGr} {u_ w_ : Nat → Int} {a_ b_ : Int} {j_ : Nat} (h_ : bkr F_ G_ u_) (hF_ : 1 ≤ F_) (hj_ : j_ < 4096) (h1_ : ∀ i_, i_ < j_ → u_ (hpl a_ b_ i_) ≠ 0) (h2_ : u_ (hpl a_ b_ j_) = 0) (hw_ : ∀ k_, w_ k_ = if k_ = hpl a_ b_ j_ then ((F_ + G_.length : Nat) : Int) else u_ k_) : bkr F_ (G_ ++ [(a_, b_)]) w_ := by
  have hz_ : ∀ k_, u_ k_ ≠ 0 → w_ k_ = u_ k_ := fun k_ z_ => by
    rw [hw_ k_, if_neg (fun e_ => z_ (by rw [e_]; exact h2_))]
  refine ⟨fun k_ hk_ => ?_, fun k_ x_ y_ e_ => ?_, ?_⟩
  · rw [hw_ k_]
    by_cases e_ : k_ = hpl a_ b_ j_
    · rw [if_pos e_]
      exact Or.inr ⟨G_.length, by simp, rfl⟩
    · rw [if_neg e_]
      rcases h_.1 k_ hk_ with z_ | ⟨i_, z1_, z2_⟩
      · exact Or.inl z_
      · exact Or.inr ⟨i_, by simp only [List.length_append, List.length_cons, List.length_nil]; omega, z2_⟩
  · rcases ap_get e_ with ⟨z1_, z2_⟩ | ⟨z1_, z2_, z3_⟩
    · obtain ⟨i_, q1_, q2_, q3_⟩ := h_.2.1 k_ x_ y_ z2_
      refine ⟨i_, q1_, ?_, fun i1_ hi1_ => ?_⟩
      · rw [hz_ _ (by rw [q2_]; omega)]
        exact q2_
      · rw [hz_ _ (q3_ i1_ hi1_)]
        exact q3_ i1_ hi1_
    · rw [z1_, z2_, z3_]
      refine ⟨j_, hj_, by rw [hw_, if_pos rfl], fun i_ hi_ => ?_⟩
      rw [hz_ _ (h1_ i_ hi_)]
      exact h1_ i_ hi_
  · rw [cn1_up (f := nz u_) (g := nz w_) (j := hpl a_ b_ j_) (by unfold nz; rw [if_pos h2_]; decide) (by unfold nz; rw [hw_, if_pos rfl, if_neg (by omega)]) (fun k_ hk_ => by unfold nz; rw [hw_ k_, if_neg hk_]) hpl_lt, h_.2.2]
    simp
/-- the_ other designs are_ as_ they were -/
def idf (dd_ : Nat) (S_ S'_ : sm_S) : Prop := ∀ i_, i_ ≠ dd_ → (∀ k_, k_ < 10 → S'_.1 3 i_ k_ = S_.1 3 i_ k_) ∧ ∀ t_, t_ < 48 → 42 ≤ t_ → S'_.2.2.1 t_ (0 + i_) = S_.2.2.1 t_ (0 + i_)
theorem idf_rf {dd_ : Nat} {S_ : sm_S} : idf dd_ S_ S_ := fun _ _ => ⟨fun _ _ => rfl, fun _ _ _ => rfl⟩
theorem idf_tr {dd_ : Nat} {S_ S'_ S2_ : sm_S} (h_ : idf dd_ S_ S'_) (g_ : idf dd_ S'_ S2_) : idf dd_ S_ S2_ := fun i_ hi_ => ⟨fun k_ hk_ => ((g_ i_ hi_).1 k_ hk_).trans ((h_ i_ hi_).1 k_ hk_), fun t_ h1_ h2_ => ((g_ i_ hi_).2 t_ h1_ h2_).trans ((h_ i_ hi_).2 t_ h1_ h2_)⟩
theorem idf_fr {w_ : sx_Wl} {dd_ : Nat} {S_ S'_ : sm_S} (g_ : ai_fr (sx_W w_) S_ S'_) (h1_ : ∀ k_, k_ < 10 → (sx_W w_).1 3 k_ = false) (h2_ : ∀ t_, t_ < 48 → 42 ≤ t_ → (sx_W w_).2.1 t_ = false) : idf dd_ S_ S'_ := fun i_ _ => ⟨fun k_ hk_ => g_.1 3 i_ k_ (h1_ k_ hk_), fun t_ q1_ q2_ => fr_arr g_ (h2_ t_ q1_ q2_)⟩
theorem idf_pI {dd_ t_ i_ k_ : Nat} {S_ S'_ : sm_S} {v_ : Int} (h_ : idf dd_ S_ S'_) (g_ : t_ ≠ 3 ∨ i_ = dd_) : idf dd_ S_ (sm_pI S'_ t_ i_ k_ v_) := fun j_ hj_ => ⟨fun k1_ hk_ => by
  rw [← (h_ j_ hj_).1 k1_ hk_]
  exact sm_up_ne (fun z_ => by
    rcases g_ with g_ | g_
    · exact g_ z_.1.symm
    · exact hj_ (z_.2.1.trans g_)), (h_ j_ hj_).2⟩
theorem idf_aI {dd_ t_ i_ k_ : Nat} {S_ S'_ : sm_S} {v_ : Int} (h_ : idf dd_ S_ S'_) (g_ : (t_ < 42 ∨ 47 < t_) ∨ i_ = 0 + dd_) : idf dd_ S_ (sm_aI S'_ t_ i_ k_ v_) := fun j_ hj_ => ⟨(h_ j_ hj_).1, fun t1_ q1_ q2_ => by
  rw [← (h_ j_ hj_).2 t1_ q1_ q2_]
  funext k1_
  exact sm_up_ne (fun z_ => by
    rcases g_ with g_ | g_
    · have := z_.1
      omega
    · have := z_.2.1
      omega)⟩
theorem idf_aL {dd_ t_ i_ k_ : Nat} {S_ S'_ : sm_S} {v_ : Int} (h_ : idf dd_ S_ S'_) : idf dd_ S_ (sm_aL S'_ t_ i_ k_ v_) := h_
theorem idf_pR {dd_ t_ i_ k_ : Nat} {S_ S'_ : sm_S} {v_ : Option Nat} (h_ : idf dd_ S_ S'_) : idf dd_ S_ (sm_pR S'_ t_ i_ k_ v_) := h_
theorem idf_ac {dd_ t_ i_ t1_ i1_ a_ c_ k_ : Nat} {S_ S'_ : sm_S} (h_ : idf dd_ S_ S'_) (g_ : (t1_ < 42 ∨ 47 < t1_) ∨ i1_ = 0 + dd_) : idf dd_ S_ (sm_acI S'_ t_ i_ t1_ i1_ a_ c_ k_) := fun j_ hj_ => ⟨(h_ j_ hj_).1, fun t2_ q1_ q2_ => by
  rw [← (h_ j_ hj_).2 t2_ q1_ q2_]
  exact sm_acI_ne (fun z_ => by
    rcases g_ with g_ | g_
    · have := z_.1
      omega
    · have := z_.2
      omega)⟩
/-- the_ class's graph -/
def cgx (dd_ F_ : Nat) (G_ : pGr) (S_ : sm_S) : Prop := S_.2.1 1 0 1 = some dd_ ∧ (F_ : Int) = 1 + S_.1 3 dd_ 1 + S_.1 3 dd_ 2 ∧ (1 ≤ F_ ∧ F_ ≤ 13) ∧ S_.1 3 dd_ 4 = ((F_ + G_.length : Nat) : Int) ∧ G_.length ≤ 1000 ∧ (∀ (k_ : Nat) (x_ y_ : Int), G_[k_]? = some (x_, y_) → S_.2.2.1 42 (0 + dd_) (F_ + k_) = x_ ∧ S_.2.2.1 43 (0 + dd_) (F_ + k_) = y_) ∧ gnd G_ ∧ bkr F_ G_ (S_.2.2.1 29 0)
def cgl (dd_ F_ : Nat) (G_ : pGr) (S_ : sm_S) : Prop := ∃ G1_, cgx dd_ F_ G1_ S_ ∧ ((G_.length ≤ 1000 ∧ G1_ = G_ ∧ S_.1 1 0 8 = 0) ∨ (1000 < G_.length ∧ G1_.length = 1000 ∧ S_.1 1 0 8 = 1))
theorem cgx_up {dd_ F_ : Nat} {G_ : pGr} {S_ S'_ : sm_S} {a_ b_ : Int} {j_ : Nat} (h_ : cgx dd_ F_ G_ S_) (hl_ : G_.length < 1000) (hj_ : j_ < 4096) (h1_ : ∀ i_, i_ < j_ → S_.2.2.1 29 0 (hpl a_ b_ i_) ≠ 0) (h2_ : S_.2.2.1 29 0 (hpl a_ b_ j_) = 0) (hn_ : g_fd a_ b_ G_ 0 = none) (e0_ : S'_.2.1 1 0 1 = S_.2.1 1 0 1) (e1_ : S'_.1 3 dd_ 1 = S_.1 3 dd_ 1) (e2_ : S'_.1 3 dd_ 2 = S_.1 3 dd_ 2) (e4_ : S'_.1 3 dd_ 4 = S_.1 3 dd_ 4 + 1) (e29_ : ∀ k_, S'_.2.2.1 29 0 k_ = if k_ = hpl a_ b_ j_ then ((F_ + G_.length : Nat) : Int) else S_.2.2.1 29 0 k_) (e42_ : ∀ k_, S'_.2.2.1 42 (0 + dd_) k_ = if k_ = F_ + G_.length then a_ else S_.2.2.1 42 (0 + dd_) k_) (e43_ : ∀ k_, S'_.2.2.1 43 (0 + dd_) k_ = if k_ = F_ + G_.length then b_ else S_.2.2.1 43 (0 + dd_) k_) : cgx dd_ F_ (G_ ++ [(a_, b_)]) S'_ := by
  obtain ⟨x1_, x2_, x3_, x4_, x5_, x6_, x7_, x8_⟩ := h_
  refine ⟨e0_.trans x1_, by rw [e1_, e2_]; exact x2_, x3_, ?_, ?_, fun k_ x_ y_ e_ => ?_, gnd_ap x7_ hn_, bk_put x8_ x3_.1 hj_ h1_ h2_ e29_⟩
  · rw [e4_, x4_]
    simp only [List.length_append, List.length_cons, List.length_nil]
    push_cast
    omega
  · simp only [List.length_append, List.length_cons, List.length_nil]
    omega
  · rw [e42_, e43_]
    rcases ap_get e_ with ⟨z1_, z2_⟩ | ⟨z1_, z2_, z3_⟩
    · rw [if_neg (by omega), if_neg (by omega)]
      exact x6_ k_ x_ y_ z2_
    · rw [if_pos (by omega), if_pos (by omega)]
      exact ⟨z2_.symm, z3_.symm⟩
/-- the_ same graph, if nothing of_ it_ was_ written -/
theorem cgx_cg {dd_ F_ : Nat} {G_ : pGr} {S_ S'_ : sm_S} (h_ : cgx dd_ F_ G_ S_) (e0_ : S'_.2.1 1 0 1 = S_.2.1 1 0 1) (e1_ : S'_.1 3 dd_ 1 = S_.1 3 dd_ 1) (e2_ : S'_.1 3 dd_ 2 = S_.1 3 dd_ 2) (e4_ : S'_.1 3 dd_ 4 = S_.1 3 dd_ 4) (e29_ : S'_.2.2.1 29 0 = S_.2.2.1 29 0) (e42_ : S'_.2.2.1 42 (0 + dd_) = S_.2.2.1 42 (0 + dd_)) (e43_ : S'_.2.2.1 43 (0 + dd_) = S_.2.2.1 43 (0 + dd_)) : cgx dd_ F_ G_ S'_ := by
  unfold cgx at h_ ⊢
  rw [e0_, e1_, e2_, e4_, e29_, e42_, e43_]
  exact h_
theorem cgl_fr {w_ : sx_Wl} {dd_ F_ : Nat} {G_ : pGr} {S_ S'_ : sm_S} (h_ : cgl dd_ F_ G_ S_) (g_ : ai_fr (sx_W w_) S_ S'_) (h0_ : (sx_W w_).2.2 1 1 = false) (h1_ : (sx_W w_).1 3 1 = false) (h2_ : (sx_W w_).1 3 2 = false) (h3_ : (sx_W w_).1 3 4 = false) (h4_ : (sx_W w_).2.1 29 = false) (h5_ : (sx_W w_).2.1 42 = false) (h6_ : (sx_W w_).2.1 43 = false) (h7_ : (sx_W w_).1 1 8 = false) : cgl dd_ F_ G_ S'_ := by
  obtain ⟨G1_, x1_, x2_⟩ := h_
  refine ⟨G1_, cgx_cg x1_ (g_.2.1 1 0 1 h0_) (g_.1 3 dd_ 1 h1_) (g_.1 3 dd_ 2 h2_) (g_.1 3 dd_ 4 h3_) (fr_arr g_ h4_) (fr_arr g_ h5_) (fr_arr g_ h6_), ?_⟩
  rw [g_.1 1 0 8 h7_]
  exact x2_
theorem cgl_d {dd_ F_ : Nat} {G_ : pGr} {S_ : sm_S} (h_ : cgl dd_ F_ G_ S_) : S_.2.1 1 0 1 = some dd_ := by
  obtain ⟨G1_, x_, _⟩ := h_
  exact x_.1
theorem cgl_f {dd_ F_ : Nat} {G_ : pGr} {S_ : sm_S} (h_ : cgl dd_ F_ G_ S_) : (S_.1 1 0 8 = 0 ↔ G_.length ≤ 1000) ∧ (S_.1 1 0 8 = 0 ∨ S_.1 1 0 8 = 1) := by
  obtain ⟨G1_, _, x_⟩ := h_
  rcases x_ with x_ | x_ <;> omega
/-- what an_ AND_ gives: out_ of_ the_ exact graph -/
theorem an_go {dd_ F_ : Nat} {G_ G1_ : pGr} {S_ S1_ : sm_S} {A_ B_ x_ y_ v_ : Int} (hx_ : cgx dd_ F_ G1_ S_) (h0_ : (G_.length ≤ 1000 ∧ G1_ = G_ ∧ S_.1 1 0 8 = 0) ∨ (1000 < G_.length ∧ G1_.length = 1000 ∧ S_.1 1 0 8 = 1)) (hab_ : G_.length ≤ 1000 → x_ = A_ ∧ y_ = B_) (hr_ : (cgx dd_ F_ (g_an F_ G1_ x_ y_).2 S1_ ∧ v_ = (g_an F_ G1_ x_ y_).1 ∧ S1_.1 1 0 8 = S_.1 1 0 8) ∨ (G1_.length = 1000 ∧ (g_an F_ G1_ x_ y_).2.length = 1001 ∧ cgx dd_ F_ G1_ S1_ ∧ S1_.1 1 0 8 = 1)) : cgl dd_ F_ (g_an F_ G_ A_ B_).2 S1_ ∧ ((g_an F_ G_ A_ B_).2.length ≤ 1000 → v_ = (g_an F_ G_ A_ B_).1) := by
  have hm_ := g_an_le (F_ := F_) (G_ := G_) (a_ := A_) (b_ := B_)
  have hm1_ := g_an_le (F_ := F_) (G_ := G1_) (a_ := x_) (b_ := y_)
  rcases h0_ with ⟨z1_, z2_, z3_⟩ | ⟨z1_, z2_, z3_⟩
  · obtain ⟨e1_, e2_⟩ := hab_ z1_
    subst z2_
    subst e1_
    subst e2_
    rcases hr_ with ⟨r1_, r2_, r3_⟩ | ⟨r1_, r2_, r3_, r4_⟩
    · exact ⟨⟨_, r1_, Or.inl ⟨r1_.2.2.2.2.1, rfl, r3_.trans z3_⟩⟩, fun _ => r2_⟩
    · exact ⟨⟨_, r3_, Or.inr ⟨by omega, r1_, r4_⟩⟩, fun z_ => by omega⟩
  · refine ⟨?_, fun z_ => by omega⟩
    rcases hr_ with ⟨r1_, r2_, r3_⟩ | ⟨r1_, r2_, r3_, r4_⟩
    · have := r1_.2.2.2.2.1
      exact ⟨_, r1_, Or.inr ⟨by omega, by omega, r3_.trans z3_⟩⟩
    · exact ⟨_, r3_, Or.inr ⟨by omega, r1_, r4_⟩⟩
theorem g_an_mn {F_ : Nat} {G_ : pGr} {x_ y_ a_ b_ : Int} (h_ : (x_ < y_ ∧ a_ = x_ ∧ b_ = y_) ∨ (y_ ≤ x_ ∧ a_ = y_ ∧ b_ = x_)) : g_an F_ G_ x_ y_ = g_a2 F_ G_ a_ b_ := by
  unfold g_an
  rcases h_ with ⟨h1_, h2_, h3_⟩ | ⟨h1_, h2_, h3_⟩
  · rw [if_pos h1_, h2_, h3_]
  · rw [if_neg (by omega), h2_, h3_]
theorem g_a2_f {F_ k_ : Nat} {G_ : pGr} {x_ y_ : Int} (h0_ : ¬ (x_ = 0 ∨ x_ = i_xor y_ 1)) (h1_ : ¬ (x_ = 1 ∨ x_ = y_)) (h_ : g_fd x_ y_ G_ 0 = some k_) : g_a2 F_ G_ x_ y_ = (2 * ((F_ + k_ : Nat) : Int), G_) := by
  unfold g_a2
  rw [if_neg h0_, if_neg h1_, h_]
theorem g_a2_n {F_ : Nat} {G_ : pGr} {x_ y_ : Int} (h0_ : ¬ (x_ = 0 ∨ x_ = i_xor y_ 1)) (h1_ : ¬ (x_ = 1 ∨ x_ = y_)) (h_ : g_fd x_ y_ G_ 0 = none) : g_a2 F_ G_ x_ y_ = (2 * ((F_ + G_.length : Nat) : Int), G_ ++ [(x_, y_)]) := by
  unfold g_a2
  rw [if_neg h0_, if_neg h1_, h_]
end
/-! 99.za2 -/
section
/-! evaluation of code; written by wip/p55/gen/vg -/

/-! evaluation of_ code -/
abbrev gV : Type := List (List Int)
abbrev gE : Type := Nat → List Int
abbrev gO : Type := Nat → Option (Nat → List Int)
abbrev gQ : Type := pGr × Nat × Nat
abbrev gS : Type := gQ × gE × gO × gV
def g_z2 (op_ : pGr → Int → Int → Int × pGr) : pGr → List Int → List Int → List Int × pGr
  | G_, a_ :: x_, b_ :: y_ => ((op_ G_ a_ b_).1 :: (g_z2 op_ (op_ G_ a_ b_).2 x_ y_).1, (g_z2 op_ (op_ G_ a_ b_).2 x_ y_).2)
  | G_, _, _ => ([], G_)
/-- one_ bit_ of_ a_ sum_: the_ bit_, the_ carry, the_ graph -/
def g_s3 (F_ : Nat) (G_ : pGr) (c_ a_ b_ : Int) : Int × Int × pGr :=
  let h_ := g_xo F_ G_ a_ b_
  let s_ := g_xo F_ h_.2 h_.1 c_
  let m_ := g_an F_ s_.2 a_ b_
  let t_ := g_an F_ m_.2 h_.1 c_
  let o_ := g_or F_ t_.2 m_.1 t_.1
  (s_.1, o_.1, o_.2)
def g_su (F_ : Nat) : pGr → Int → List Int → List Int → List Int × pGr
  | G_, c_, a_ :: x_, b_ :: y_ => ((g_s3 F_ G_ c_ a_ b_).1 :: (g_su F_ (g_s3 F_ G_ c_ a_ b_).2.2 (g_s3 F_ G_ c_ a_ b_).2.1 x_ y_).1, (g_su F_ (g_s3 F_ G_ c_ a_ b_).2.2 (g_s3 F_ G_ c_ a_ b_).2.1 x_ y_).2)
  | G_, _, _, _ => ([], G_)
def g_e3 (F_ : Nat) (G_ : pGr) (s_ a_ b_ : Int) : Int × pGr := g_an F_ (g_xo F_ G_ a_ b_).2 s_ (i_xor (g_xo F_ G_ a_ b_).1 1)
def g_s1 (F_ : Nat) : pGr → Int → List Int → List Int → Int × pGr
  | G_, s_, a_ :: x_, b_ :: y_ => g_s1 F_ (g_e3 F_ G_ s_ a_ b_).2 (g_e3 F_ G_ s_ a_ b_).1 x_ y_
  | G_, s_, _, _ => (s_, G_)
def g_sa (F_ : Nat) (G_ : pGr) : List Int → List Int → List Int × pGr
  | a_ :: x_, b_ :: y_ => ([(g_s1 F_ (g_xo F_ G_ a_ b_).2 (i_xor (g_xo F_ G_ a_ b_).1 1) x_ y_).1], (g_s1 F_ (g_xo F_ G_ a_ b_).2 (i_xor (g_xo F_ G_ a_ b_).1 1) x_ y_).2)
  | _, _ => ([], G_)
/-- one_ bit_ of_ a_ choice -/
def g_c3 (F_ : Nat) (G_ : pGr) (c_ a_ b_ : Int) : Int × pGr := g_or F_ (g_an F_ (g_an F_ G_ c_ a_).2 (i_xor c_ 1) b_).2 (g_an F_ G_ c_ a_).1 (g_an F_ (g_an F_ G_ c_ a_).2 (i_xor c_ 1) b_).1
def g_ch (F_ : Nat) (c_ : Int) : pGr → List Int → List Int → List Int × pGr := g_z2 (fun G_ a_ b_ => g_c3 F_ G_ c_ a_ b_)
def g_bw (F_ : Nat) (k_ : Int) : pGr → Int → Int → Int × pGr := if k_ = 3 then g_an F_ else if k_ = 1 then g_or F_ else g_xo F_
def g_op (F_ : Nat) (k_ : Int) (G_ : pGr) (x_ y_ : List Int) : List Int × pGr := if k_ = 5 then g_su F_ G_ 0 x_ y_ else if k_ = 4 then g_sa F_ G_ x_ y_ else g_z2 (g_bw F_ k_) G_ x_ y_
def e_op (F_ : Nat) (k_ : Int) (G_ : pGr) (V_ : gV) : Option (pGr × gV) :=
  if k_ = 6 then (match V_ with
    | x_ :: l_ => some (G_, x_.map (fun z_ => i_xor z_ 1) :: l_)
    | _ => none)
  else if k_ = 7 then (match V_ with
    | e_ :: a_ :: [c_] :: l_ => if a_.length = e_.length ∧ 1 ≤ a_.length then some ((g_ch F_ c_ G_ a_ e_).2, (g_ch F_ c_ G_ a_ e_).1 :: l_) else none
    | _ => none)
  else if 1 ≤ k_ ∧ k_ ≤ 5 then (match V_ with
    | y_ :: x_ :: l_ => if x_.length = y_.length ∧ 1 ≤ x_.length then some ((g_op F_ k_ G_ x_ y_).2, (g_op F_ k_ G_ x_ y_).1 :: l_) else none
    | _ => none)
  else none
def c_bt (a_ : Nat) (d_ : Int) : List Int := (List.range a_).map fun (j_ : Nat) => i_shr d_ (j_ : Int) % 2
def e_ld (A_ : pA) (m_ : Nat) (k_ : Int) (a_ : Nat) (d_ : Int) (E_ : gE) (O_ : gO) (V_ : gV) : Option gV :=
  if k_ = 11 then (match V_ with
    | x_ :: l_ => if a_ < x_.length then some ([x_.getD a_ 0] :: l_) else none
    | _ => none)
  else if 512 ≤ V_.length then none
  else if k_ = 8 then (if 1 ≤ a_ ∧ a_ ≤ 8 ∧ 0 ≤ d_ then some (c_bt a_ d_ :: V_) else none)
  else if k_ = 9 then (if a_ < A_.1 m_ ∧ 1 ≤ (E_ a_).length ∧ (E_ a_).length ≤ 8 ∧ ((E_ a_).length : Int) = A_.2.2.2.1 (40 * m_ + a_) then some (E_ a_ :: V_) else none)
  else if k_ = 10 then (match O_ a_ with
    | some o_ => if a_ < A_.1 m_ ∧ 0 ≤ d_ ∧ d_ < A_.1 (A_.2.2.2.2 (40 * m_ + a_)).toNat ∧ 0 ≤ A_.2.2.2.2 (40 * m_ + a_) ∧ A_.2.2.2.2 (40 * m_ + a_) < m_ ∧ 1 ≤ (o_ d_.toNat).length ∧ (o_ d_.toNat).length ≤ 8 ∧ ((o_ d_.toNat).length : Int) = A_.2.2.2.1 (40 * (A_.2.2.2.2 (40 * m_ + a_)).toNat + d_.toNat) then some (o_ d_.toNat :: V_) else none
    | none => none)
  else none
def r_bt (I_ R_ wd_ : Nat) : List Int := (List.range wd_).map fun (j_ : Nat) => 2 * ((1 + I_ + R_ + j_ : Nat) : Int)
def up1 {α : Type} (f_ : Nat → α) (a_ : Nat) (v_ : α) : Nat → α := fun k_ => if k_ = a_ then v_ else f_ k_
def e_st (I_ : Nat) (A_ : pA) (m_ : Nat) (k_ : Int) (a_ : Nat) (d_ : Int) (s_ : gS) : Option gS :=
  if A_.1 m_ ≤ a_ then none
  else if k_ = 15 then (if s_.1.2.2 ≤ 200 ∧ s_.2.1 a_ = [] ∧ s_.2.2.1 a_ = none then some ((s_.1.1, s_.1.2.1, s_.1.2.2 + 1), s_.2.1, up1 s_.2.2.1 a_ (some fun _ => []), s_.2.2.2) else none)
  else if k_ = 13 then (if s_.2.2.1 a_ = none ∧ 1 ≤ A_.2.2.2.1 (40 * m_ + a_) ∧ A_.2.2.2.1 (40 * m_ + a_) ≤ 8 ∧ s_.1.2.1 + (A_.2.2.2.1 (40 * m_ + a_)).toNat ≤ 6 then some ((s_.1.1, s_.1.2.1 + (A_.2.2.2.1 (40 * m_ + a_)).toNat, s_.1.2.2), up1 s_.2.1 a_ (r_bt I_ s_.1.2.1 (A_.2.2.2.1 (40 * m_ + a_)).toNat), s_.2.2.1, s_.2.2.2) else none)
  else match s_.2.2.2 with
    | [] => none
    | x_ :: l_ => if k_ = 12 then (if s_.2.2.1 a_ = none ∧ x_.length ≤ 8 then some (s_.1, up1 s_.2.1 a_ x_, s_.2.2.1, l_) else none)
      else if k_ = 14 then (match s_.2.1 a_ with
        | [] => none
        | z_ :: _ => if 2 * (1 + (I_ : Int)) ≤ z_ ∧ z_ / 2 - 1 - I_ + x_.length ≤ 6 then some (s_.1, s_.2.1, s_.2.2.1, l_) else none)
      else if k_ = 16 then (match s_.2.2.1 a_ with
        | some o_ => if 0 ≤ d_ ∧ d_ < 40 ∧ x_.length ≤ 8 then some (s_.1, s_.2.1, up1 s_.2.2.1 a_ (some (up1 o_ d_.toNat x_)), l_) else none
        | none => none)
      else none
def ew (F_ I_ : Nat) (A_ : pA) (X_ : Nat → gQ → gE → Option (gQ × gE)) (m_ : Nat) (w_ : Int) (s_ : gS) : Option gS :=
  if w_ % 32 = 17 then (match s_.2.2.1 (w_ / 32 % 64).toNat, s_.2.2.2 with
    | some o_, [] => if (w_ / 32 % 64).toNat < A_.1 m_ ∧ 0 ≤ w_ / 2048 ∧ w_ / 2048 < m_ then (match X_ (w_ / 2048).toNat s_.1 o_ with
        | some r_ => some (r_.1, s_.2.1, up1 s_.2.2.1 (w_ / 32 % 64).toNat (some r_.2), [])
        | none => none) else none
    | _, _ => none)
  else if w_ % 32 ≤ 7 then (match e_op F_ (w_ % 32) s_.1.1 s_.2.2.2 with
    | some r_ => some ((r_.1, s_.1.2), s_.2.1, s_.2.2.1, r_.2)
    | none => none)
  else if w_ % 32 ≤ 11 then (match e_ld A_ m_ (w_ % 32) (w_ / 32 % 64).toNat (w_ / 2048) s_.2.1 s_.2.2.1 s_.2.2.2 with
    | some V_ => some (s_.1, s_.2.1, s_.2.2.1, V_)
    | none => none)
  else e_st I_ A_ m_ (w_ % 32) (w_ / 32 % 64).toNat (w_ / 2048) s_
def ec (F_ I_ : Nat) (A_ : pA) (X_ : Nat → gQ → gE → Option (gQ × gE)) (m_ : Nat) : List Int → gS → Option gS
  | [], s_ => some s_
  | w_ :: c_, s_ => match ew F_ I_ A_ X_ m_ w_ s_ with
    | some s1_ => ec F_ I_ A_ X_ m_ c_ s1_
    | none => none
def exm (F_ I_ : Nat) (A_ : pA) (C_ : Nat → List Int) : Nat → Nat → gQ → gE → Option (gQ × gE)
  | 0, _, _, _ => none
  | f_ + 1, d_, q_, e_ => match ec F_ I_ A_ (exm F_ I_ A_ C_ f_) d_ (C_ d_) (q_, e_, fun _ => none, []) with
    | some s_ => match s_.2.2.2 with
      | [] => some (s_.1, s_.2.1)
      | _ => none
    | none => none
/-! the_ graph only grows -/
theorem g_or_le {F_ : Nat} {G_ : pGr} {a_ b_ : Int} : G_.length ≤ (g_or F_ G_ a_ b_).2.length := g_an_le.1
theorem g_xo_le {F_ : Nat} {G_ : pGr} {a_ b_ : Int} : G_.length ≤ (g_xo F_ G_ a_ b_).2.length :=
  Nat.le_trans g_an_le.1 (Nat.le_trans g_an_le.1 g_or_le)
theorem g_z2_le {op_ : pGr → Int → Int → Int × pGr} (h_ : ∀ G_ a_ b_, G_.length ≤ (op_ G_ a_ b_).2.length) : ∀ (x_ y_ : List Int) (G_ : pGr), G_.length ≤ (g_z2 op_ G_ x_ y_).2.length
  | [], _, G_ => Nat.le_refl _
  | _ :: _, [], G_ => Nat.le_refl _
  | a_ :: x_, b_ :: y_, G_ => Nat.le_trans (h_ G_ a_ b_) (g_z2_le h_ x_ y_ _)
theorem g_s3_le {F_ : Nat} {G_ : pGr} {c_ a_ b_ : Int} : G_.length ≤ (g_s3 F_ G_ c_ a_ b_).2.2.length :=
  Nat.le_trans g_xo_le (Nat.le_trans g_xo_le (Nat.le_trans g_an_le.1 (Nat.le_trans g_an_le.1 g_or_le)))
theorem g_su_le {F_ : Nat} : ∀ (x_ y_ : List Int) (G_ : pGr) (c_ : Int), G_.length ≤ (g_su F_ G_ c_ x_ y_).2.length
  | [], _, G_, _ => Nat.le_refl _
  | _ :: _, [], G_, _ => Nat.le_refl _
  | a_ :: x_, b_ :: y_, G_, c_ => Nat.le_trans g_s3_le (g_su_le x_ y_ _ _)
theorem g_e3_le {F_ : Nat} {G_ : pGr} {s_ a_ b_ : Int} : G_.length ≤ (g_e3 F_ G_ s_ a_ b_).2.length := Nat.le_trans g_xo_le g_an_le.1
theorem g_s1_le {F_ : Nat} : ∀ (x_ y_ : List Int) (G_ : pGr) (c_ : Int), G_.length ≤ (g_s1 F_ G_ c_ x_ y_).2.length
  | [], _, G_, _ => Nat.le_refl _
  | _ :: _, [], G_, _ => Nat.le_refl _
  | a_ :: x_, b_ :: y_, G_, c_ => Nat.le_trans g_e3_le (g_s1_le x_ y_ _ _)
theorem g_sa_le {F_ : Nat} : ∀ (x_ y_ : List Int) (G_ : pGr), G_.length ≤ (g_sa F_ G_ x_ y_).2.length
  | [], _, G_ => Nat.le_refl _
  | _ :: _, [], G_ => Nat.le_refl _
  | a_ :: x_, b_ :: y_, G_ => Nat.le_trans g_xo_le (g_s1_le x_ y_ _ _)
theorem g_c3_le {F_ : Nat} {G_ : pGr} {c_ a_ b_ : Int} : G_.length ≤ (g_c3 F_ G_ c_ a_ b_).2.length := Nat.le_trans g_an_le.1 (Nat.le_trans g_an_le.1 g_or_le)
theorem g_bw_le {F_ : Nat} {k_ : Int} : ∀ G_ a_ b_, G_.length ≤ (g_bw F_ k_ G_ a_ b_).2.length := by
  intro G_ a_ b_
  unfold g_bw
  split
  · exact g_an_le.1
  · split
    · exact g_or_le
    · exact g_xo_le
theorem g_op_le {F_ : Nat} {k_ : Int} {x_ y_ : List Int} {G_ : pGr} : G_.length ≤ (g_op F_ k_ G_ x_ y_).2.length := by
  unfold g_op
  split
  · exact g_su_le x_ y_ G_ 0
  · split
    · exact g_sa_le x_ y_ G_
    · exact g_z2_le g_bw_le x_ y_ G_
theorem e_op_le {F_ : Nat} {k_ : Int} {G_ : pGr} {V_ : gV} {r_ : pGr × gV} (h_ : e_op F_ k_ G_ V_ = some r_) : G_.length ≤ r_.1.length := by
  unfold e_op at h_
  split at h_
  · split at h_
    · cases h_; exact Nat.le_refl _
    · cases h_
  · split at h_
    · split at h_
      · split at h_
        · cases h_; exact g_z2_le (fun G_ a_ b_ => g_c3_le) _ _ _
        · cases h_
      · cases h_
    · split at h_
      · split at h_
        · split at h_
          · cases h_; exact g_op_le
          · cases h_
        · cases h_
      · cases h_
theorem e_st_g {I_ : Nat} {A_ : pA} {m_ : Nat} {k_ : Int} {a_ : Nat} {d_ : Int} {s_ r_ : gS} (h_ : e_st I_ A_ m_ k_ a_ d_ s_ = some r_) : r_.1.1 = s_.1.1 := by
  unfold e_st at h_
  split at h_
  · cases h_
  · split at h_
    · split at h_
      · cases h_; rfl
      · cases h_
    · split at h_
      · split at h_
        · cases h_; rfl
        · cases h_
      · split at h_
        · cases h_
        · split at h_
          · split at h_
            · cases h_; rfl
            · cases h_
          · split at h_
            · split at h_
              · cases h_
              · split at h_
                · cases h_; rfl
                · cases h_
            · split at h_
              · split at h_
                · split at h_
                  · cases h_; rfl
                  · cases h_
                · cases h_
              · cases h_
theorem ew_le {F_ I_ : Nat} {A_ : pA} {X_ : Nat → gQ → gE → Option (gQ × gE)} {m_ : Nat} {w_ : Int} {s_ r_ : gS} (hX_ : ∀ d_ q_ e_ z_, X_ d_ q_ e_ = some z_ → q_.1.length ≤ z_.1.1.length) (h_ : ew F_ I_ A_ X_ m_ w_ s_ = some r_) : s_.1.1.length ≤ r_.1.1.length := by
  unfold ew at h_
  split at h_
  · split at h_
    · split at h_
      · split at h_
        · rename_i e_
          cases h_
          exact hX_ _ _ _ _ e_
        · cases h_
      · cases h_
    · cases h_
  · split at h_
    · split at h_
      · rename_i e_
        cases h_
        exact e_op_le e_
      · cases h_
    · split at h_
      · split at h_
        · cases h_; exact Nat.le_refl _
        · cases h_
      · rw [e_st_g h_]
        exact Nat.le_refl _
theorem ec_le {F_ I_ : Nat} {A_ : pA} {X_ : Nat → gQ → gE → Option (gQ × gE)} {m_ : Nat} (hX_ : ∀ d_ q_ e_ z_, X_ d_ q_ e_ = some z_ → q_.1.length ≤ z_.1.1.length) : ∀ (c_ : List Int) (s_ r_ : gS), ec F_ I_ A_ X_ m_ c_ s_ = some r_ → s_.1.1.length ≤ r_.1.1.length
  | [], s_, r_, h_ => by cases h_; exact Nat.le_refl _
  | w_ :: c_, s_, r_, h_ => by
    rw [ec] at h_
    split at h_
    · rename_i e_
      exact Nat.le_trans (ew_le hX_ e_) (ec_le hX_ c_ _ _ h_)
    · cases h_
theorem exm_le {F_ I_ : Nat} {A_ : pA} {C_ : Nat → List Int} : ∀ (f_ d_ : Nat) (q_ : gQ) (e_ : gE) (z_ : gQ × gE), exm F_ I_ A_ C_ f_ d_ q_ e_ = some z_ → q_.1.length ≤ z_.1.1.length
  | 0, _, _, _, _, h_ => by cases h_
  | f_ + 1, d_, q_, e_, z_, h_ => by
    rw [exm] at h_
    split at h_
    · rename_i e1_
      split at h_
      · cases h_
        exact ec_le (fun d_ q_ e_ z_ => exm_le f_ d_ q_ e_ z_) _ _ _ e1_
      · cases h_
    · cases h_
theorem ec_ap {F_ I_ : Nat} {A_ : pA} {X_ : Nat → gQ → gE → Option (gQ × gE)} {m_ : Nat} : ∀ (c_ d_ : List Int) (s_ : gS), ec F_ I_ A_ X_ m_ (c_ ++ d_) s_ = match ec F_ I_ A_ X_ m_ c_ s_ with
    | some s1_ => ec F_ I_ A_ X_ m_ d_ s1_
    | none => none
  | [], d_, s_ => rfl
  | w_ :: c_, d_, s_ => by
    rw [List.cons_append, ec, ec]
    cases ew F_ I_ A_ X_ m_ w_ s_ with
    | none => rfl
    | some s1_ => exact ec_ap c_ d_ s1_
/-! rows that hold values -/
def rwv (st_ : Nat → Int) (p_ : Nat) (v_ : List Int) : Prop := ∀ (k_ : Nat) (z_ : Int), v_[k_]? = some z_ → st_ (p_ + k_) = z_
def svl (ok_ : Prop) (st_ wd_ : Nat → Int) : gV → Prop
  | [] => True
  | v_ :: l_ => wd_ l_.length = (v_.length : Int) ∧ (1 ≤ v_.length ∧ v_.length ≤ 8) ∧ (ok_ → rwv st_ (8 * l_.length) v_) ∧ svl ok_ st_ wd_ l_
theorem svl_up {ok_ ok'_ : Prop} {st_ st'_ wd_ wd'_ : Nat → Int} : ∀ {l_ : gV}, svl ok_ st_ wd_ l_ → (ok'_ → ok_) → (∀ j_, j_ < 8 * l_.length → st'_ j_ = st_ j_) → (∀ j_, j_ < l_.length → wd'_ j_ = wd_ j_) → svl ok'_ st'_ wd'_ l_
  | [], _, _, _, _ => trivial
  | v_ :: l_, h_, h0_, h1_, h2_ => by
    refine ⟨?_, h_.2.1, fun z_ k_ x_ e_ => ?_, svl_up h_.2.2.2 h0_ (fun j_ hj_ => h1_ j_ (by simp only [List.length_cons]; omega)) (fun j_ hj_ => h2_ j_ (by simp only [List.length_cons]; omega))⟩
    · rw [h2_ l_.length (by simp)]
      exact h_.1
    · have hk_ : k_ < v_.length := by
        by_cases g_ : k_ < v_.length
        · exact g_
        · rw [List.getElem?_eq_none (by omega)] at e_; cases e_
      have := h_.2.1
      rw [h1_ _ (by simp only [List.length_cons]; omega)]
      exact h_.2.2.1 (h0_ z_) k_ x_ e_
theorem rwv_cg {st_ st'_ : Nat → Int} {p_ : Nat} {v_ : List Int} (h_ : rwv st_ p_ v_) (h1_ : ∀ k_, k_ < v_.length → st'_ (p_ + k_) = st_ (p_ + k_)) : rwv st'_ p_ v_ := by
  intro k_ z_ e_
  have hk_ : k_ < v_.length := by
    by_cases g_ : k_ < v_.length
    · exact g_
    · rw [List.getElem?_eq_none (by omega)] at e_; cases e_
  rw [h1_ k_ hk_]
  exact h_ k_ z_ e_
theorem rwv_g {st_ : Nat → Int} {p_ k_ : Nat} {v_ : List Int} (h_ : rwv st_ p_ v_) (hk_ : k_ < v_.length) : st_ (p_ + k_) = v_.getD k_ 0 := by
  refine h_ k_ _ ?_
  rw [List.getD_eq_getElem?_getD, List.getElem?_eq_getElem hk_]
  rfl
theorem rwv_m {st_ : Nat → Int} {p_ : Nat} {d_ r_ : List Int} {a_ : Int} (h_ : rwv st_ p_ (d_ ++ a_ :: r_)) : st_ (p_ + d_.length) = a_ := h_ d_.length a_ (by rw [List.getElem?_append_right (Nat.le_refl _), Nat.sub_self, List.getElem?_cons_zero])
theorem rwv_set {st_ st'_ : Nat → Int} {p_ q_ : Nat} {d_ r_ : List Int} {a_ z_ : Int} (h_ : rwv st_ p_ (d_ ++ a_ :: r_)) (hq_ : q_ = p_ + d_.length) (hs_ : ∀ k_, st'_ k_ = if k_ = q_ then z_ else st_ k_) : rwv st'_ p_ ((d_ ++ [z_]) ++ r_) := by
  intro k_ x_ e_
  rw [hs_]
  by_cases g_ : k_ = d_.length
  · rw [if_pos (by omega)]
    rw [List.append_assoc, List.getElem?_append_right (by omega), show k_ - d_.length = 0 by omega] at e_
    exact Option.some.inj e_
  · rw [if_neg (by omega)]
    refine h_ k_ x_ ?_
    by_cases g2_ : k_ < d_.length
    · rw [List.append_assoc, List.getElem?_append_left g2_] at e_
      rw [List.getElem?_append_left g2_]
      exact e_
    · rw [List.append_assoc, List.getElem?_append_right (by omega)] at e_
      rw [List.getElem?_append_right (by omega)]
      rw [show k_ - d_.length = (k_ - d_.length - 1) + 1 by omega] at e_ ⊢
      exact e_
theorem g_z2_ln {op_ : pGr → Int → Int → Int × pGr} : ∀ (x_ y_ : List Int) (G_ : pGr), x_.length = y_.length → (g_z2 op_ G_ x_ y_).1.length = x_.length
  | [], _, G_, _ => by unfold g_z2; rfl
  | _ :: _, [], G_, h_ => by cases h_
  | a_ :: x_, b_ :: y_, G_, h_ => by
    rw [g_z2, List.length_cons, List.length_cons, g_z2_ln x_ y_ _ (by simpa using h_)]
theorem g_su_ln {F_ : Nat} : ∀ (x_ y_ : List Int) (G_ : pGr) (c_ : Int), x_.length = y_.length → (g_su F_ G_ c_ x_ y_).1.length = x_.length
  | [], _, G_, _, _ => by unfold g_su; rfl
  | _ :: _, [], G_, _, h_ => by cases h_
  | a_ :: x_, b_ :: y_, G_, c_, h_ => by
    rw [g_su, List.length_cons, List.length_cons, g_su_ln x_ y_ _ _ (by simpa using h_)]
theorem g_op_ln {F_ : Nat} {k_ : Int} {x_ y_ : List Int} {G_ : pGr} (h_ : x_.length = y_.length) (h1_ : 1 ≤ x_.length) : (g_op F_ k_ G_ x_ y_).1.length = if k_ = 4 then 1 else x_.length := by
  unfold g_op
  by_cases g5_ : k_ = 5
  · rw [if_pos g5_, if_neg (by omega), g_su_ln x_ y_ G_ 0 h_]
  · rw [if_neg g5_]
    by_cases g4_ : k_ = 4
    · rw [if_pos g4_, if_pos g4_]
      cases x_ with
      | nil => simp at h1_
      | cons a_ x_ =>
        cases y_ with
        | nil => cases h_
        | cons b_ y_ => rfl
    · rw [if_neg g4_, if_neg g4_, g_z2_ln x_ y_ G_ h_]
end
/-! 99.za3 -/
section
/-! frames; written by wip/p55/gen/vg -/

/-! frames -/
def cfr (f_ fc0_ fc_ : Nat) (E_ : gE) (O_ : gO) (fr_ : Nat → Int) : Prop := (∀ s_, s_ < 40 → rwv fr_ (8 * (40 * f_ + s_)) (E_ s_) ∧ (E_ s_).length ≤ 8) ∧ ∃ P_ : Nat → Nat, ∀ a_, a_ < 40 → ∀ o_, O_ a_ = some o_ → fr_ (8 * (40 * f_ + a_)) = (P_ a_ : Int) ∧ (fc0_ ≤ P_ a_ ∧ P_ a_ < fc_) ∧ (∀ a1_, a1_ < 40 → a1_ ≠ a_ → O_ a1_ ≠ none → P_ a1_ ≠ P_ a_) ∧ ∀ o1_, o1_ < 40 → rwv fr_ (8 * (40 * P_ a_ + o1_)) (o_ o1_) ∧ (o_ o1_).length ≤ 8
theorem rwv_cp {g_ h_ : Nat → Int} {p_ q_ : Nat} {v_ : List Int} (hv_ : rwv g_ p_ v_) (hl_ : v_.length ≤ 8) : rwv (sm_cp g_ h_ p_ q_ 8) q_ v_ := by
  intro k_ z_ e_
  have hk_ : k_ < v_.length := by
    by_cases w_ : k_ < v_.length
    · exact w_
    · rw [List.getElem?_eq_none (by omega)] at e_; cases e_
  show (if q_ ≤ q_ + k_ ∧ q_ + k_ < q_ + 8 then g_ (p_ + (q_ + k_ - q_)) else h_ (q_ + k_)) = z_
  rw [if_pos (by omega), show q_ + k_ - q_ = k_ by omega]
  exact hv_ k_ z_ e_
theorem sm_cp_o {g_ h_ : Nat → Int} {p_ q_ n_ j_ : Nat} (hj_ : j_ < q_ ∨ q_ + n_ ≤ j_) : sm_cp g_ h_ p_ q_ n_ j_ = h_ j_ := by
  show (if q_ ≤ j_ ∧ j_ < q_ + n_ then _ else _) = _
  rw [if_neg (by omega)]
theorem cfr_st {f_ fc0_ fc_ a_ : Nat} {E_ : gE} {O_ : gO} {fr_ fr'_ : Nat → Int} {v_ : List Int} (h_ : cfr f_ fc0_ fc_ E_ O_ fr_) (hf_ : f_ < fc0_) (ha_ : a_ < 40) (hO_ : O_ a_ = none) (hv_ : v_.length ≤ 8) (h1_ : rwv fr'_ (8 * (40 * f_ + a_)) v_) (h2_ : ∀ j_, j_ < 8 * (40 * f_ + a_) ∨ 8 * (40 * f_ + a_) + 8 ≤ j_ → fr'_ j_ = fr_ j_) : cfr f_ fc0_ fc_ (up1 E_ a_ v_) O_ fr'_ := by
  obtain ⟨x1_, P_, x2_⟩ := h_
  refine ⟨fun s_ hs_ => ?_, P_, fun a1_ ha1_ o_ ho_ => ?_⟩
  · unfold up1
    by_cases e_ : s_ = a_
    · rw [if_pos e_, e_]
      exact ⟨h1_, hv_⟩
    · rw [if_neg e_]
      have q_ := x1_ s_ hs_
      exact ⟨rwv_cg q_.1 (fun k_ hk_ => h2_ _ (by omega)), q_.2⟩
  · have q_ := x2_ a1_ ha1_ o_ ho_
    have e_ : a1_ ≠ a_ := fun e_ => by rw [e_, hO_] at ho_; cases ho_
    refine ⟨by rw [h2_ _ (by omega)]; exact q_.1, q_.2.1, q_.2.2.1, fun o1_ ho1_ => ?_⟩
    have w_ := q_.2.2.2 o1_ ho1_
    have := q_.2.1
    exact ⟨rwv_cg w_.1 (fun k_ hk_ => h2_ _ (by omega)), w_.2⟩
theorem cfr_bg {f_ fc0_ fc_ a_ : Nat} {E_ : gE} {O_ : gO} {fr_ fr'_ : Nat → Int} (h_ : cfr f_ fc0_ fc_ E_ O_ fr_) (hf_ : f_ < fc0_) (hc_ : fc0_ ≤ fc_) (ha_ : a_ < 40) (hE_ : E_ a_ = []) (hO_ : O_ a_ = none) (h2_ : ∀ j_, fr'_ j_ = if j_ = 8 * (40 * f_ + a_) then (fc_ : Int) else fr_ j_) : cfr f_ fc0_ (fc_ + 1) E_ (up1 O_ a_ (some fun _ => [])) fr'_ := by
  obtain ⟨x1_, P_, x2_⟩ := h_
  refine ⟨fun s_ hs_ => ?_, up1 P_ a_ fc_, fun a1_ ha1_ o_ ho_ => ?_⟩
  · have q_ := x1_ s_ hs_
    by_cases e_ : s_ = a_
    · rw [e_, hE_]
      exact ⟨fun k_ z_ w_ => by simp at w_, by simp⟩
    · exact ⟨rwv_cg q_.1 (fun k_ hk_ => by rw [h2_, if_neg (by omega)]), q_.2⟩
  · unfold up1 at ho_ ⊢
    by_cases e_ : a1_ = a_
    · rw [if_pos e_] at ho_
      cases ho_
      rw [if_pos e_, h2_, if_pos (by rw [e_])]
      refine ⟨rfl, by omega, fun a2_ ha2_ e2_ w_ => ?_, fun o1_ ho1_ => ⟨fun k_ z_ w_ => by simp at w_, by simp⟩⟩
      rw [if_neg (by omega)] at w_ ⊢
      obtain ⟨o2_, w2_⟩ : ∃ o2_, O_ a2_ = some o2_ := by
        cases z_ : O_ a2_ with
        | none => exact absurd z_ w_
        | some o2_ => exact ⟨o2_, rfl⟩
      have := (x2_ a2_ ha2_ o2_ w2_).2.1
      omega
    · rw [if_neg e_] at ho_
      have q_ := x2_ a1_ ha1_ o_ ho_
      rw [if_neg e_, h2_, if_neg (by omega)]
      have q1_ := q_.2.1
      refine ⟨q_.1, by omega, fun a2_ ha2_ e2_ w_ => ?_, fun o1_ ho1_ => ?_⟩
      · by_cases e3_ : a2_ = a_
        · rw [if_pos e3_]; omega
        · rw [if_neg e3_] at w_ ⊢
          exact q_.2.2.1 a2_ ha2_ e2_ w_
      · have w_ := q_.2.2.2 o1_ ho1_
        exact ⟨rwv_cg w_.1 (fun k_ hk_ => by rw [h2_, if_neg (by omega)]), w_.2⟩
/-- an_ argument: into the_ frame that is_ begun -/
theorem cfr_ag {f_ fc0_ fc_ a_ d_ p_ : Nat} {E_ : gE} {O_ : gO} {o_ : Nat → List Int} {fr_ fr'_ : Nat → Int} {v_ : List Int} (h_ : cfr f_ fc0_ fc_ E_ O_ fr_) (hf_ : f_ < fc0_) (ha_ : a_ < 40) (hO_ : O_ a_ = some o_) (hd_ : d_ < 40) (hv_ : v_.length ≤ 8) (hp_ : fr_ (8 * (40 * f_ + a_)) = (p_ : Int)) (h1_ : rwv fr'_ (8 * (40 * p_ + d_)) v_) (h2_ : ∀ j_, j_ < 8 * (40 * p_ + d_) ∨ 8 * (40 * p_ + d_) + 8 ≤ j_ → fr'_ j_ = fr_ j_) : cfr f_ fc0_ fc_ E_ (up1 O_ a_ (some (up1 o_ d_ v_))) fr'_ := by
  obtain ⟨x1_, P_, x2_⟩ := h_
  have y_ := x2_ a_ ha_ o_ hO_
  have py_ : p_ = P_ a_ := by have := y_.1; omega
  subst py_
  have y1_ := y_.2.1
  refine ⟨fun s_ hs_ => ?_, P_, fun a1_ ha1_ o1_ ho1_ => ?_⟩
  · have q_ := x1_ s_ hs_
    exact ⟨rwv_cg q_.1 (fun k_ hk_ => h2_ _ (by omega)), q_.2⟩
  · have hx_ : ∀ a2_, up1 O_ a_ (some (up1 o_ d_ v_)) a2_ ≠ none → O_ a2_ ≠ none := by
      intro a2_ w_
      unfold up1 at w_
      by_cases e_ : a2_ = a_
      · rw [e_, hO_]; exact fun z_ => by cases z_
      · rw [if_neg e_] at w_; exact w_
    by_cases e_ : a1_ = a_
    · have q0_ : o1_ = up1 o_ d_ v_ := by
        unfold up1 at ho1_
        rw [if_pos e_] at ho1_
        exact (Option.some.inj ho1_).symm
      rw [e_, q0_]
      refine ⟨by rw [h2_ _ (by omega)]; exact y_.1, y1_, fun a2_ ha2_ e2_ w_ => y_.2.2.1 a2_ ha2_ e2_ (hx_ a2_ w_), fun o2_ ho2_ => ?_⟩
      unfold up1
      by_cases e3_ : o2_ = d_
      · rw [if_pos e3_, e3_]
        exact ⟨h1_, hv_⟩
      · rw [if_neg e3_]
        have w_ := y_.2.2.2 o2_ ho2_
        exact ⟨rwv_cg w_.1 (fun k_ hk_ => h2_ _ (by omega)), w_.2⟩
    · have q0_ : O_ a1_ = some o1_ := by
        unfold up1 at ho1_
        rw [if_neg e_] at ho1_
        exact ho1_
      have q_ := x2_ a1_ ha1_ o1_ q0_
      have q1_ := q_.2.1
      have ne_ := q_.2.2.1 a_ ha_ (fun z_ => e_ z_.symm) (by rw [hO_]; exact fun z_ => by cases z_)
      refine ⟨by rw [h2_ _ (by omega)]; exact q_.1, q_.2.1, fun a2_ ha2_ e2_ w_ => q_.2.2.1 a2_ ha2_ e2_ (hx_ a2_ w_), fun o2_ ho2_ => ?_⟩
      have w_ := q_.2.2.2 o2_ ho2_
      exact ⟨rwv_cg w_.1 (fun k_ hk_ => h2_ _ (by omega)), w_.2⟩
/-- a_ call: the_ frame that was_ begun holds all_ names -/
theorem cfr_cl {f_ fc0_ fc_ fc1_ a_ p_ : Nat} {E_ e1_ : gE} {O_ : gO} {o_ : Nat → List Int} {fr_ fr'_ : Nat → Int} (h_ : cfr f_ fc0_ fc_ E_ O_ fr_) (hf_ : f_ < fc0_) (ha_ : a_ < 40) (hO_ : O_ a_ = some o_) (hp_ : fr_ (8 * (40 * f_ + a_)) = (p_ : Int)) (hc_ : fc_ ≤ fc1_) (h1_ : ∀ s_, s_ < 40 → rwv fr'_ (8 * (40 * p_ + s_)) (e1_ s_) ∧ (e1_ s_).length ≤ 8) (h2_ : ∀ j_, j_ < 8 * (40 * fc_) → j_ < 8 * (40 * p_) ∨ 8 * (40 * p_) + 320 ≤ j_ → fr'_ j_ = fr_ j_) (hf2_ : fc0_ ≤ fc_) : cfr f_ fc0_ fc1_ E_ (up1 O_ a_ (some e1_)) fr'_ := by
  obtain ⟨x1_, P_, x2_⟩ := h_
  have y_ := x2_ a_ ha_ o_ hO_
  have py_ : p_ = P_ a_ := by have := y_.1; omega
  subst py_
  have y1_ := y_.2.1
  refine ⟨fun s_ hs_ => ?_, P_, fun a1_ ha1_ o1_ ho1_ => ?_⟩
  · have q_ := x1_ s_ hs_
    exact ⟨rwv_cg q_.1 (fun k_ hk_ => h2_ _ (by omega) (by omega)), q_.2⟩
  · have hx_ : ∀ a2_, up1 O_ a_ (some e1_) a2_ ≠ none → O_ a2_ ≠ none := by
      intro a2_ w_
      unfold up1 at w_
      by_cases e_ : a2_ = a_
      · rw [e_, hO_]; exact fun z_ => by cases z_
      · rw [if_neg e_] at w_; exact w_
    by_cases e_ : a1_ = a_
    · have q0_ : o1_ = e1_ := by
        unfold up1 at ho1_
        rw [if_pos e_] at ho1_
        exact (Option.some.inj ho1_).symm
      rw [e_, q0_]
      exact ⟨by rw [h2_ _ (by omega) (by omega)]; exact y_.1, by omega, fun a2_ ha2_ e2_ w_ => y_.2.2.1 a2_ ha2_ e2_ (hx_ a2_ w_), fun o2_ ho2_ => h1_ o2_ ho2_⟩
    · have q0_ : O_ a1_ = some o1_ := by
        unfold up1 at ho1_
        rw [if_neg e_] at ho1_
        exact ho1_
      have q_ := x2_ a1_ ha1_ o1_ q0_
      have q1_ := q_.2.1
      have ne_ := q_.2.2.1 a_ ha_ (fun z_ => e_ z_.symm) (by rw [hO_]; exact fun z_ => by cases z_)
      refine ⟨by rw [h2_ _ (by omega) (by omega)]; exact q_.1, by omega, fun a2_ ha2_ e2_ w_ => q_.2.2.1 a2_ ha2_ e2_ (hx_ a2_ w_), fun o2_ ho2_ => ?_⟩
      have w_ := q_.2.2.2 o2_ ho2_
      exact ⟨rwv_cg w_.1 (fun k_ hk_ => h2_ _ (by omega) (by omega)), w_.2⟩
theorem c_bt_s {j_ : Nat} {d_ : Int} : c_bt (j_ + 1) d_ = c_bt j_ d_ ++ [i_shr d_ (j_ : Int) % 2] := by
  unfold c_bt
  rw [List.range_succ, List.map_append]
  rfl
theorem c_bt_l {j_ : Nat} {d_ : Int} : (c_bt j_ d_).length = j_ := by
  unfold c_bt
  rw [List.length_map, List.length_range]
theorem r_bt_s {I_ R_ j_ : Nat} : r_bt I_ R_ (j_ + 1) = r_bt I_ R_ j_ ++ [2 * ((1 + I_ + R_ + j_ : Nat) : Int)] := by
  unfold r_bt
  rw [List.range_succ, List.map_append]
  rfl
theorem r_bt_l {I_ R_ j_ : Nat} : (r_bt I_ R_ j_).length = j_ := by
  unfold r_bt
  rw [List.length_map, List.length_range]
theorem i_o63 : ∀ x_ y_ : Fin 64, 0 ≤ i_or (x_.val : Int) (y_.val : Int) ∧ i_or (x_.val : Int) (y_.val : Int) ≤ 63 := by decide +kernel
theorem i_orb {x_ y_ : Int} (hx_ : 0 ≤ x_ ∧ x_ ≤ 63) (hy_ : 0 ≤ y_ ∧ y_ ≤ 63) : 0 ≤ i_or x_ y_ ∧ i_or x_ y_ ≤ 63 := by
  have k_ := i_o63 ⟨x_.toNat, by omega⟩ ⟨y_.toNat, by omega⟩
  rw [show ((⟨x_.toNat, by omega⟩ : Fin 64).val : Int) = x_ from Int.toNat_of_nonneg hx_.1, show ((⟨y_.toNat, by omega⟩ : Fin 64).val : Int) = y_ from Int.toNat_of_nonneg hy_.1] at k_
  exact k_
theorem i_s63 : ∀ (x_ : Fin 2) (y_ : Fin 6), 0 ≤ i_shl (x_.val : Int) (y_.val : Int) ∧ i_shl (x_.val : Int) (y_.val : Int) ≤ 63 := by decide +kernel
theorem i_shb {x_ y_ : Int} (hx_ : 0 ≤ x_ ∧ x_ ≤ 1) (hy_ : 0 ≤ y_ ∧ y_ ≤ 5) : 0 ≤ i_shl x_ y_ ∧ i_shl x_ y_ ≤ 63 := by
  have k_ := i_s63 ⟨x_.toNat, by omega⟩ ⟨y_.toNat, by omega⟩
  rw [show ((⟨x_.toNat, by omega⟩ : Fin 2).val : Int) = x_ from Int.toNat_of_nonneg hx_.1, show ((⟨y_.toNat, by omega⟩ : Fin 6).val : Int) = y_ from Int.toNat_of_nonneg hy_.1] at k_
  exact k_
end
/-! 99.za4 -/
section
/-! the graph in the reference; written by wip/p55/gen/vg -/

/-! the_ graph in the_ reference: chains -/
def rch (nx_ : Nat → Int) : Nat → Int → Int → Prop
  | 0, s_, t_ => s_ = t_
  | f_ + 1, s_, t_ => s_ = t_ ∨ (0 < s_ ∧ rch nx_ f_ (nx_ s_.toNat) t_)
def hsr (x_ y_ : Int) : Nat := ((1021 * x_ + y_) % 4096).toNat
def rcb (F_ N_ : Nat) (s_ : Int) : Prop := s_ = 0 ∨ ((F_ : Int) ≤ s_ ∧ s_ < (N_ : Int))
def rck (F_ : Nat) (G_ : pGr) (hd_ nx_ : Nat → Int) : Prop := (∀ c_, c_ < 4096 → rcb F_ (F_ + G_.length) (hd_ c_)) ∧ (∀ k_, k_ < G_.length → rcb F_ (F_ + k_) (nx_ (F_ + k_))) ∧ ∀ (k_ : Nat) (x_ y_ : Int), G_[k_]? = some (x_, y_) → ∃ f_, rch nx_ f_ (hd_ (hsr x_ y_)) ((F_ + k_ : Nat) : Int)
theorem rch_up {F_ N_ : Nat} {nx_ ny_ : Nat → Int} (h1_ : ∀ k_, F_ ≤ k_ → k_ < N_ → rcb F_ k_ (nx_ k_)) (h2_ : ∀ k_, k_ < N_ → ny_ k_ = nx_ k_) : ∀ (f_ : Nat) (s_ t_ : Int), rcb F_ N_ s_ → rch nx_ f_ s_ t_ → rch ny_ f_ s_ t_
  | 0, s_, t_, _, h_ => h_
  | f_ + 1, s_, t_, hs_, h_ => by
    rcases h_ with h_ | ⟨h3_, h4_⟩
    · exact Or.inl h_
    · right
      refine ⟨h3_, ?_⟩
      rcases hs_ with z_ | ⟨z1_, z2_⟩
      · omega
      · have q_ := h1_ s_.toNat (by omega) (by omega)
        rw [h2_ s_.toNat (by omega)]
        refine rch_up h1_ h2_ f_ _ t_ ?_ h4_
        rcases q_ with q_ | q_
        · exact Or.inl q_
        · exact Or.inr (by omega)
theorem rch_0 {nx_ : Nat → Int} {f_ : Nat} {t_ : Int} (h_ : rch nx_ f_ 0 t_) : t_ = 0 := by
  cases f_ with
  | zero => exact h_.symm
  | succ f_ =>
    rcases h_ with h_ | h_
    · exact h_.symm
    · exact absurd h_.1 (by omega)
theorem rch_s {nx_ : Nat → Int} {f_ : Nat} {s_ t_ : Int} (h_ : rch nx_ f_ s_ t_) (hs_ : s_ ≠ t_) : 0 < s_ ∧ ∃ g_, rch nx_ g_ (nx_ s_.toNat) t_ := by
  cases f_ with
  | zero => exact absurd h_ hs_
  | succ f_ =>
    rcases h_ with h_ | h_
    · exact absurd h_ hs_
    · exact ⟨h_.1, f_, h_.2⟩
theorem hsr_lt {x_ y_ : Int} : hsr x_ y_ < 4096 := by
  unfold hsr
  omega
theorem rck_put {F_ : Nat} {G_ : pGr} {hd_ nx_ hd'_ nx'_ : Nat → Int} {a_ b_ : Int} (h_ : rck F_ G_ hd_ nx_) (hF_ : 1 ≤ F_) (e1_ : ∀ c_, hd'_ c_ = if c_ = hsr a_ b_ then ((F_ + G_.length : Nat) : Int) else hd_ c_) (e2_ : ∀ k_, nx'_ k_ = if k_ = F_ + G_.length then hd_ (hsr a_ b_) else nx_ k_) : rck F_ (G_ ++ [(a_, b_)]) hd'_ nx'_ := by
  have ln_ : (G_ ++ [(a_, b_)]).length = G_.length + 1 := by simp
  have up_ : ∀ (f_ : Nat) (s_ t_ : Int), rcb F_ (F_ + G_.length) s_ → rch nx_ f_ s_ t_ → rch nx'_ f_ s_ t_ := rch_up (fun k_ q1_ q2_ => by
    have q_ := h_.2.1 (k_ - F_) (by omega)
    rw [show F_ + (k_ - F_) = k_ by omega] at q_
    exact q_) (fun k_ hk_ => by rw [e2_, if_neg (by omega)])
  refine ⟨fun c_ hc_ => ?_, fun k_ hk_ => ?_, fun k_ x_ y_ e_ => ?_⟩
  · rw [e1_, ln_]
    by_cases z_ : c_ = hsr a_ b_
    · rw [if_pos z_]
      exact Or.inr (by omega)
    · rw [if_neg z_]
      rcases h_.1 c_ hc_ with q_ | q_
      · exact Or.inl q_
      · exact Or.inr (by omega)
  · rw [e2_]
    by_cases z_ : F_ + k_ = F_ + G_.length
    · rw [if_pos z_, z_]
      exact h_.1 _ hsr_lt
    · rw [if_neg z_]
      exact h_.2.1 k_ (by omega)
  · rcases ap_get e_ with ⟨z1_, z2_⟩ | ⟨z1_, z2_, z3_⟩
    · obtain ⟨f_, q_⟩ := h_.2.2 k_ x_ y_ z2_
      have q2_ := up_ f_ _ _ (h_.1 _ hsr_lt) q_
      rw [e1_]
      by_cases z_ : hsr x_ y_ = hsr a_ b_
      · rw [if_pos z_]
        refine ⟨f_ + 1, Or.inr ⟨by omega, ?_⟩⟩
        rw [Int.toNat_natCast, e2_, if_pos rfl, ← z_]
        exact q2_
      · rw [if_neg z_]
        exact ⟨f_, q2_⟩
    · rw [z1_, z2_, z3_, e1_, if_pos rfl]
      exact ⟨0, rfl⟩
/-- the_ reference's graph -/
def rgx (F_ : Nat) (G_ : pGr) (S_ : sm_S) : Prop := S_.1 13 0 38 = (F_ : Int) ∧ (1 ≤ F_ ∧ F_ ≤ 13) ∧ S_.1 13 0 37 = ((F_ + G_.length : Nat) : Int) ∧ G_.length ≤ 1001 ∧ (∀ (k_ : Nat) (x_ y_ : Int), G_[k_]? = some (x_, y_) → S_.2.2.1 140 0 (F_ + k_) = x_ ∧ S_.2.2.1 141 0 (F_ + k_) = y_) ∧ gnd G_ ∧ rck F_ G_ (S_.2.2.1 142 0) (S_.2.2.1 143 0)
def rgl (F_ : Nat) (G_ : pGr) (S_ : sm_S) : Prop := ∃ G1_, rgx F_ G1_ S_ ∧ ((G_.length ≤ 1001 ∧ G1_ = G_) ∨ (1001 < G_.length ∧ G1_.length = 1001))
theorem rgx_up {F_ : Nat} {G_ : pGr} {S_ S'_ : sm_S} {a_ b_ : Int} (h_ : rgx F_ G_ S_) (hl_ : G_.length < 1001) (hn_ : g_fd a_ b_ G_ 0 = none) (e0_ : S'_.1 13 0 38 = S_.1 13 0 38) (e4_ : S'_.1 13 0 37 = S_.1 13 0 37 + 1) (e42_ : ∀ k_, S'_.2.2.1 142 0 k_ = if k_ = hsr a_ b_ then ((F_ + G_.length : Nat) : Int) else S_.2.2.1 142 0 k_) (e43_ : ∀ k_, S'_.2.2.1 143 0 k_ = if k_ = F_ + G_.length then S_.2.2.1 142 0 (hsr a_ b_) else S_.2.2.1 143 0 k_) (e40_ : ∀ k_, S'_.2.2.1 140 0 k_ = if k_ = F_ + G_.length then a_ else S_.2.2.1 140 0 k_) (e41_ : ∀ k_, S'_.2.2.1 141 0 k_ = if k_ = F_ + G_.length then b_ else S_.2.2.1 141 0 k_) : rgx F_ (G_ ++ [(a_, b_)]) S'_ := by
  obtain ⟨x1_, x2_, x4_, x5_, x6_, x7_, x8_⟩ := h_
  refine ⟨e0_.trans x1_, x2_, ?_, ?_, fun k_ x_ y_ e_ => ?_, gnd_ap x7_ hn_, rck_put x8_ x2_.1 e42_ e43_⟩
  · rw [e4_, x4_]
    simp only [List.length_append, List.length_cons, List.length_nil]
    push_cast
    omega
  · simp only [List.length_append, List.length_cons, List.length_nil]
    omega
  · rw [e40_, e41_]
    rcases ap_get e_ with ⟨z1_, z2_⟩ | ⟨z1_, z2_, z3_⟩
    · rw [if_neg (by omega), if_neg (by omega)]
      exact x6_ k_ x_ y_ z2_
    · rw [if_pos (by omega), if_pos (by omega)]
      exact ⟨z2_.symm, z3_.symm⟩
theorem rgl_fr {w_ : sx_Wl} {F_ : Nat} {G_ : pGr} {S_ S'_ : sm_S} (h_ : rgl F_ G_ S_) (g_ : ai_fr (sx_W w_) S_ S'_) (h0_ : (sx_W w_).1 13 38 = false) (h1_ : (sx_W w_).1 13 37 = false) (h2_ : (sx_W w_).2.1 140 = false) (h3_ : (sx_W w_).2.1 141 = false) (h4_ : (sx_W w_).2.1 142 = false) (h5_ : (sx_W w_).2.1 143 = false) : rgl F_ G_ S'_ := by
  obtain ⟨G1_, x1_, x2_⟩ := h_
  refine ⟨G1_, ?_, x2_⟩
  unfold rgx at x1_ ⊢
  rw [g_.1 13 0 38 h0_, g_.1 13 0 37 h1_, fr_arr g_ h2_, fr_arr g_ h3_, fr_arr g_ h4_, fr_arr g_ h5_]
  exact x1_
/-- what an_ AND_ gives: out_ of_ the_ exact graph -/
theorem ar_go {F_ : Nat} {G_ G1_ : pGr} {S_ S1_ : sm_S} {A_ B_ x_ y_ v_ : Int} (hx_ : rgx F_ G1_ S_) (h0_ : (G_.length ≤ 1001 ∧ G1_ = G_) ∨ (1001 < G_.length ∧ G1_.length = 1001)) (hab_ : G_.length ≤ 1001 → x_ = A_ ∧ y_ = B_) (hr_ : (rgx F_ (g_an F_ G1_ x_ y_).2 S1_ ∧ v_ = (g_an F_ G1_ x_ y_).1) ∨ (G1_.length = 1001 ∧ (g_an F_ G1_ x_ y_).2.length = 1002 ∧ rgx F_ G1_ S1_)) : rgl F_ (g_an F_ G_ A_ B_).2 S1_ ∧ ((g_an F_ G_ A_ B_).2.length ≤ 1001 → v_ = (g_an F_ G_ A_ B_).1) := by
  have hm_ := g_an_le (F_ := F_) (G_ := G_) (a_ := A_) (b_ := B_)
  have hm1_ := g_an_le (F_ := F_) (G_ := G1_) (a_ := x_) (b_ := y_)
  rcases h0_ with ⟨z1_, z2_⟩ | ⟨z1_, z2_⟩
  · obtain ⟨e1_, e2_⟩ := hab_ z1_
    subst z2_
    subst e1_
    subst e2_
    rcases hr_ with ⟨r1_, r2_⟩ | ⟨r1_, r2_, r3_⟩
    · exact ⟨⟨_, r1_, Or.inl ⟨r1_.2.2.2.1, rfl⟩⟩, fun _ => r2_⟩
    · exact ⟨⟨_, r3_, Or.inr ⟨by omega, r1_⟩⟩, fun z_ => by omega⟩
  · refine ⟨?_, fun z_ => by omega⟩
    rcases hr_ with ⟨r1_, r2_⟩ | ⟨r1_, r2_, r3_⟩
    · have := r1_.2.2.2.1
      exact ⟨_, r1_, Or.inr ⟨by omega, by omega⟩⟩
    · exact ⟨_, r3_, Or.inr ⟨by omega, r1_⟩⟩
theorem rgl_b {F_ : Nat} {G_ : pGr} {S_ : sm_S} (h_ : rgl F_ G_ S_) : S_.1 13 0 38 = (F_ : Int) ∧ (1 ≤ F_ ∧ F_ ≤ 13) ∧ (F_ : Int) ≤ S_.1 13 0 37 ∧ S_.1 13 0 37 ≤ F_ + 1001 ∧ (S_.1 13 0 37 - S_.1 13 0 38 ≤ 1000 ↔ G_.length ≤ 1000) := by
  obtain ⟨G1_, x_, y_⟩ := h_
  have x3_ := x_.2.2.1
  have x1_ := x_.1
  have x4_ := x_.2.2.2.1
  refine ⟨x1_, x_.2.1, by omega, by omega, ?_⟩
  rcases y_ with ⟨y1_, y2_⟩ | ⟨y1_, y2_⟩
  · subst y2_
    omega
  · omega
end
/-! 99.za5 -/
section
/-! evaluation word by word; written by wip/p55/gen/vg -/

/-! evaluation word by word: the_ code is_ held with its_ last word first -/
section EV_
variable {F_ I_ m_ : Nat} {A_ : pA} {X_ : Nat → gQ → gE → Option (gQ × gE)} {s0_ : gS}
def ev (F_ I_ : Nat) (A_ : pA) (X_ : Nat → gQ → gE → Option (gQ × gE)) (m_ : Nat) (s0_ : gS) (c_ : List Int) : Option gS := ec F_ I_ A_ X_ m_ c_.reverse s0_
theorem ev_n : ev F_ I_ A_ X_ m_ s0_ [] = some s0_ := rfl
theorem ev_c {w_ : Int} {c_ : List Int} {s_ : gS} (h_ : ev F_ I_ A_ X_ m_ s0_ c_ = some s_) : ev F_ I_ A_ X_ m_ s0_ (w_ :: c_) = ew F_ I_ A_ X_ m_ w_ s_ := by
  unfold ev at h_ ⊢
  rw [List.reverse_cons, ec_ap, h_]
  show ec F_ I_ A_ X_ m_ [w_] s_ = _
  rw [ec]
  cases ew F_ I_ A_ X_ m_ w_ s_ with
  | none => rfl
  | some s1_ => rfl
theorem ev_a {c_ d_ : List Int} {s_ : gS} (h_ : ev F_ I_ A_ X_ m_ s0_ c_ = some s_) : ev F_ I_ A_ X_ m_ s0_ (d_ ++ c_) = ev F_ I_ A_ X_ m_ s_ d_ := by
  unfold ev at h_ ⊢
  rw [List.reverse_append, ec_ap, h_]
theorem ev_op {k_ : Int} {c_ : List Int} {q_ : gQ} {E_ : gE} {O_ : gO} {V_ : gV} {x_ y_ : List Int} (h_ : ev F_ I_ A_ X_ m_ s0_ c_ = some (q_, E_, O_, y_ :: x_ :: V_)) (hk_ : 1 ≤ k_ ∧ k_ ≤ 5) (hl_ : x_.length = y_.length) (h1_ : 1 ≤ x_.length) : ev F_ I_ A_ X_ m_ s0_ (k_ :: c_) = some (((g_op F_ k_ q_.1 x_ y_).2, q_.2), E_, O_, (g_op F_ k_ q_.1 x_ y_).1 :: V_) := by
  rw [ev_c h_]
  have e_ : k_ % 32 = k_ := by omega
  have q1_ : e_op F_ k_ q_.1 (y_ :: x_ :: V_) = some ((g_op F_ k_ q_.1 x_ y_).2, (g_op F_ k_ q_.1 x_ y_).1 :: V_) := by
    unfold e_op
    rw [if_neg (by omega), if_neg (by omega), if_pos hk_]
    show (if x_.length = y_.length ∧ 1 ≤ x_.length then _ else none) = _
    rw [if_pos ⟨hl_, h1_⟩]
  unfold ew
  rw [e_, if_neg (by omega), if_pos (by omega)]
  show (match e_op F_ k_ q_.1 (y_ :: x_ :: V_) with
    | some r_ => some ((r_.1, q_.2), E_, O_, r_.2)
    | none => none) = _
  rw [q1_]
theorem ev_no {c_ : List Int} {q_ : gQ} {E_ : gE} {O_ : gO} {V_ : gV} {x_ : List Int} (h_ : ev F_ I_ A_ X_ m_ s0_ c_ = some (q_, E_, O_, x_ :: V_)) : ev F_ I_ A_ X_ m_ s0_ (6 :: c_) = some (q_, E_, O_, x_.map (fun z_ => i_xor z_ 1) :: V_) := by
  rw [ev_c h_]
  rfl
theorem ev_ch {c_ : List Int} {q_ : gQ} {E_ : gE} {O_ : gO} {V_ : gV} {a_ e_ : List Int} {b_ : Int} (h_ : ev F_ I_ A_ X_ m_ s0_ c_ = some (q_, E_, O_, e_ :: a_ :: [b_] :: V_)) (hl_ : a_.length = e_.length) (h1_ : 1 ≤ a_.length) : ev F_ I_ A_ X_ m_ s0_ (7 :: c_) = some (((g_ch F_ b_ q_.1 a_ e_).2, q_.2), E_, O_, (g_ch F_ b_ q_.1 a_ e_).1 :: V_) := by
  rw [ev_c h_]
  have q1_ : e_op F_ 7 q_.1 (e_ :: a_ :: [b_] :: V_) = some ((g_ch F_ b_ q_.1 a_ e_).2, (g_ch F_ b_ q_.1 a_ e_).1 :: V_) := by
    unfold e_op
    rw [if_neg (by decide), if_pos rfl]
    show (if a_.length = e_.length ∧ 1 ≤ a_.length then _ else none) = _
    rw [if_pos ⟨hl_, h1_⟩]
  unfold ew
  rw [if_neg (by decide), if_pos (by decide)]
  show (match e_op F_ 7 q_.1 (e_ :: a_ :: [b_] :: V_) with
    | some r_ => some ((r_.1, q_.2), E_, O_, r_.2)
    | none => none) = _
  rw [q1_]
theorem cw_d {k_ a_ d_ : Int} (hk_ : 0 ≤ k_ ∧ k_ < 32) (ha_ : 0 ≤ a_ ∧ a_ < 64) : cw k_ a_ d_ % 32 = k_ ∧ cw k_ a_ d_ / 32 % 64 = a_ ∧ cw k_ a_ d_ / 2048 = d_ := by
  unfold cw
  omega
theorem ew_ld {k_ a_ d_ : Int} {q_ : gQ} {E_ : gE} {O_ : gO} {V_ W_ : gV} (hk_ : 8 ≤ k_ ∧ k_ ≤ 11) (ha_ : 0 ≤ a_ ∧ a_ < 64) (h_ : e_ld A_ m_ k_ a_.toNat d_ E_ O_ V_ = some W_) : ew F_ I_ A_ X_ m_ (cw k_ a_ d_) (q_, E_, O_, V_) = some (q_, E_, O_, W_) := by
  obtain ⟨e1_, e2_, e3_⟩ := cw_d (k_ := k_) (a_ := a_) (d_ := d_) (by omega) ha_
  unfold ew
  rw [e1_, e2_, e3_, if_neg (by omega), if_neg (by omega), if_pos (by omega)]
  show (match e_ld A_ m_ k_ a_.toNat d_ E_ O_ V_ with
    | some V_ => some (q_, E_, O_, V_)
    | none => none) = _
  rw [h_]
theorem ev_cn {c_ : List Int} {q_ : gQ} {E_ : gE} {O_ : gO} {V_ : gV} {a_ d_ : Int} (h_ : ev F_ I_ A_ X_ m_ s0_ c_ = some (q_, E_, O_, V_)) (hV_ : V_.length < 512) (ha_ : 1 ≤ a_ ∧ a_ ≤ 8) (hd_ : 0 ≤ d_) : ev F_ I_ A_ X_ m_ s0_ (cw 8 a_ d_ :: c_) = some (q_, E_, O_, c_bt a_.toNat d_ :: V_) := by
  rw [ev_c h_]
  refine ew_ld (by decide) (by omega) ?_
  unfold e_ld
  rw [if_neg (by decide), if_neg (by omega), if_pos rfl, if_pos (by omega)]
theorem ev_ld {c_ : List Int} {q_ : gQ} {E_ : gE} {O_ : gO} {V_ : gV} {a_ d_ : Int} (h_ : ev F_ I_ A_ X_ m_ s0_ c_ = some (q_, E_, O_, V_)) (hV_ : V_.length < 512) (ha_ : 0 ≤ a_ ∧ a_ < A_.1 m_) (hm_ : A_.1 m_ ≤ 40) (hl_ : 1 ≤ (E_ a_.toNat).length ∧ (E_ a_.toNat).length ≤ 8) (hw_ : ((E_ a_.toNat).length : Int) = A_.2.2.2.1 (40 * m_ + a_.toNat)) : ev F_ I_ A_ X_ m_ s0_ (cw 9 a_ d_ :: c_) = some (q_, E_, O_, E_ a_.toNat :: V_) := by
  rw [ev_c h_]
  refine ew_ld (by decide) (by omega) ?_
  unfold e_ld
  rw [if_neg (by decide), if_neg (by omega), if_neg (by decide), if_pos rfl, if_pos ⟨by omega, hl_.1, hl_.2, hw_⟩]
theorem ev_pt {c_ : List Int} {q_ : gQ} {E_ : gE} {O_ : gO} {V_ : gV} {a_ d_ : Int} {o_ : Nat → List Int} (h_ : ev F_ I_ A_ X_ m_ s0_ c_ = some (q_, E_, O_, V_)) (hV_ : V_.length < 512) (ha_ : 0 ≤ a_ ∧ a_ < A_.1 m_) (hm_ : A_.1 m_ ≤ 40) (hO_ : O_ a_.toNat = some o_) (hd_ : 0 ≤ d_ ∧ d_ < A_.1 (A_.2.2.2.2 (40 * m_ + a_.toNat)).toNat) (h5_ : 0 ≤ A_.2.2.2.2 (40 * m_ + a_.toNat) ∧ A_.2.2.2.2 (40 * m_ + a_.toNat) < m_) (hl_ : 1 ≤ (o_ d_.toNat).length ∧ (o_ d_.toNat).length ≤ 8) (hw_ : ((o_ d_.toNat).length : Int) = A_.2.2.2.1 (40 * (A_.2.2.2.2 (40 * m_ + a_.toNat)).toNat + d_.toNat)) : ev F_ I_ A_ X_ m_ s0_ (cw 10 a_ d_ :: c_) = some (q_, E_, O_, o_ d_.toNat :: V_) := by
  rw [ev_c h_]
  refine ew_ld (by decide) (by omega) ?_
  unfold e_ld
  rw [if_neg (by decide), if_neg (by omega), if_neg (by decide), if_neg (by decide), if_pos rfl, hO_]
  show (if _ then _ else none) = _
  rw [if_pos ⟨by omega, hd_.1, hd_.2, h5_.1, h5_.2, hl_.1, hl_.2, hw_⟩]
theorem ev_bi {c_ : List Int} {q_ : gQ} {E_ : gE} {O_ : gO} {V_ : gV} {a_ : Int} {x_ : List Int} (h_ : ev F_ I_ A_ X_ m_ s0_ c_ = some (q_, E_, O_, x_ :: V_)) (ha_ : 0 ≤ a_ ∧ a_ < x_.length) (h8_ : x_.length ≤ 8) : ev F_ I_ A_ X_ m_ s0_ (cw 11 a_ 0 :: c_) = some (q_, E_, O_, [x_.getD a_.toNat 0] :: V_) := by
  rw [ev_c h_]
  refine ew_ld (by decide) (by omega) ?_
  unfold e_ld
  rw [if_pos rfl]
  show (if a_.toNat < x_.length then _ else none) = _
  rw [if_pos (by omega)]
end EV_
end
/-! 99.za6 -/
section
/-! literals are below the size of the graph; written by wip/p55/gen/vg -/

/-! literals are_ below the_ size of_ the_ graph -/
def lz (N_ : Nat) (z_ : Int) : Prop := 0 ≤ z_ ∧ z_ < 2 * (N_ : Int)
def lwl (N_ : Nat) (l_ : List Int) : Prop := ∀ z_, z_ ∈ l_ → lz N_ z_
def gwf (F_ : Nat) (G_ : pGr) : Prop := 1 ≤ F_ ∧ ∀ (k_ : Nat) (x_ y_ : Int), G_[k_]? = some (x_, y_) → 2 ≤ x_ ∧ x_ < y_ ∧ y_ < 2 * ((F_ + k_ : Nat) : Int)
theorem lz_up {N_ M_ : Nat} {z_ : Int} (h_ : N_ ≤ M_) (hz_ : lz N_ z_) : lz M_ z_ := by
  unfold lz at *
  omega
theorem lwl_up {N_ M_ : Nat} {l_ : List Int} (h_ : N_ ≤ M_) (hz_ : lwl N_ l_) : lwl M_ l_ := fun z_ q_ => lz_up h_ (hz_ z_ q_)
theorem lz_x {N_ : Nat} {z_ : Int} (h_ : N_ ≤ 1023) (hz_ : lz N_ z_) : lz N_ (i_xor z_ 1) := by
  unfold lz at *
  rw [i_x1 (by omega)]
  omega
def opw (F_ : Nat) (op_ : pGr → Int → Int → Int × pGr) : Prop := ∀ G_ a_ b_, gwf F_ G_ → lz (F_ + G_.length) a_ → lz (F_ + G_.length) b_ → F_ + (op_ G_ a_ b_).2.length ≤ 1023 → gwf F_ (op_ G_ a_ b_).2 ∧ lz (F_ + (op_ G_ a_ b_).2.length) (op_ G_ a_ b_).1
theorem a2_w {F_ : Nat} {G_ : pGr} {x_ y_ : Int} (hG_ : gwf F_ G_) (hx_ : lz (F_ + G_.length) x_) (hy_ : lz (F_ + G_.length) y_) (hxy_ : x_ ≤ y_) : gwf F_ (g_a2 F_ G_ x_ y_).2 ∧ lz (F_ + (g_a2 F_ G_ x_ y_).2.length) (g_a2 F_ G_ x_ y_).1 := by
  unfold g_a2
  split
  · exact ⟨hG_, Int.le_refl _, by have := hG_.1; push_cast; omega⟩
  · rename_i n0_
    split
    · exact ⟨hG_, hy_⟩
    · rename_i n1_
      split
      · rename_i k_ hk_
        have q_ := g_fd_b hk_
        exact ⟨hG_, by unfold lz; push_cast; omega⟩
      · refine ⟨⟨hG_.1, fun k_ u_ v_ e_ => ?_⟩, by unfold lz; simp only [List.length_append, List.length_cons, List.length_nil]; push_cast; omega⟩
        by_cases z_ : k_ < G_.length
        · rw [List.getElem?_append_left z_] at e_
          exact hG_.2 k_ u_ v_ e_
        · rw [List.getElem?_append_right (by omega)] at e_
          by_cases z2_ : k_ = G_.length
          · rw [z2_, Nat.sub_self, List.getElem?_cons_zero] at e_
            cases e_
            unfold lz at hx_ hy_
            have a1_ : x_ ≠ 0 := fun q_ => n0_ (Or.inl q_)
            have a2_ : x_ ≠ 1 := fun q_ => n1_ (Or.inl q_)
            have a3_ : x_ ≠ y_ := fun q_ => n1_ (Or.inr q_)
            rw [z2_]
            omega
          · rw [show k_ - G_.length = (k_ - G_.length - 1) + 1 by omega, List.getElem?_cons_succ] at e_
            simp at e_
theorem an_w {F_ : Nat} : opw F_ (g_an F_) := by
  intro G_ a_ b_ hG_ ha_ hb_ _
  unfold g_an
  split
  · exact a2_w hG_ ha_ hb_ (by omega)
  · exact a2_w hG_ hb_ ha_ (by omega)
theorem or_w {F_ : Nat} : opw F_ (g_or F_) := by
  intro G_ a_ b_ hG_ ha_ hb_ hl_
  have l1_ := (g_an_le (F_ := F_) (G_ := G_) (a_ := i_xor a_ 1) (b_ := i_xor b_ 1)).1
  have hl2_ : F_ + (g_an F_ G_ (i_xor a_ 1) (i_xor b_ 1)).2.length ≤ 1023 := hl_
  have e_ := an_w (F_ := F_) G_ (i_xor a_ 1) (i_xor b_ 1) hG_ (lz_x (by omega) ha_) (lz_x (by omega) hb_) hl2_
  exact ⟨e_.1, lz_x hl2_ e_.2⟩
theorem xo_w {F_ : Nat} : opw F_ (g_xo F_) := by
  intro G_ a_ b_ hG_ ha_ hb_ hl_
  have l1_ := (g_an_le (F_ := F_) (G_ := G_) (a_ := a_) (b_ := i_xor b_ 1)).1
  have l2_ := (g_an_le (F_ := F_) (G_ := (g_an F_ G_ a_ (i_xor b_ 1)).2) (a_ := i_xor a_ 1) (b_ := b_)).1
  have l3_ := g_or_le (F_ := F_) (G_ := (g_an F_ (g_an F_ G_ a_ (i_xor b_ 1)).2 (i_xor a_ 1) b_).2) (a_ := (g_an F_ G_ a_ (i_xor b_ 1)).1) (b_ := (g_an F_ (g_an F_ G_ a_ (i_xor b_ 1)).2 (i_xor a_ 1) b_).1)
  have hl2_ : F_ + (g_or F_ (g_an F_ (g_an F_ G_ a_ (i_xor b_ 1)).2 (i_xor a_ 1) b_).2 (g_an F_ G_ a_ (i_xor b_ 1)).1 (g_an F_ (g_an F_ G_ a_ (i_xor b_ 1)).2 (i_xor a_ 1) b_).1).2.length ≤ 1023 := hl_
  have e1_ := an_w (F_ := F_) G_ a_ (i_xor b_ 1) hG_ ha_ (lz_x (by omega) hb_) (by omega)
  have e2_ := an_w (F_ := F_) (g_an F_ G_ a_ (i_xor b_ 1)).2 (i_xor a_ 1) b_ e1_.1 (lz_up (by omega) (lz_x (by omega) ha_)) (lz_up (by omega) hb_) (by omega)
  exact or_w (F_ := F_) _ _ _ e2_.1 (lz_up (by omega) e1_.2) e2_.2 hl2_
theorem lwl_c {N_ : Nat} {a_ : Int} {l_ : List Int} : lwl N_ (a_ :: l_) ↔ lz N_ a_ ∧ lwl N_ l_ := by
  constructor
  · intro h_
    exact ⟨h_ a_ List.mem_cons_self, fun z_ hz_ => h_ z_ (List.mem_cons_of_mem _ hz_)⟩
  · rintro ⟨h1_, h2_⟩ z_ hz_
    rcases List.mem_cons.mp hz_ with q_ | q_
    · rw [q_]; exact h1_
    · exact h2_ z_ q_
theorem lwl_n {N_ : Nat} : lwl N_ [] := fun z_ hz_ => by simp at hz_
theorem z2_w {F_ : Nat} {op_ : pGr → Int → Int → Int × pGr} (h_ : opw F_ op_) (hle_ : ∀ G_ a_ b_, G_.length ≤ (op_ G_ a_ b_).2.length) : ∀ (x_ y_ : List Int) (G_ : pGr), gwf F_ G_ → lwl (F_ + G_.length) x_ → lwl (F_ + G_.length) y_ → F_ + (g_z2 op_ G_ x_ y_).2.length ≤ 1023 → gwf F_ (g_z2 op_ G_ x_ y_).2 ∧ lwl (F_ + (g_z2 op_ G_ x_ y_).2.length) (g_z2 op_ G_ x_ y_).1
  | a_ :: x_, b_ :: y_, G_, hG_, hx_, hy_, hl_ => by
    have l1_ := hle_ G_ a_ b_
    have l2_ := g_z2_le hle_ x_ y_ (op_ G_ a_ b_).2
    have hl2_ : F_ + (g_z2 op_ (op_ G_ a_ b_).2 x_ y_).2.length ≤ 1023 := hl_
    have e1_ := h_ G_ a_ b_ hG_ (lwl_c.mp hx_).1 (lwl_c.mp hy_).1 (by omega)
    have e2_ := z2_w h_ hle_ x_ y_ (op_ G_ a_ b_).2 e1_.1 (lwl_up (by omega) (lwl_c.mp hx_).2) (lwl_up (by omega) (lwl_c.mp hy_).2) hl2_
    exact ⟨e2_.1, lwl_c.mpr ⟨lz_up (Nat.add_le_add_left l2_ F_) e1_.2, e2_.2⟩⟩
  | [], y_, G_, hG_, _, _, _ => ⟨hG_, lwl_n⟩
  | a_ :: x_, [], G_, hG_, _, _, _ => ⟨hG_, lwl_n⟩
theorem s3_w {F_ : Nat} {G_ : pGr} {c_ a_ b_ : Int} (hG_ : gwf F_ G_) (hc_ : lz (F_ + G_.length) c_) (ha_ : lz (F_ + G_.length) a_) (hb_ : lz (F_ + G_.length) b_) (hl_ : F_ + (g_s3 F_ G_ c_ a_ b_).2.2.length ≤ 1023) : gwf F_ (g_s3 F_ G_ c_ a_ b_).2.2 ∧ lz (F_ + (g_s3 F_ G_ c_ a_ b_).2.2.length) (g_s3 F_ G_ c_ a_ b_).1 ∧ lz (F_ + (g_s3 F_ G_ c_ a_ b_).2.2.length) (g_s3 F_ G_ c_ a_ b_).2.1 := by
  obtain ⟨h_, hh_⟩ : ∃ h_, h_ = g_xo F_ G_ a_ b_ := ⟨_, rfl⟩
  obtain ⟨s_, hs_⟩ : ∃ s_, s_ = g_xo F_ h_.2 h_.1 c_ := ⟨_, rfl⟩
  obtain ⟨m_, hm_⟩ : ∃ m_, m_ = g_an F_ s_.2 a_ b_ := ⟨_, rfl⟩
  obtain ⟨t_, ht_⟩ : ∃ t_, t_ = g_an F_ m_.2 h_.1 c_ := ⟨_, rfl⟩
  obtain ⟨o_, ho_⟩ : ∃ o_, o_ = g_or F_ t_.2 m_.1 t_.1 := ⟨_, rfl⟩
  have e_ : g_s3 F_ G_ c_ a_ b_ = (s_.1, o_.1, o_.2) := by subst ho_ ht_ hm_ hs_ hh_; rfl
  rw [e_] at hl_ ⊢
  have hl_ : F_ + o_.2.length ≤ 1023 := hl_
  have l1_ : G_.length ≤ h_.2.length := by rw [hh_]; exact g_xo_le
  have l2_ : h_.2.length ≤ s_.2.length := by rw [hs_]; exact g_xo_le
  have l3_ : s_.2.length ≤ m_.2.length := by rw [hm_]; exact g_an_le.1
  have l4_ : m_.2.length ≤ t_.2.length := by rw [ht_]; exact g_an_le.1
  have l5_ : t_.2.length ≤ o_.2.length := by rw [ho_]; exact g_or_le
  have e1_ := xo_w (F_ := F_) G_ a_ b_ hG_ ha_ hb_ (by rw [← hh_]; omega)
  rw [← hh_] at e1_
  have e2_ := xo_w (F_ := F_) h_.2 h_.1 c_ e1_.1 e1_.2 (lz_up (by omega) hc_) (by rw [← hs_]; omega)
  rw [← hs_] at e2_
  have e3_ := an_w (F_ := F_) s_.2 a_ b_ e2_.1 (lz_up (by omega) ha_) (lz_up (by omega) hb_) (by rw [← hm_]; omega)
  rw [← hm_] at e3_
  have e4_ := an_w (F_ := F_) m_.2 h_.1 c_ e3_.1 (lz_up (by omega) e1_.2) (lz_up (by omega) hc_) (by rw [← ht_]; omega)
  rw [← ht_] at e4_
  have e5_ := or_w (F_ := F_) t_.2 m_.1 t_.1 e4_.1 (lz_up (by omega) e3_.2) e4_.2 (by rw [← ho_]; omega)
  rw [← ho_] at e5_
  exact ⟨e5_.1, lz_up (by show F_ + s_.2.length ≤ F_ + o_.2.length; omega) e2_.2, e5_.2⟩
theorem su_w {F_ : Nat} : ∀ (x_ y_ : List Int) (G_ : pGr) (c_ : Int), gwf F_ G_ → lz (F_ + G_.length) c_ → lwl (F_ + G_.length) x_ → lwl (F_ + G_.length) y_ → F_ + (g_su F_ G_ c_ x_ y_).2.length ≤ 1023 → gwf F_ (g_su F_ G_ c_ x_ y_).2 ∧ lwl (F_ + (g_su F_ G_ c_ x_ y_).2.length) (g_su F_ G_ c_ x_ y_).1
  | a_ :: x_, b_ :: y_, G_, c_, hG_, hc_, hx_, hy_, hl_ => by
    have l1_ := g_s3_le (F_ := F_) (G_ := G_) (c_ := c_) (a_ := a_) (b_ := b_)
    have l2_ := g_su_le (F_ := F_) x_ y_ (g_s3 F_ G_ c_ a_ b_).2.2 (g_s3 F_ G_ c_ a_ b_).2.1
    have hl2_ : F_ + (g_su F_ (g_s3 F_ G_ c_ a_ b_).2.2 (g_s3 F_ G_ c_ a_ b_).2.1 x_ y_).2.length ≤ 1023 := hl_
    have e1_ := s3_w hG_ hc_ (lwl_c.mp hx_).1 (lwl_c.mp hy_).1 (by omega)
    have e2_ := su_w x_ y_ (g_s3 F_ G_ c_ a_ b_).2.2 (g_s3 F_ G_ c_ a_ b_).2.1 e1_.1 e1_.2.2 (lwl_up (by omega) (lwl_c.mp hx_).2) (lwl_up (by omega) (lwl_c.mp hy_).2) hl2_
    exact ⟨e2_.1, lwl_c.mpr ⟨lz_up (Nat.add_le_add_left l2_ F_) e1_.2.1, e2_.2⟩⟩
  | [], y_, G_, c_, hG_, _, _, _, _ => ⟨hG_, lwl_n⟩
  | a_ :: x_, [], G_, c_, hG_, _, _, _, _ => ⟨hG_, lwl_n⟩
theorem e3_w {F_ : Nat} {G_ : pGr} {s_ a_ b_ : Int} (hG_ : gwf F_ G_) (hs_ : lz (F_ + G_.length) s_) (ha_ : lz (F_ + G_.length) a_) (hb_ : lz (F_ + G_.length) b_) (hl_ : F_ + (g_e3 F_ G_ s_ a_ b_).2.length ≤ 1023) : gwf F_ (g_e3 F_ G_ s_ a_ b_).2 ∧ lz (F_ + (g_e3 F_ G_ s_ a_ b_).2.length) (g_e3 F_ G_ s_ a_ b_).1 := by
  have l1_ := g_xo_le (F_ := F_) (G_ := G_) (a_ := a_) (b_ := b_)
  have l2_ := (g_an_le (F_ := F_) (G_ := (g_xo F_ G_ a_ b_).2) (a_ := s_) (b_ := i_xor (g_xo F_ G_ a_ b_).1 1)).1
  have hl2_ : F_ + (g_an F_ (g_xo F_ G_ a_ b_).2 s_ (i_xor (g_xo F_ G_ a_ b_).1 1)).2.length ≤ 1023 := hl_
  have e1_ := xo_w (F_ := F_) G_ a_ b_ hG_ ha_ hb_ (by omega)
  exact an_w (F_ := F_) _ _ _ e1_.1 (lz_up (by omega) hs_) (lz_x (by omega) e1_.2) hl2_
theorem s1_w {F_ : Nat} : ∀ (x_ y_ : List Int) (G_ : pGr) (s_ : Int), gwf F_ G_ → lz (F_ + G_.length) s_ → lwl (F_ + G_.length) x_ → lwl (F_ + G_.length) y_ → F_ + (g_s1 F_ G_ s_ x_ y_).2.length ≤ 1023 → gwf F_ (g_s1 F_ G_ s_ x_ y_).2 ∧ lz (F_ + (g_s1 F_ G_ s_ x_ y_).2.length) (g_s1 F_ G_ s_ x_ y_).1
  | a_ :: x_, b_ :: y_, G_, s_, hG_, hc_, hx_, hy_, hl_ => by
    have l1_ := g_e3_le (F_ := F_) (G_ := G_) (s_ := s_) (a_ := a_) (b_ := b_)
    have l2_ := g_s1_le (F_ := F_) x_ y_ (g_e3 F_ G_ s_ a_ b_).2 (g_e3 F_ G_ s_ a_ b_).1
    have hl2_ : F_ + (g_s1 F_ (g_e3 F_ G_ s_ a_ b_).2 (g_e3 F_ G_ s_ a_ b_).1 x_ y_).2.length ≤ 1023 := hl_
    have e1_ := e3_w hG_ hc_ (lwl_c.mp hx_).1 (lwl_c.mp hy_).1 (by omega)
    exact s1_w x_ y_ (g_e3 F_ G_ s_ a_ b_).2 (g_e3 F_ G_ s_ a_ b_).1 e1_.1 e1_.2 (lwl_up (by omega) (lwl_c.mp hx_).2) (lwl_up (by omega) (lwl_c.mp hy_).2) hl2_
  | [], y_, G_, s_, hG_, hs_, _, _, _ => ⟨hG_, hs_⟩
  | a_ :: x_, [], G_, s_, hG_, hs_, _, _, _ => ⟨hG_, hs_⟩
theorem sa_w {F_ : Nat} : ∀ (x_ y_ : List Int) (G_ : pGr), gwf F_ G_ → lwl (F_ + G_.length) x_ → lwl (F_ + G_.length) y_ → F_ + (g_sa F_ G_ x_ y_).2.length ≤ 1023 → gwf F_ (g_sa F_ G_ x_ y_).2 ∧ lwl (F_ + (g_sa F_ G_ x_ y_).2.length) (g_sa F_ G_ x_ y_).1
  | a_ :: x_, b_ :: y_, G_, hG_, hx_, hy_, hl_ => by
    have l1_ := g_xo_le (F_ := F_) (G_ := G_) (a_ := a_) (b_ := b_)
    have l2_ := g_s1_le (F_ := F_) x_ y_ (g_xo F_ G_ a_ b_).2 (i_xor (g_xo F_ G_ a_ b_).1 1)
    have hl2_ : F_ + (g_s1 F_ (g_xo F_ G_ a_ b_).2 (i_xor (g_xo F_ G_ a_ b_).1 1) x_ y_).2.length ≤ 1023 := hl_
    have e1_ := xo_w (F_ := F_) G_ a_ b_ hG_ (lwl_c.mp hx_).1 (lwl_c.mp hy_).1 (by omega)
    have e2_ := s1_w x_ y_ (g_xo F_ G_ a_ b_).2 (i_xor (g_xo F_ G_ a_ b_).1 1) e1_.1 (lz_x (by omega) e1_.2) (lwl_up (by omega) (lwl_c.mp hx_).2) (lwl_up (by omega) (lwl_c.mp hy_).2) hl2_
    exact ⟨e2_.1, lwl_c.mpr ⟨e2_.2, lwl_n⟩⟩
  | [], y_, G_, hG_, _, _, _ => ⟨hG_, lwl_n⟩
  | a_ :: x_, [], G_, hG_, _, _, _ => ⟨hG_, lwl_n⟩
theorem gc3_w {F_ : Nat} {G_ : pGr} {c_ a_ b_ : Int} (hG_ : gwf F_ G_) (hc_ : lz (F_ + G_.length) c_) (ha_ : lz (F_ + G_.length) a_) (hb_ : lz (F_ + G_.length) b_) (hl_ : F_ + (g_c3 F_ G_ c_ a_ b_).2.length ≤ 1023) : gwf F_ (g_c3 F_ G_ c_ a_ b_).2 ∧ lz (F_ + (g_c3 F_ G_ c_ a_ b_).2.length) (g_c3 F_ G_ c_ a_ b_).1 := by
  have l1_ := (g_an_le (F_ := F_) (G_ := G_) (a_ := c_) (b_ := a_)).1
  have l2_ := (g_an_le (F_ := F_) (G_ := (g_an F_ G_ c_ a_).2) (a_ := i_xor c_ 1) (b_ := b_)).1
  have l3_ := g_or_le (F_ := F_) (G_ := (g_an F_ (g_an F_ G_ c_ a_).2 (i_xor c_ 1) b_).2) (a_ := (g_an F_ G_ c_ a_).1) (b_ := (g_an F_ (g_an F_ G_ c_ a_).2 (i_xor c_ 1) b_).1)
  have hl2_ : F_ + (g_or F_ (g_an F_ (g_an F_ G_ c_ a_).2 (i_xor c_ 1) b_).2 (g_an F_ G_ c_ a_).1 (g_an F_ (g_an F_ G_ c_ a_).2 (i_xor c_ 1) b_).1).2.length ≤ 1023 := hl_
  have e1_ := an_w (F_ := F_) G_ c_ a_ hG_ hc_ ha_ (by omega)
  have e2_ := an_w (F_ := F_) (g_an F_ G_ c_ a_).2 (i_xor c_ 1) b_ e1_.1 (lz_up (by omega) (lz_x (by omega) hc_)) (lz_up (by omega) hb_) (by omega)
  exact or_w (F_ := F_) _ _ _ e2_.1 (lz_up (by omega) e1_.2) e2_.2 hl2_
theorem ch_w {F_ : Nat} {c_ : Int} : ∀ (x_ y_ : List Int) (G_ : pGr), gwf F_ G_ → lz (F_ + G_.length) c_ → lwl (F_ + G_.length) x_ → lwl (F_ + G_.length) y_ → F_ + (g_ch F_ c_ G_ x_ y_).2.length ≤ 1023 → gwf F_ (g_ch F_ c_ G_ x_ y_).2 ∧ lwl (F_ + (g_ch F_ c_ G_ x_ y_).2.length) (g_ch F_ c_ G_ x_ y_).1
  | a_ :: x_, b_ :: y_, G_, hG_, hc_, hx_, hy_, hl_ => by
    have l1_ := g_c3_le (F_ := F_) (G_ := G_) (c_ := c_) (a_ := a_) (b_ := b_)
    have l2_ := g_z2_le (fun G_ a_ b_ => g_c3_le (F_ := F_) (G_ := G_) (c_ := c_) (a_ := a_) (b_ := b_)) x_ y_ (g_c3 F_ G_ c_ a_ b_).2
    have hl2_ : F_ + (g_ch F_ c_ (g_c3 F_ G_ c_ a_ b_).2 x_ y_).2.length ≤ 1023 := hl_
    have l2_ : (g_c3 F_ G_ c_ a_ b_).2.length ≤ (g_ch F_ c_ (g_c3 F_ G_ c_ a_ b_).2 x_ y_).2.length := l2_
    have e1_ := gc3_w hG_ hc_ (lwl_c.mp hx_).1 (lwl_c.mp hy_).1 (by omega)
    have e2_ := ch_w (c_ := c_) x_ y_ (g_c3 F_ G_ c_ a_ b_).2 e1_.1 (lz_up (by omega) hc_) (lwl_up (by omega) (lwl_c.mp hx_).2) (lwl_up (by omega) (lwl_c.mp hy_).2) hl2_
    exact ⟨e2_.1, lwl_c.mpr ⟨lz_up (by show F_ + (g_c3 F_ G_ c_ a_ b_).2.length ≤ F_ + (g_ch F_ c_ (g_c3 F_ G_ c_ a_ b_).2 x_ y_).2.length; omega) e1_.2, e2_.2⟩⟩
  | [], y_, G_, hG_, _, _, _, _ => ⟨hG_, lwl_n⟩
  | a_ :: x_, [], G_, hG_, _, _, _, _ => ⟨hG_, lwl_n⟩
theorem bw_w {F_ : Nat} {k_ : Int} : opw F_ (g_bw F_ k_) := by
  unfold g_bw
  split
  · exact an_w
  · split
    · exact or_w
    · exact xo_w
theorem op_w {F_ : Nat} {k_ : Int} {x_ y_ : List Int} {G_ : pGr} (hG_ : gwf F_ G_) (hx_ : lwl (F_ + G_.length) x_) (hy_ : lwl (F_ + G_.length) y_) (hl_ : F_ + (g_op F_ k_ G_ x_ y_).2.length ≤ 1023) : gwf F_ (g_op F_ k_ G_ x_ y_).2 ∧ lwl (F_ + (g_op F_ k_ G_ x_ y_).2.length) (g_op F_ k_ G_ x_ y_).1 := by
  unfold g_op at hl_ ⊢
  split at hl_
  · rename_i q_
    rw [if_pos q_]
    exact su_w x_ y_ G_ 0 hG_ ⟨Int.le_refl _, by have := hG_.1; push_cast; omega⟩ hx_ hy_ hl_
  · rename_i q_
    rw [if_neg q_]
    split at hl_
    · rename_i q2_
      rw [if_pos q2_]
      exact sa_w x_ y_ G_ hG_ hx_ hy_ hl_
    · rename_i q2_
      rw [if_neg q2_]
      exact z2_w bw_w g_bw_le x_ y_ G_ hG_ hx_ hy_ hl_
def lwV (N_ : Nat) (V_ : gV) : Prop := ∀ v_, v_ ∈ V_ → lwl N_ v_
theorem lwV_up {N_ M_ : Nat} {V_ : gV} (h_ : N_ ≤ M_) (hz_ : lwV N_ V_) : lwV M_ V_ := fun z_ q_ => lwl_up h_ (hz_ z_ q_)
theorem lwV_c {N_ : Nat} {a_ : List Int} {l_ : gV} : lwV N_ (a_ :: l_) ↔ lwl N_ a_ ∧ lwV N_ l_ := by
  constructor
  · intro h_
    exact ⟨h_ a_ List.mem_cons_self, fun z_ hz_ => h_ z_ (List.mem_cons_of_mem _ hz_)⟩
  · rintro ⟨h1_, h2_⟩ z_ hz_
    rcases List.mem_cons.mp hz_ with q_ | q_
    · rw [q_]; exact h1_
    · exact h2_ z_ q_
theorem eop_w {F_ : Nat} {k_ : Int} {G_ : pGr} {V_ : gV} {r_ : pGr × gV} (h_ : e_op F_ k_ G_ V_ = some r_) (hG_ : gwf F_ G_) (hV_ : lwV (F_ + G_.length) V_) (hl_ : F_ + r_.1.length ≤ 1023) : gwf F_ r_.1 ∧ lwV (F_ + r_.1.length) r_.2 := by
  have le_ := e_op_le h_
  unfold e_op at h_
  split at h_
  · split at h_
    · rename_i x_ l_
      cases h_
      have q_ := lwV_c.mp hV_
      refine ⟨hG_, lwV_c.mpr ⟨fun z_ hz_ => ?_, q_.2⟩⟩
      obtain ⟨w_, hw_, e_⟩ := List.mem_map.mp hz_
      rw [← e_]
      exact lz_x hl_ (q_.1 w_ hw_)
    · cases h_
  · split at h_
    · split at h_
      · rename_i e_ a_ c_ l_
        split at h_
        · cases h_
          have q_ := lwV_c.mp hV_
          have q2_ := lwV_c.mp q_.2
          have q3_ := lwV_c.mp q2_.2
          have w_ := ch_w a_ e_ G_ hG_ (q3_.1 c_ (by simp)) q2_.1 q_.1 hl_
          exact ⟨w_.1, lwV_c.mpr ⟨w_.2, lwV_up (Nat.add_le_add_left le_ F_) q3_.2⟩⟩
        · cases h_
      · cases h_
    · split at h_
      · split at h_
        · rename_i y_ x_ l_
          split at h_
          · cases h_
            have q_ := lwV_c.mp hV_
            have q2_ := lwV_c.mp q_.2
            have w_ := op_w hG_ q2_.1 q_.1 hl_
            exact ⟨w_.1, lwV_c.mpr ⟨w_.2, lwV_up (Nat.add_le_add_left le_ F_) q2_.2⟩⟩
          · cases h_
        · cases h_
      · cases h_
theorem shr2 {N_ : Nat} (hN_ : 1 ≤ N_) {d_ k_ : Int} : lz N_ (i_shr d_ k_ % 2) := by
  unfold lz
  omega
theorem eld_w {N_ m_ a_ : Nat} {A_ : pA} {k_ d_ : Int} {E_ : gE} {O_ : gO} {V_ W_ : gV} (h_ : e_ld A_ m_ k_ a_ d_ E_ O_ V_ = some W_) (hN_ : 1 ≤ N_) (hE_ : ∀ s_, lwl N_ (E_ s_)) (hO_ : ∀ s_ o_, O_ s_ = some o_ → ∀ t_, lwl N_ (o_ t_)) (hV_ : lwV N_ V_) : lwV N_ W_ := by
  unfold e_ld at h_
  split at h_
  · split at h_
    · rename_i x_ l_
      split at h_
      · rename_i al_
        cases h_
        have q_ := lwV_c.mp hV_
        refine lwV_c.mpr ⟨lwl_c.mpr ⟨?_, lwl_n⟩, q_.2⟩
        have e9_ : x_.getD a_ 0 = x_[a_] := by simp [List.getD, List.getElem?_eq_getElem al_]
        rw [e9_]
        exact q_.1 _ (List.getElem_mem al_)
      · cases h_
    · cases h_
  · split at h_
    · cases h_
    · split at h_
      · split at h_
        · cases h_
          refine lwV_c.mpr ⟨fun z_ hz_ => ?_, hV_⟩
          obtain ⟨w_, hw_, e_⟩ := List.mem_map.mp hz_
          rw [← e_]
          exact shr2 hN_
        · cases h_
      · split at h_
        · split at h_
          · cases h_
            exact lwV_c.mpr ⟨hE_ _, hV_⟩
          · cases h_
        · split at h_
          · split at h_
            · rename_i o_ ho_
              split at h_
              · cases h_
                exact lwV_c.mpr ⟨hO_ _ o_ ho_ _, hV_⟩
              · cases h_
            · cases h_
          · cases h_
/-- all_ literals of_ a_ state -/
def lwS (F_ : Nat) (s_ : gS) : Prop := gwf F_ s_.1.1 ∧ (∀ a_, lwl (F_ + s_.1.1.length) (s_.2.1 a_)) ∧ (∀ a_ o_, s_.2.2.1 a_ = some o_ → ∀ t_, lwl (F_ + s_.1.1.length) (o_ t_)) ∧ lwV (F_ + s_.1.1.length) s_.2.2.2


/-! steps taken apart -/
theorem e_st15 {I_ m_ a_ : Nat} {A_ : pA} {d_ : Int} {s_ r_ : gS} (h_ : e_st I_ A_ m_ 15 a_ d_ s_ = some r_) : a_ < A_.1 m_ ∧ s_.1.2.2 ≤ 200 ∧ s_.2.1 a_ = [] ∧ s_.2.2.1 a_ = none ∧ r_ = ((s_.1.1, s_.1.2.1, s_.1.2.2 + 1), s_.2.1, up1 s_.2.2.1 a_ (some fun _ => []), s_.2.2.2) := by
  unfold e_st at h_
  split at h_
  · cases h_
  · rw [if_pos rfl] at h_
    split at h_
    · rename_i g1_ g_
      cases h_
      exact ⟨by omega, g_.1, g_.2.1, g_.2.2, rfl⟩
    · cases h_
theorem e_st13 {I_ m_ a_ : Nat} {A_ : pA} {d_ : Int} {s_ r_ : gS} (h_ : e_st I_ A_ m_ 13 a_ d_ s_ = some r_) : a_ < A_.1 m_ ∧ s_.2.2.1 a_ = none ∧ 1 ≤ A_.2.2.2.1 (40 * m_ + a_) ∧ A_.2.2.2.1 (40 * m_ + a_) ≤ 8 ∧ s_.1.2.1 + (A_.2.2.2.1 (40 * m_ + a_)).toNat ≤ 6 ∧ r_ = ((s_.1.1, s_.1.2.1 + (A_.2.2.2.1 (40 * m_ + a_)).toNat, s_.1.2.2), up1 s_.2.1 a_ (r_bt I_ s_.1.2.1 (A_.2.2.2.1 (40 * m_ + a_)).toNat), s_.2.2.1, s_.2.2.2) := by
  unfold e_st at h_
  split at h_
  · cases h_
  · rw [if_neg (by decide), if_pos rfl] at h_
    split at h_
    · rename_i g1_ g_
      cases h_
      exact ⟨by omega, g_.1, g_.2.1, g_.2.2.1, g_.2.2.2, rfl⟩
    · cases h_
theorem e_stp {I_ m_ a_ : Nat} {A_ : pA} {k_ d_ : Int} {s_ r_ : gS} (h_ : e_st I_ A_ m_ k_ a_ d_ s_ = some r_) (h15_ : k_ ≠ 15) (h13_ : k_ ≠ 13) : a_ < A_.1 m_ ∧ ∃ x_ l_, s_.2.2.2 = x_ :: l_ ∧ ((k_ = 12 ∧ s_.2.2.1 a_ = none ∧ x_.length ≤ 8 ∧ r_ = (s_.1, up1 s_.2.1 a_ x_, s_.2.2.1, l_)) ∨ (k_ = 14 ∧ ∃ z_ y_, s_.2.1 a_ = z_ :: y_ ∧ 2 * (1 + (I_ : Int)) ≤ z_ ∧ z_ / 2 - 1 - I_ + x_.length ≤ 6 ∧ r_ = (s_.1, s_.2.1, s_.2.2.1, l_)) ∨ (k_ = 16 ∧ ∃ o_, s_.2.2.1 a_ = some o_ ∧ (0 ≤ d_ ∧ d_ < 40) ∧ x_.length ≤ 8 ∧ r_ = (s_.1, s_.2.1, up1 s_.2.2.1 a_ (some (up1 o_ d_.toNat x_)), l_))) := by
  unfold e_st at h_
  split at h_
  · cases h_
  · rename_i g0_
    try rw [if_neg h15_, if_neg h13_] at h_
    refine ⟨by omega, ?_⟩
    split at h_
    · cases h_
    · rename_i x_ l_ hs_
      refine ⟨x_, l_, hs_, ?_⟩
      split at h_
      · rename_i k12_
        split at h_
        · rename_i g_
          cases h_
          exact Or.inl ⟨k12_, g_.1, g_.2, rfl⟩
        · cases h_
      · split at h_
        · rename_i k14_
          split at h_
          · cases h_
          · rename_i z_ y_ hz_
            split at h_
            · rename_i g_
              cases h_
              exact Or.inr (Or.inl ⟨k14_, z_, y_, hz_, g_.1, g_.2, rfl⟩)
            · cases h_
        · split at h_
          · rename_i k16_
            split at h_
            · rename_i o_ ho_
              split at h_
              · rename_i g_
                cases h_
                exact Or.inr (Or.inr ⟨k16_, o_, ho_, ⟨g_.1, g_.2.1⟩, g_.2.2, rfl⟩)
              · cases h_
            · cases h_
          · cases h_
theorem ew17 {F_ I_ : Nat} {A_ : pA} {X_ : Nat → gQ → gE → Option (gQ × gE)} {m_ : Nat} {w_ : Int} {s_ r_ : gS} (h_ : ew F_ I_ A_ X_ m_ w_ s_ = some r_) (h17_ : w_ % 32 = 17) : ∃ o_ z_, s_.2.2.1 (w_ / 32 % 64).toNat = some o_ ∧ s_.2.2.2 = [] ∧ (w_ / 32 % 64).toNat < A_.1 m_ ∧ 0 ≤ w_ / 2048 ∧ w_ / 2048 < m_ ∧ X_ (w_ / 2048).toNat s_.1 o_ = some z_ ∧ r_ = (z_.1, s_.2.1, up1 s_.2.2.1 (w_ / 32 % 64).toNat (some z_.2), []) := by
  unfold ew at h_
  rw [if_pos h17_] at h_
  split at h_
  · rename_i o_ ho_ hv_
    split at h_
    · rename_i g_
      split at h_
      · rename_i z_ hz_
        cases h_
        exact ⟨o_, z_, ho_, hv_, g_.1, g_.2.1, g_.2.2, hz_, rfl⟩
      · cases h_
    · cases h_
  · cases h_
theorem ew_o {F_ I_ : Nat} {A_ : pA} {X_ : Nat → gQ → gE → Option (gQ × gE)} {m_ : Nat} {w_ : Int} {s_ r_ : gS} (h_ : ew F_ I_ A_ X_ m_ w_ s_ = some r_) (h17_ : w_ % 32 ≠ 17) (h7_ : w_ % 32 ≤ 7) : ∃ z_, e_op F_ (w_ % 32) s_.1.1 s_.2.2.2 = some z_ ∧ r_ = ((z_.1, s_.1.2), s_.2.1, s_.2.2.1, z_.2) := by
  unfold ew at h_
  rw [if_neg h17_, if_pos h7_] at h_
  split at h_
  · rename_i z_ hz_
    cases h_
    exact ⟨z_, hz_, rfl⟩
  · cases h_
theorem ew_l {F_ I_ : Nat} {A_ : pA} {X_ : Nat → gQ → gE → Option (gQ × gE)} {m_ : Nat} {w_ : Int} {s_ r_ : gS} (h_ : ew F_ I_ A_ X_ m_ w_ s_ = some r_) (h17_ : w_ % 32 ≠ 17) (h7_ : ¬ w_ % 32 ≤ 7) (h11_ : w_ % 32 ≤ 11) : ∃ V_, e_ld A_ m_ (w_ % 32) (w_ / 32 % 64).toNat (w_ / 2048) s_.2.1 s_.2.2.1 s_.2.2.2 = some V_ ∧ r_ = (s_.1, s_.2.1, s_.2.2.1, V_) := by
  unfold ew at h_
  rw [if_neg h17_, if_neg h7_, if_pos h11_] at h_
  split at h_
  · rename_i z_ hz_
    cases h_
    exact ⟨z_, hz_, rfl⟩
  · cases h_
theorem ew_s {F_ I_ : Nat} {A_ : pA} {X_ : Nat → gQ → gE → Option (gQ × gE)} {m_ : Nat} {w_ : Int} {s_ r_ : gS} (h_ : ew F_ I_ A_ X_ m_ w_ s_ = some r_) (h17_ : w_ % 32 ≠ 17) (h11_ : ¬ w_ % 32 ≤ 11) : e_st I_ A_ m_ (w_ % 32) (w_ / 32 % 64).toNat (w_ / 2048) s_ = some r_ := by
  unfold ew at h_
  rw [if_neg h17_, if_neg (by omega), if_neg h11_] at h_
  exact h_
theorem e_st_k {I_ m_ a_ : Nat} {A_ : pA} {k_ d_ : Int} {s_ r_ : gS} (h_ : e_st I_ A_ m_ k_ a_ d_ s_ = some r_) : 12 ≤ k_ ∧ k_ ≤ 16 := by
  by_cases g1_ : k_ = 15
  · omega
  · by_cases g2_ : k_ = 13
    · omega
    · obtain ⟨_, x_, l_, _, q_⟩ := e_stp h_ g1_ g2_
      rcases q_ with q_ | q_ | q_
      · have := q_.1; omega
      · have := q_.1; omega
      · have := q_.1; omega
theorem up1_w {N_ a_ : Nat} {E_ : gE} {v_ : List Int} (hE_ : ∀ s_, lwl N_ (E_ s_)) (hv_ : lwl N_ v_) : ∀ s_, lwl N_ (up1 E_ a_ v_ s_) := by
  intro s_
  unfold up1
  split
  · exact hv_
  · exact hE_ s_
theorem rbt_w {F_ I_ R_ wd_ : Nat} (h_ : 1 + I_ + R_ + wd_ ≤ F_) {N_ : Nat} (hN_ : F_ ≤ N_) : lwl N_ (r_bt I_ R_ wd_) := by
  intro z_ hz_
  obtain ⟨w_, hw_, e_⟩ := List.mem_map.mp hz_
  have := List.mem_range.mp hw_
  rw [← e_]
  unfold lz
  push_cast
  omega
theorem est_w {F_ I_ m_ a_ : Nat} {A_ : pA} {k_ d_ : Int} {s_ r_ : gS} (h_ : e_st I_ A_ m_ k_ a_ d_ s_ = some r_) (hR_ : 1 + I_ + r_.1.2.1 ≤ F_) (hs_ : lwS F_ s_) : lwS F_ r_ := by
  obtain ⟨h1_, h2_, h3_, h4_⟩ := hs_
  by_cases k15_ : k_ = 15
  · subst k15_
    obtain ⟨-, -, -, -, e_⟩ := e_st15 h_
    subst e_
    refine ⟨h1_, h2_, fun b_ o_ ho_ t_ => ?_, h4_⟩
    have ho_ : (if b_ = a_ then some (fun _ => []) else s_.2.2.1 b_) = some o_ := ho_
    split at ho_
    · cases ho_
      exact lwl_n
    · exact h3_ b_ o_ ho_ t_
  · by_cases k13_ : k_ = 13
    · subst k13_
      obtain ⟨-, -, -, -, -, e_⟩ := e_st13 h_
      subst e_
      have hR2_ : 1 + I_ + (s_.1.2.1 + (A_.2.2.2.1 (40 * m_ + a_)).toNat) ≤ F_ := hR_
      exact ⟨h1_, up1_w h2_ (rbt_w (F_ := F_) (by omega) (Nat.le_add_right _ _)), h3_, h4_⟩
    · obtain ⟨-, x_, l_, e_, q_⟩ := e_stp h_ k15_ k13_
      rw [e_] at h4_
      have v_ := lwV_c.mp h4_
      rcases q_ with ⟨-, -, -, q_⟩ | ⟨-, z_, y_, -, -, -, q_⟩ | ⟨-, o_, ho_, -, -, q_⟩
      · subst q_
        exact ⟨h1_, up1_w h2_ v_.1, h3_, v_.2⟩
      · subst q_
        exact ⟨h1_, h2_, h3_, v_.2⟩
      · subst q_
        refine ⟨h1_, h2_, fun b_ o1_ ho1_ t_ => ?_, v_.2⟩
        have ho1_ : (if b_ = a_ then some (up1 o_ d_.toNat x_) else s_.2.2.1 b_) = some o1_ := ho1_
        split at ho1_
        · cases ho1_
          exact up1_w (fun s_ => h3_ a_ o_ ho_ s_) v_.1 t_
        · exact h3_ b_ o1_ ho1_ t_
theorem est_R {I_ m_ a_ : Nat} {A_ : pA} {k_ d_ : Int} {s_ r_ : gS} (h_ : e_st I_ A_ m_ k_ a_ d_ s_ = some r_) : s_.1.2.1 ≤ r_.1.2.1 := by
  by_cases k15_ : k_ = 15
  · subst k15_
    obtain ⟨-, -, -, -, e_⟩ := e_st15 h_
    subst e_
    exact Nat.le_refl _
  · by_cases k13_ : k_ = 13
    · subst k13_
      obtain ⟨-, -, -, -, -, e_⟩ := e_st13 h_
      subst e_
      exact Nat.le_add_right _ _
    · obtain ⟨-, x_, l_, e_, q_⟩ := e_stp h_ k15_ k13_
      rcases q_ with ⟨-, -, -, q_⟩ | ⟨-, z_, y_, -, -, -, q_⟩ | ⟨-, o_, ho_, -, -, q_⟩
      · subst q_; exact Nat.le_refl _
      · subst q_; exact Nat.le_refl _
      · subst q_; exact Nat.le_refl _
/-- what is_ asked of_ the_ modules used -/
def lwX (F_ I_ : Nat) (X_ : Nat → gQ → gE → Option (gQ × gE)) : Prop := ∀ d_ q_ e_ z_, X_ d_ q_ e_ = some z_ → q_.1.length ≤ z_.1.1.length ∧ q_.2.1 ≤ z_.1.2.1 ∧ (F_ + z_.1.1.length ≤ 1023 → 1 + I_ + z_.1.2.1 ≤ F_ → gwf F_ q_.1 → (∀ a_, lwl (F_ + q_.1.length) (e_ a_)) → gwf F_ z_.1.1 ∧ ∀ a_, lwl (F_ + z_.1.1.length) (z_.2 a_))
theorem ew_R {F_ I_ : Nat} {A_ : pA} {X_ : Nat → gQ → gE → Option (gQ × gE)} {m_ : Nat} {w_ : Int} {s_ r_ : gS} (hX_ : lwX F_ I_ X_) (h_ : ew F_ I_ A_ X_ m_ w_ s_ = some r_) : s_.1.2.1 ≤ r_.1.2.1 := by
  by_cases c17_ : w_ % 32 = 17
  · obtain ⟨o_, z_, -, -, -, -, -, q_, e_⟩ := ew17 h_ c17_
    subst e_
    exact (hX_ _ _ _ _ q_).2.1
  · by_cases c7_ : w_ % 32 ≤ 7
    · obtain ⟨z_, -, e_⟩ := ew_o h_ c17_ c7_
      subst e_
      exact Nat.le_refl _
    · by_cases c11_ : w_ % 32 ≤ 11
      · obtain ⟨z_, -, e_⟩ := ew_l h_ c17_ c7_ c11_
        subst e_
        exact Nat.le_refl _
      · exact est_R (ew_s h_ c17_ c11_)
theorem ew_w {F_ I_ : Nat} {A_ : pA} {X_ : Nat → gQ → gE → Option (gQ × gE)} {m_ : Nat} {w_ : Int} {s_ r_ : gS} (hX_ : lwX F_ I_ X_) (h_ : ew F_ I_ A_ X_ m_ w_ s_ = some r_) (hl_ : F_ + r_.1.1.length ≤ 1023) (hR_ : 1 + I_ + r_.1.2.1 ≤ F_) (hs_ : lwS F_ s_) : lwS F_ r_ := by
  obtain ⟨h1_, h2_, h3_, h4_⟩ := id hs_
  by_cases c17_ : w_ % 32 = 17
  · obtain ⟨o_, z_, ho_, -, -, -, -, q_, e_⟩ := ew17 h_ c17_
    subst e_
    have x_ := hX_ _ _ _ _ q_
    have y_ := x_.2.2 hl_ hR_ h1_ (fun t_ => h3_ _ o_ ho_ t_)
    have le_ : F_ + s_.1.1.length ≤ F_ + z_.1.1.length := by have := x_.1; omega
    refine ⟨y_.1, fun t_ => lwl_up le_ (h2_ t_), fun b_ o1_ ho1_ t_ => ?_, fun v_ hv_ => by simp at hv_⟩
    have ho1_ : (if b_ = (w_ / 32 % 64).toNat then some z_.2 else s_.2.2.1 b_) = some o1_ := ho1_
    split at ho1_
    · cases ho1_
      exact y_.2 t_
    · exact lwl_up le_ (h3_ b_ o1_ ho1_ t_)
  · by_cases c7_ : w_ % 32 ≤ 7
    · obtain ⟨z_, q_, e_⟩ := ew_o h_ c17_ c7_
      subst e_
      have le_ : F_ + s_.1.1.length ≤ F_ + z_.1.length := by have := e_op_le q_; omega
      have y_ := eop_w q_ h1_ h4_ hl_
      exact ⟨y_.1, fun t_ => lwl_up le_ (h2_ t_), fun b_ o1_ ho1_ t_ => lwl_up le_ (h3_ b_ o1_ ho1_ t_), y_.2⟩
    · by_cases c11_ : w_ % 32 ≤ 11
      · obtain ⟨z_, q_, e_⟩ := ew_l h_ c17_ c7_ c11_
        subst e_
        exact ⟨h1_, h2_, h3_, eld_w q_ (by have := h1_.1; omega) h2_ h3_ h4_⟩
      · exact est_w (ew_s h_ c17_ c11_) hR_ hs_
theorem ec_R {F_ I_ : Nat} {A_ : pA} {X_ : Nat → gQ → gE → Option (gQ × gE)} {m_ : Nat} (hX_ : lwX F_ I_ X_) : ∀ (c_ : List Int) (s_ r_ : gS), ec F_ I_ A_ X_ m_ c_ s_ = some r_ → s_.1.2.1 ≤ r_.1.2.1
  | [], s_, r_, h_ => by cases h_; exact Nat.le_refl _
  | w_ :: c_, s_, r_, h_ => by
    rw [ec] at h_
    split at h_
    · rename_i e_
      exact Nat.le_trans (ew_R hX_ e_) (ec_R hX_ c_ _ _ h_)
    · cases h_
theorem ec_w {F_ I_ : Nat} {A_ : pA} {X_ : Nat → gQ → gE → Option (gQ × gE)} {m_ : Nat} (hX_ : lwX F_ I_ X_) : ∀ (c_ : List Int) (s_ r_ : gS), ec F_ I_ A_ X_ m_ c_ s_ = some r_ → F_ + r_.1.1.length ≤ 1023 → 1 + I_ + r_.1.2.1 ≤ F_ → lwS F_ s_ → lwS F_ r_
  | [], s_, r_, h_, _, _, hs_ => by cases h_; exact hs_
  | w_ :: c_, s_, r_, h_, hl_, hR_, hs_ => by
    rw [ec] at h_
    split at h_
    · rename_i s1_ e_
      have l1_ := ec_le (fun d_ q_ e_ z_ hz_ => (hX_ d_ q_ e_ z_ hz_).1) c_ _ _ h_
      have l2_ := ec_R hX_ c_ _ _ h_
      exact ec_w hX_ c_ _ _ h_ hl_ hR_ (ew_w hX_ e_ (by omega) (by omega) hs_)
    · cases h_
theorem exm_w {F_ I_ : Nat} {A_ : pA} {C_ : Nat → List Int} : ∀ f_ : Nat, lwX F_ I_ (exm F_ I_ A_ C_ f_)
  | 0, _, _, _, _, h_ => by cases h_
  | f_ + 1, d_, q_, e_, z_, h_ => by
    have ih_ := exm_w (F_ := F_) (I_ := I_) (A_ := A_) (C_ := C_) f_
    have le_ := exm_le _ _ _ _ _ h_
    rw [exm] at h_
    split at h_
    · rename_i s_ e1_
      split at h_
      · cases h_
        refine ⟨le_, ec_R ih_ _ _ _ e1_, fun hl_ hR_ hG_ he_ => ?_⟩
        have w_ := ec_w ih_ _ _ _ e1_ hl_ hR_ ⟨hG_, he_, (fun a_ o_ ho_ => by cases ho_), (fun v_ hv_ => by cases hv_)⟩
        exact ⟨w_.1, w_.2.1⟩
      · cases h_
    · cases h_
end
/-! 99.zb1a -/
section
/-! the class: AND; written by wip/p55/gen/vg -/
/-! Design.firstAnd -/
def vw_63 : sx_Wl := ([], [], [])
def vq_63 (dd_ : Nat) (S0_ : sm_S) (u_ : Option sm_V) (S1_ : sm_S) : Prop := S0_ = S1_ ∧ ∃ v_ : Int, u_ = some (.inl v_) ∧ (v_ = 1 + S0_.1 3 dd_ 1 + S0_.1 3 dd_ 2)
set_option maxHeartbeats 400000 in
theorem vc_63 {sc_ : Nat × (Nat → Int)} (dd_ : Nat) (S0_ : sm_S) (hI_ : gi S0_) (hx_ : 0 ≤ S0_.1 3 dd_ 1 + S0_.1 3 dd_ 2) : sm_T (mt_P sc_) 0 63 (0, [some (.inr (.inr (some (3, dd_))))], [], S0_) (fun ro9_ => ∃ u_ S1_, ro9_ = (.inl u_, S1_, 0) ∧ vq_63 dd_ S0_ u_ S1_) := by
  have hF_ : ai_fr (sx_W vw_63) S0_ S0_ := ai_fr_rf
  have bx1_ : 0 ≤ S0_.1 3 dd_ 1 ∧ S0_.1 3 dd_ 1 ≤ 320 := hI_.1 3 dd_ 1 rfl
  refine sm_T_go 3 (c1 := (5, [some (.inr (.inr (some (3, dd_))))], [.inl (S0_.1 3 dd_ 1), .inl 1], S0_)) rfl ?_
  refine sm_T_bin (w := (S0_.1 3 dd_ 1) + 1) rfl (bi_add (by omega) (by omega) (by omega)) ?_
  have bx2_ : 0 ≤ S0_.1 3 dd_ 2 ∧ S0_.1 3 dd_ 2 ≤ 100000 := hI_.1 3 dd_ 2 rfl
  refine sm_T_go 2 (c1 := (10, [some (.inr (.inr (some (3, dd_))))], [.inl (S0_.1 3 dd_ 2), .inl ((S0_.1 3 dd_ 1) + 1)], S0_)) rfl ?_
  refine sm_T_bin (w := (S0_.1 3 dd_ 1) + (S0_.1 3 dd_ 2) + 1) rfl (bi_add (by omega) (by omega) (by omega)) ?_
  refine sm_T_ri rfl ⟨_, _, rfl, rfl, _, rfl, ?_⟩
  omega
end
/-! 99.zb1b -/
section
/-! Builder.both -/
def vw_44 : sx_Wl := ([(1, 8), (3, 4)], [29, 42, 43], [])
def vq_44 (x_ : Int) (y_ : Int) (dd_ : Nat) (F_ : Nat) (G_ : pGr) (A_ : Int) (B_ : Int) (S0_ : sm_S) (u_ : Option sm_V) (S1_ : sm_S) : Prop := ∃ v_ : Int, u_ = some (.inl v_) ∧ gi S1_ ∧ ai_fr (sx_W vw_44) S0_ S1_ ∧ (idf dd_ S0_ S1_ ∧ (cgl dd_ F_ (g_an F_ G_ A_ B_).2 S1_ ∧ (imq ((g_an F_ G_ A_ B_).2.length ≤ 1000) (v_ = (g_an F_ G_ A_ B_).1)) ∧ (0 ≤ v_ ∧ v_ ≤ 2025)))
set_option maxHeartbeats 2000000 in
set_option maxRecDepth 20000 in
theorem vl_44 {sc_ : Nat × (Nat → Int)} (x_ : Int) (y_ : Int) (dd_ : Nat) (F_ : Nat) (G_ : pGr) (A_ : Int) (B_ : Int) (S0_ : sm_S) (hd_ : S0_.2.1 1 0 1 = some dd_) (hg_ : cgl dd_ F_ G_ S0_) (hx_ : 0 ≤ x_ ∧ x_ ≤ 2025) (hy_ : 0 ≤ y_ ∧ y_ ≤ 2025) (hab_ : imq (G_.length ≤ 1000) (x_ = A_ ∧ y_ = B_)) : ∀ nn_ : Nat, (∀ (a_ : Int) (b_ : Int) (ap_ : Int) (pr_ : Int) (S_ : sm_S), gi S_ → ai_fr (sx_W vw_44) S0_ S_ → ((S_ = S0_) ∧ (0 ≤ pr_ ∧ pr_ ≤ 4096 ∧ ap_ = (2027 * a_ + 31 * b_ + pr_) % 4096) ∧ ((0 ≤ a_ ∧ a_ ≤ 2025) ∧ 0 ≤ b_ ∧ b_ ≤ 2025) ∧ ((x_ < y_ ∧ a_ = x_ ∧ b_ = y_) ∨ (y_ ≤ x_ ∧ a_ = y_ ∧ b_ = x_)) ∧ (¬ (a_ = 0 ∨ a_ = i_xor b_ 1)) ∧ (¬ (a_ = 1 ∨ a_ = b_)) ∧ (∀ i_, i_ < pr_.toNat → S_.2.2.1 29 0 (hpl a_ b_ i_) ≠ 0 ∧ ¬ (S_.2.2.1 42 (0 + dd_) (S_.2.2.1 29 0 (hpl a_ b_ i_)).toNat = a_ ∧ S_.2.2.1 43 (0 + dd_) (S_.2.2.1 29 0 (hpl a_ b_ i_)).toNat = b_)) ∧ (idf dd_ S0_ S_) ∧ True) → ((4096 - pr_).toNat) < nn_ → sm_T (mt_P sc_) 1 44 (61, [some (.inr (.inr (some (1, 0)))), some (.inl x_), some (.inl y_), some (.inl a_), some (.inl b_), some (.inl ap_), some (.inl pr_), none], [], S_) (fun ro9_ => ∃ u_ S1_, ro9_ = (.inl u_, S1_, 0) ∧ vq_44 x_ y_ dd_ F_ G_ A_ B_ S0_ u_ S1_)) := by
  intro nn_
  induction nn_ with
  | zero => exact fun _ _ _ _ _ _ _ _ h_ => absurd h_ (Nat.not_lt_zero _)
  | succ nn_ ih_ =>
    rintro a_ b_ ap_ pr_ S_ hI_ hF_ ⟨hS_, h0_, hbd_, hmn_, hn0_, hn1_, h2_, hD_, -⟩ hm_
    have hgS_ : cgl dd_ F_ G_ S_ := by rw [hS_]; exact hg_
    obtain ⟨G1_, hG1_, hG2_⟩ := id hgS_
    obtain ⟨x1_, x2_, x3_, x4_, x5_, x6_, x7_, x8_⟩ := id hG1_
    have h2b : ∀ i_, i_ < pr_.toNat → S_.2.2.1 29 0 (hpl a_ b_ i_) ≠ 0 ∧ ∀ k_ : Nat, S_.2.2.1 29 0 (hpl a_ b_ i_) = ((F_ + k_ : Nat) : Int) → G1_[k_]? ≠ some (a_, b_) := fun i_ hi_ => ⟨(h2_ i_ hi_).1, fun k_ e_ q_ => (h2_ i_ hi_).2 (by rw [e_, Int.toNat_natCast]; exact x6_ k_ a_ b_ q_)⟩
    refine sm_T_go 2 (c1 := (66, [some (.inr (.inr (some (1, 0)))), some (.inl x_), some (.inl y_), some (.inl a_), some (.inl b_), some (.inl ap_), some (.inl pr_), none], [.inl 4096, .inl pr_], S_)) rfl ?_
    refine sm_T_br (a := 3) (z := 72) rfl (fun cx1_ => ?_) (fun cx1_ => ?_)
    · have cx1_ : 4096 ≤ pr_ := of_decide_eq_true cx1_
      have fd_ := bk_fd (j_ := pr_.toNat) (a_ := a_) (b_ := b_) x8_ x5_ x3_.1 (by omega) h2b (by have q9_ : hpl a_ b_ pr_.toNat = ap_.toNat := (by unfold hpl; omega); rw [q9_]; omega)
      have ap9_ : hpl a_ b_ pr_.toNat = ap_.toNat := by unfold hpl; omega
      refine sm_T_go 1 (c1 := (139, [some (.inr (.inr (some (1, 0)))), some (.inl x_), some (.inl y_), some (.inl a_), some (.inl b_), some (.inl ap_), some (.inl pr_), none], [.inr (.inr (some (1, 0)))], S_)) rfl ?_
      refine sm_T_gr rfl rfl ((hF_.2.1 1 0 1 rfl).trans hd_) ?_
      have bx2_ : 0 ≤ S_.1 3 dd_ 4 ∧ S_.1 3 dd_ 4 ≤ 1013 := hI_.1 3 dd_ 4 rfl
      refine sm_T_go 2 (c1 := (146, [some (.inr (.inr (some (1, 0)))), some (.inl x_), some (.inl y_), some (.inl a_), some (.inl b_), some (.inl ap_), some (.inl pr_), none], [.inr (.inr (some (1, 0))), .inl (S_.1 3 dd_ 4)], S_)) rfl ?_
      refine sm_T_gr rfl rfl ((hF_.2.1 1 0 1 rfl).trans hd_) ?_
      refine sm_T_cal (d1 := 0) (Q1 := vq_63 dd_ S_) rfl rfl (by decide) (vc_63 dd_ S_ hI_ (by omega)) (fun u_ Sx3_ px6_ => ?_)
      obtain ⟨rfl, vx8_, rfl, px6_⟩ := px6_
      have e149_ := px6_
      refine sm_T_bin (w := (S_.1 3 dd_ 4) - vx8_) rfl (bi_sub (by omega) (by omega) (by omega)) ?_
      refine sm_T_go 1 (c1 := (156, [some (.inr (.inr (some (1, 0)))), some (.inl x_), some (.inl y_), some (.inl a_), some (.inl b_), some (.inl ap_), some (.inl pr_), none], [.inl 1000, .inl ((S_.1 3 dd_ 4) - vx8_)], S_)) rfl ?_
      refine sm_T_br (a := 2) (z := 10) rfl (fun cx9_ => ?_) (fun cx9_ => ?_)
      · have cx9_ : (S_.1 3 dd_ 4) - vx8_ < 1000 := of_decide_eq_true cx9_
        refine sm_T_go 1 (c1 := (167, [some (.inr (.inr (some (1, 0)))), some (.inl x_), some (.inl y_), some (.inl a_), some (.inl b_), some (.inl ap_), some (.inl pr_), none], [.inr (.inr (some (1, 0)))], S_)) rfl ?_
        refine sm_T_gr rfl rfl ((hF_.2.1 1 0 1 rfl).trans hd_) ?_
        refine sm_T_go 6 (c1 := (183, [some (.inr (.inr (some (1, 0)))), some (.inl x_), some (.inl y_), some (.inl a_), some (.inl b_), some (.inl ap_), some (.inl (S_.1 3 dd_ 4)), none], [.inl (S_.1 3 dd_ 4), .inl ap_, .inr (.inr (some (29, 0)))], S_)) rfl ?_
        refine sm_T_iast (n := 4096) rfl rfl (by omega) (by omega) ?_
        have hIx10_ : gi (sm_aI S_ 29 0 ap_.toNat (S_.1 3 dd_ 4)) := gi_aI hI_ (show (-1) ≤ (S_.1 3 dd_ 4) ∧ (S_.1 3 dd_ 4) ≤ 1012 from ⟨by omega, by omega⟩)
        have hFx11_ : ai_fr (sx_W vw_44) S0_ (sm_aI S_ 29 0 ap_.toNat (S_.1 3 dd_ 4)) := ai_fr_tr hF_ (ai_fr_aI rfl)
        have hDx12_ : idf dd_ S0_ (sm_aI S_ 29 0 ap_.toNat (S_.1 3 dd_ 4)) := idf_aI hD_ (Or.inl (by decide))
        refine sm_T_go 1 (c1 := (185, [some (.inr (.inr (some (1, 0)))), some (.inl x_), some (.inl y_), some (.inl a_), some (.inl b_), some (.inl ap_), some (.inl (S_.1 3 dd_ 4)), none], [.inr (.inr (some (1, 0)))], sm_aI S_ 29 0 ap_.toNat (S_.1 3 dd_ 4))) rfl ?_
        refine sm_T_gr rfl rfl ((hFx11_.2.1 1 0 1 rfl).trans hd_) ?_
        refine sm_T_go 3 (c1 := (194, [some (.inr (.inr (some (1, 0)))), some (.inl x_), some (.inl y_), some (.inl a_), some (.inl b_), some (.inl ap_), some (.inl (S_.1 3 dd_ 4)), none], [.inl a_, .inl (S_.1 3 dd_ 4), .inr (.inr (some (42, (0 + dd_))))], sm_aI S_ 29 0 ap_.toNat (S_.1 3 dd_ 4))) rfl ?_
        refine sm_T_iast (n := 1013) rfl rfl (by omega) (by omega) ?_
        have hIx13_ : gi (sm_aI (sm_aI S_ 29 0 ap_.toNat (S_.1 3 dd_ 4)) 42 (0 + dd_) (S_.1 3 dd_ 4).toNat a_) := gi_aI hIx10_ (show 0 ≤ a_ ∧ a_ ≤ 2025 from ⟨by omega, by omega⟩)
        have hFx14_ : ai_fr (sx_W vw_44) S0_ (sm_aI (sm_aI S_ 29 0 ap_.toNat (S_.1 3 dd_ 4)) 42 (0 + dd_) (S_.1 3 dd_ 4).toNat a_) := ai_fr_tr hFx11_ (ai_fr_aI rfl)
        have hDx15_ : idf dd_ S0_ (sm_aI (sm_aI S_ 29 0 ap_.toNat (S_.1 3 dd_ 4)) 42 (0 + dd_) (S_.1 3 dd_ 4).toNat a_) := idf_aI hDx12_ (Or.inr rfl)
        refine sm_T_go 1 (c1 := (196, [some (.inr (.inr (some (1, 0)))), some (.inl x_), some (.inl y_), some (.inl a_), some (.inl b_), some (.inl ap_), some (.inl (S_.1 3 dd_ 4)), none], [.inr (.inr (some (1, 0)))], sm_aI (sm_aI S_ 29 0 ap_.toNat (S_.1 3 dd_ 4)) 42 (0 + dd_) (S_.1 3 dd_ 4).toNat a_)) rfl ?_
        refine sm_T_gr rfl rfl ((hFx14_.2.1 1 0 1 rfl).trans hd_) ?_
        refine sm_T_go 3 (c1 := (206, [some (.inr (.inr (some (1, 0)))), some (.inl x_), some (.inl y_), some (.inl a_), some (.inl b_), some (.inl ap_), some (.inl (S_.1 3 dd_ 4)), none], [.inl b_, .inl (S_.1 3 dd_ 4), .inr (.inr (some (43, (0 + dd_))))], sm_aI (sm_aI S_ 29 0 ap_.toNat (S_.1 3 dd_ 4)) 42 (0 + dd_) (S_.1 3 dd_ 4).toNat a_)) rfl ?_
        refine sm_T_iast (n := 1013) rfl rfl (by omega) (by omega) ?_
        have hIx16_ : gi (sm_aI (sm_aI (sm_aI S_ 29 0 ap_.toNat (S_.1 3 dd_ 4)) 42 (0 + dd_) (S_.1 3 dd_ 4).toNat a_) 43 (0 + dd_) (S_.1 3 dd_ 4).toNat b_) := gi_aI hIx13_ (show 0 ≤ b_ ∧ b_ ≤ 2025 from ⟨by omega, by omega⟩)
        have hFx17_ : ai_fr (sx_W vw_44) S0_ (sm_aI (sm_aI (sm_aI S_ 29 0 ap_.toNat (S_.1 3 dd_ 4)) 42 (0 + dd_) (S_.1 3 dd_ 4).toNat a_) 43 (0 + dd_) (S_.1 3 dd_ 4).toNat b_) := ai_fr_tr hFx14_ (ai_fr_aI rfl)
        have hDx18_ : idf dd_ S0_ (sm_aI (sm_aI (sm_aI S_ 29 0 ap_.toNat (S_.1 3 dd_ 4)) 42 (0 + dd_) (S_.1 3 dd_ 4).toNat a_) 43 (0 + dd_) (S_.1 3 dd_ 4).toNat b_) := idf_aI hDx15_ (Or.inr rfl)
        refine sm_T_go 1 (c1 := (208, [some (.inr (.inr (some (1, 0)))), some (.inl x_), some (.inl y_), some (.inl a_), some (.inl b_), some (.inl ap_), some (.inl (S_.1 3 dd_ 4)), none], [.inr (.inr (some (1, 0)))], sm_aI (sm_aI (sm_aI S_ 29 0 ap_.toNat (S_.1 3 dd_ 4)) 42 (0 + dd_) (S_.1 3 dd_ 4).toNat a_) 43 (0 + dd_) (S_.1 3 dd_ 4).toNat b_)) rfl ?_
        refine sm_T_gr rfl rfl ((hFx17_.2.1 1 0 1 rfl).trans hd_) ?_
        refine sm_T_go 3 (c1 := (216, [some (.inr (.inr (some (1, 0)))), some (.inl x_), some (.inl y_), some (.inl a_), some (.inl b_), some (.inl ap_), some (.inl (S_.1 3 dd_ 4)), none], [.inl 1, .inl (S_.1 3 dd_ 4), .inr (.inr (some (3, dd_)))], sm_aI (sm_aI (sm_aI S_ 29 0 ap_.toNat (S_.1 3 dd_ 4)) 42 (0 + dd_) (S_.1 3 dd_ 4).toNat a_) 43 (0 + dd_) (S_.1 3 dd_ 4).toNat b_)) rfl ?_
        refine sm_T_bin (w := (S_.1 3 dd_ 4) + 1) rfl (bi_add (by omega) (by omega) (by omega)) ?_
        have hIx19_ : gi (sm_pI (sm_aI (sm_aI (sm_aI S_ 29 0 ap_.toNat (S_.1 3 dd_ 4)) 42 (0 + dd_) (S_.1 3 dd_ 4).toNat a_) 43 (0 + dd_) (S_.1 3 dd_ 4).toNat b_) 3 dd_ 4 ((S_.1 3 dd_ 4) + 1)) := gi_pI hIx16_ (show 0 ≤ (S_.1 3 dd_ 4) + 1 ∧ (S_.1 3 dd_ 4) + 1 ≤ 1013 from ⟨by omega, by omega⟩)
        have hFx20_ : ai_fr (sx_W vw_44) S0_ (sm_pI (sm_aI (sm_aI (sm_aI S_ 29 0 ap_.toNat (S_.1 3 dd_ 4)) 42 (0 + dd_) (S_.1 3 dd_ 4).toNat a_) 43 (0 + dd_) (S_.1 3 dd_ 4).toNat b_) 3 dd_ 4 ((S_.1 3 dd_ 4) + 1)) := ai_fr_tr hFx17_ (ai_fr_pI rfl)
        have hDx21_ : idf dd_ S0_ (sm_pI (sm_aI (sm_aI (sm_aI S_ 29 0 ap_.toNat (S_.1 3 dd_ 4)) 42 (0 + dd_) (S_.1 3 dd_ 4).toNat a_) 43 (0 + dd_) (S_.1 3 dd_ 4).toNat b_) 3 dd_ 4 ((S_.1 3 dd_ 4) + 1)) := idf_pI hDx18_ (Or.inr rfl)
        refine sm_T_go 3 (c1 := (223, [some (.inr (.inr (some (1, 0)))), some (.inl x_), some (.inl y_), some (.inl a_), some (.inl b_), some (.inl ap_), some (.inl (S_.1 3 dd_ 4)), none], [.inl (S_.1 3 dd_ 4), .inl 2], sm_pI (sm_aI (sm_aI (sm_aI S_ 29 0 ap_.toNat (S_.1 3 dd_ 4)) 42 (0 + dd_) (S_.1 3 dd_ 4).toNat a_) 43 (0 + dd_) (S_.1 3 dd_ 4).toNat b_) 3 dd_ 4 ((S_.1 3 dd_ 4) + 1))) rfl ?_
        refine sm_T_bin (w := 2 * (S_.1 3 dd_ 4)) rfl (bi_mul (by omega) (by omega) (by omega)) ?_
        refine sm_T_ri rfl ⟨_, _, rfl, _, rfl, hIx19_, hFx20_, ?_⟩
        refine ⟨hDx21_, ?_⟩
        have ea_ : g_an F_ G1_ x_ y_ = (2 * ((F_ + G1_.length : Nat) : Int), G1_ ++ [(a_, b_)]) := by rw [g_an_mn hmn_, g_a2_n hn0_ hn1_ fd_.2.2]
        have nn9_ : (S_.1 3 dd_ 4).toNat = F_ + G1_.length := by omega
        have hr_ := an_go (v_ := 2 * S_.1 3 dd_ 4) (S1_ := (sm_pI (sm_aI (sm_aI (sm_aI S_ 29 0 ap_.toNat (S_.1 3 dd_ 4)) 42 (0 + dd_) (S_.1 3 dd_ 4).toNat a_) 43 (0 + dd_) (S_.1 3 dd_ 4).toNat b_) 3 dd_ 4 ((S_.1 3 dd_ 4) + 1))) hG1_ hG2_ hab_ (Or.inl ⟨by rw [ea_]; exact cgx_up (j_ := pr_.toNat) hG1_ (by omega) (by omega) (fun i_ hi_ => (h2_ i_ hi_).1) fd_.1 fd_.2.2 rfl (by (try simp only [rd_eq, rd_ne, rf_eq, rf_nk, rf_nt, rd_fa, rd_af, rd_fl, rd_al, rd_lf, rd_la, rd_leq, rd_lne, rd_fr, rd_ar, ne_eq, Nat.reduceEqDiff, not_false_eq_true])) (by (try simp only [rd_eq, rd_ne, rf_eq, rf_nk, rf_nt, rd_fa, rd_af, rd_fl, rd_al, rd_lf, rd_la, rd_leq, rd_lne, rd_fr, rd_ar, ne_eq, Nat.reduceEqDiff, not_false_eq_true])) (by (try simp only [rd_eq, rd_ne, rf_eq, rf_nk, rf_nt, rd_fa, rd_af, rd_fl, rd_al, rd_lf, rd_la, rd_leq, rd_lne, rd_fr, rd_ar, ne_eq, Nat.reduceEqDiff, not_false_eq_true])) (fun k_ => by (try simp only [rd_eq, rd_ne, rf_eq, rf_nk, rf_nt, rd_fa, rd_af, rd_fl, rd_al, rd_lf, rd_la, rd_leq, rd_lne, rd_fr, rd_ar, ne_eq, Nat.reduceEqDiff, not_false_eq_true]); rw [ap9_, x4_]) (fun k_ => by (try simp only [rd_eq, rd_ne, rf_eq, rf_nk, rf_nt, rd_fa, rd_af, rd_fl, rd_al, rd_lf, rd_la, rd_leq, rd_lne, rd_fr, rd_ar, ne_eq, Nat.reduceEqDiff, not_false_eq_true]); rw [nn9_]) (fun k_ => by (try simp only [rd_eq, rd_ne, rf_eq, rf_nk, rf_nt, rd_fa, rd_af, rd_fl, rd_al, rd_lf, rd_la, rd_leq, rd_lne, rd_fr, rd_ar, ne_eq, Nat.reduceEqDiff, not_false_eq_true]); rw [nn9_]), by rw [ea_]; omega, by (try simp only [rd_eq, rd_ne, rf_eq, rf_nk, rf_nt, rd_fa, rd_af, rd_fl, rd_al, rd_lf, rd_la, rd_leq, rd_lne, rd_fr, rd_ar, ne_eq, Nat.reduceEqDiff, not_false_eq_true])⟩)
        exact ⟨hr_.1, hr_.2, by omega⟩
      · have cx9_ : ¬ ((S_.1 3 dd_ 4) - vx8_ < 1000) := of_decide_eq_false cx9_
        have hIx22_ : gi (sm_pI S_ 1 0 8 1) := gi_pI hI_ (show 0 ≤ 1 ∧ 1 ≤ 1 from ⟨by omega, by omega⟩)
        have hFx23_ : ai_fr (sx_W vw_44) S0_ (sm_pI S_ 1 0 8 1) := ai_fr_tr hF_ (ai_fr_pI rfl)
        have hDx24_ : idf dd_ S0_ (sm_pI S_ 1 0 8 1) := idf_pI hD_ (Or.inl (by decide))
        refine sm_T_go 4 (c1 := (165, [some (.inr (.inr (some (1, 0)))), some (.inl x_), some (.inl y_), some (.inl a_), some (.inl b_), some (.inl ap_), some (.inl pr_), none], [.inl 0], sm_pI S_ 1 0 8 1)) rfl ?_
        refine sm_T_ri rfl ⟨_, _, rfl, _, rfl, hIx22_, hFx23_, ?_⟩
        refine ⟨hDx24_, ?_⟩
        have ea_ : g_an F_ G1_ x_ y_ = (2 * ((F_ + G1_.length : Nat) : Int), G1_ ++ [(a_, b_)]) := by rw [g_an_mn hmn_, g_a2_n hn0_ hn1_ fd_.2.2]
        have hr_ := an_go (v_ := 0) (S1_ := (sm_pI S_ 1 0 8 1)) hG1_ hG2_ hab_ (Or.inr ⟨by omega, by rw [ea_]; simp only [List.length_append, List.length_cons, List.length_nil]; omega, cgx_cg hG1_ rfl rfl rfl rfl rfl rfl rfl, rfl⟩)
        exact ⟨hr_.1, hr_.2, by omega⟩
    · have cx1_ : ¬ (4096 ≤ pr_) := of_decide_eq_false cx1_
      refine sm_T_go 3 (c1 := (75, [some (.inr (.inr (some (1, 0)))), some (.inl x_), some (.inl y_), some (.inl a_), some (.inl b_), some (.inl ap_), some (.inl pr_), none], [.inl ap_, .inr (.inr (some (29, 0)))], S_)) rfl ?_
      refine sm_T_iald (n := 4096) rfl rfl (by omega) (by omega) ?_
      have bx25_ : (-1) ≤ S_.2.2.1 29 0 ap_.toNat ∧ S_.2.2.1 29 0 ap_.toNat ≤ 1012 := hI_.2 29 0 _
      refine sm_T_b0 (a := 0) (z := 62) rfl (fun cx26_ => ?_) (fun cx26_ => ?_)
      · have cx26_ : (S_.2.2.1 29 0 ap_.toNat) = 0 := of_decide_eq_true cx26_
        have fd_ := bk_fd (j_ := pr_.toNat) (a_ := a_) (b_ := b_) x8_ x5_ x3_.1 (by omega) h2b (by have q9_ : hpl a_ b_ pr_.toNat = ap_.toNat := (by unfold hpl; omega); rw [q9_]; omega)
        have ap9_ : hpl a_ b_ pr_.toNat = ap_.toNat := by unfold hpl; omega
        refine sm_T_go 1 (c1 := (139, [some (.inr (.inr (some (1, 0)))), some (.inl x_), some (.inl y_), some (.inl a_), some (.inl b_), some (.inl ap_), some (.inl pr_), none], [.inr (.inr (some (1, 0)))], S_)) rfl ?_
        refine sm_T_gr rfl rfl ((hF_.2.1 1 0 1 rfl).trans hd_) ?_
        have bx27_ : 0 ≤ S_.1 3 dd_ 4 ∧ S_.1 3 dd_ 4 ≤ 1013 := hI_.1 3 dd_ 4 rfl
        refine sm_T_go 2 (c1 := (146, [some (.inr (.inr (some (1, 0)))), some (.inl x_), some (.inl y_), some (.inl a_), some (.inl b_), some (.inl ap_), some (.inl pr_), none], [.inr (.inr (some (1, 0))), .inl (S_.1 3 dd_ 4)], S_)) rfl ?_
        refine sm_T_gr rfl rfl ((hF_.2.1 1 0 1 rfl).trans hd_) ?_
        refine sm_T_cal (d1 := 0) (Q1 := vq_63 dd_ S_) rfl rfl (by decide) (vc_63 dd_ S_ hI_ (by omega)) (fun u_ Sx28_ px31_ => ?_)
        obtain ⟨rfl, vx33_, rfl, px31_⟩ := px31_
        have e149_ := px31_
        refine sm_T_bin (w := (S_.1 3 dd_ 4) - vx33_) rfl (bi_sub (by omega) (by omega) (by omega)) ?_
        refine sm_T_go 1 (c1 := (156, [some (.inr (.inr (some (1, 0)))), some (.inl x_), some (.inl y_), some (.inl a_), some (.inl b_), some (.inl ap_), some (.inl pr_), none], [.inl 1000, .inl ((S_.1 3 dd_ 4) - vx33_)], S_)) rfl ?_
        refine sm_T_br (a := 2) (z := 10) rfl (fun cx34_ => ?_) (fun cx34_ => ?_)
        · have cx34_ : (S_.1 3 dd_ 4) - vx33_ < 1000 := of_decide_eq_true cx34_
          refine sm_T_go 1 (c1 := (167, [some (.inr (.inr (some (1, 0)))), some (.inl x_), some (.inl y_), some (.inl a_), some (.inl b_), some (.inl ap_), some (.inl pr_), none], [.inr (.inr (some (1, 0)))], S_)) rfl ?_
          refine sm_T_gr rfl rfl ((hF_.2.1 1 0 1 rfl).trans hd_) ?_
          refine sm_T_go 6 (c1 := (183, [some (.inr (.inr (some (1, 0)))), some (.inl x_), some (.inl y_), some (.inl a_), some (.inl b_), some (.inl ap_), some (.inl (S_.1 3 dd_ 4)), none], [.inl (S_.1 3 dd_ 4), .inl ap_, .inr (.inr (some (29, 0)))], S_)) rfl ?_
          refine sm_T_iast (n := 4096) rfl rfl (by omega) (by omega) ?_
          have hIx35_ : gi (sm_aI S_ 29 0 ap_.toNat (S_.1 3 dd_ 4)) := gi_aI hI_ (show (-1) ≤ (S_.1 3 dd_ 4) ∧ (S_.1 3 dd_ 4) ≤ 1012 from ⟨by omega, by omega⟩)
          have hFx36_ : ai_fr (sx_W vw_44) S0_ (sm_aI S_ 29 0 ap_.toNat (S_.1 3 dd_ 4)) := ai_fr_tr hF_ (ai_fr_aI rfl)
          have hDx37_ : idf dd_ S0_ (sm_aI S_ 29 0 ap_.toNat (S_.1 3 dd_ 4)) := idf_aI hD_ (Or.inl (by decide))
          refine sm_T_go 1 (c1 := (185, [some (.inr (.inr (some (1, 0)))), some (.inl x_), some (.inl y_), some (.inl a_), some (.inl b_), some (.inl ap_), some (.inl (S_.1 3 dd_ 4)), none], [.inr (.inr (some (1, 0)))], sm_aI S_ 29 0 ap_.toNat (S_.1 3 dd_ 4))) rfl ?_
          refine sm_T_gr rfl rfl ((hFx36_.2.1 1 0 1 rfl).trans hd_) ?_
          refine sm_T_go 3 (c1 := (194, [some (.inr (.inr (some (1, 0)))), some (.inl x_), some (.inl y_), some (.inl a_), some (.inl b_), some (.inl ap_), some (.inl (S_.1 3 dd_ 4)), none], [.inl a_, .inl (S_.1 3 dd_ 4), .inr (.inr (some (42, (0 + dd_))))], sm_aI S_ 29 0 ap_.toNat (S_.1 3 dd_ 4))) rfl ?_
          refine sm_T_iast (n := 1013) rfl rfl (by omega) (by omega) ?_
          have hIx38_ : gi (sm_aI (sm_aI S_ 29 0 ap_.toNat (S_.1 3 dd_ 4)) 42 (0 + dd_) (S_.1 3 dd_ 4).toNat a_) := gi_aI hIx35_ (show 0 ≤ a_ ∧ a_ ≤ 2025 from ⟨by omega, by omega⟩)
          have hFx39_ : ai_fr (sx_W vw_44) S0_ (sm_aI (sm_aI S_ 29 0 ap_.toNat (S_.1 3 dd_ 4)) 42 (0 + dd_) (S_.1 3 dd_ 4).toNat a_) := ai_fr_tr hFx36_ (ai_fr_aI rfl)
          have hDx40_ : idf dd_ S0_ (sm_aI (sm_aI S_ 29 0 ap_.toNat (S_.1 3 dd_ 4)) 42 (0 + dd_) (S_.1 3 dd_ 4).toNat a_) := idf_aI hDx37_ (Or.inr rfl)
          refine sm_T_go 1 (c1 := (196, [some (.inr (.inr (some (1, 0)))), some (.inl x_), some (.inl y_), some (.inl a_), some (.inl b_), some (.inl ap_), some (.inl (S_.1 3 dd_ 4)), none], [.inr (.inr (some (1, 0)))], sm_aI (sm_aI S_ 29 0 ap_.toNat (S_.1 3 dd_ 4)) 42 (0 + dd_) (S_.1 3 dd_ 4).toNat a_)) rfl ?_
          refine sm_T_gr rfl rfl ((hFx39_.2.1 1 0 1 rfl).trans hd_) ?_
          refine sm_T_go 3 (c1 := (206, [some (.inr (.inr (some (1, 0)))), some (.inl x_), some (.inl y_), some (.inl a_), some (.inl b_), some (.inl ap_), some (.inl (S_.1 3 dd_ 4)), none], [.inl b_, .inl (S_.1 3 dd_ 4), .inr (.inr (some (43, (0 + dd_))))], sm_aI (sm_aI S_ 29 0 ap_.toNat (S_.1 3 dd_ 4)) 42 (0 + dd_) (S_.1 3 dd_ 4).toNat a_)) rfl ?_
          refine sm_T_iast (n := 1013) rfl rfl (by omega) (by omega) ?_
          have hIx41_ : gi (sm_aI (sm_aI (sm_aI S_ 29 0 ap_.toNat (S_.1 3 dd_ 4)) 42 (0 + dd_) (S_.1 3 dd_ 4).toNat a_) 43 (0 + dd_) (S_.1 3 dd_ 4).toNat b_) := gi_aI hIx38_ (show 0 ≤ b_ ∧ b_ ≤ 2025 from ⟨by omega, by omega⟩)
          have hFx42_ : ai_fr (sx_W vw_44) S0_ (sm_aI (sm_aI (sm_aI S_ 29 0 ap_.toNat (S_.1 3 dd_ 4)) 42 (0 + dd_) (S_.1 3 dd_ 4).toNat a_) 43 (0 + dd_) (S_.1 3 dd_ 4).toNat b_) := ai_fr_tr hFx39_ (ai_fr_aI rfl)
          have hDx43_ : idf dd_ S0_ (sm_aI (sm_aI (sm_aI S_ 29 0 ap_.toNat (S_.1 3 dd_ 4)) 42 (0 + dd_) (S_.1 3 dd_ 4).toNat a_) 43 (0 + dd_) (S_.1 3 dd_ 4).toNat b_) := idf_aI hDx40_ (Or.inr rfl)
          refine sm_T_go 1 (c1 := (208, [some (.inr (.inr (some (1, 0)))), some (.inl x_), some (.inl y_), some (.inl a_), some (.inl b_), some (.inl ap_), some (.inl (S_.1 3 dd_ 4)), none], [.inr (.inr (some (1, 0)))], sm_aI (sm_aI (sm_aI S_ 29 0 ap_.toNat (S_.1 3 dd_ 4)) 42 (0 + dd_) (S_.1 3 dd_ 4).toNat a_) 43 (0 + dd_) (S_.1 3 dd_ 4).toNat b_)) rfl ?_
          refine sm_T_gr rfl rfl ((hFx42_.2.1 1 0 1 rfl).trans hd_) ?_
          refine sm_T_go 3 (c1 := (216, [some (.inr (.inr (some (1, 0)))), some (.inl x_), some (.inl y_), some (.inl a_), some (.inl b_), some (.inl ap_), some (.inl (S_.1 3 dd_ 4)), none], [.inl 1, .inl (S_.1 3 dd_ 4), .inr (.inr (some (3, dd_)))], sm_aI (sm_aI (sm_aI S_ 29 0 ap_.toNat (S_.1 3 dd_ 4)) 42 (0 + dd_) (S_.1 3 dd_ 4).toNat a_) 43 (0 + dd_) (S_.1 3 dd_ 4).toNat b_)) rfl ?_
          refine sm_T_bin (w := (S_.1 3 dd_ 4) + 1) rfl (bi_add (by omega) (by omega) (by omega)) ?_
          have hIx44_ : gi (sm_pI (sm_aI (sm_aI (sm_aI S_ 29 0 ap_.toNat (S_.1 3 dd_ 4)) 42 (0 + dd_) (S_.1 3 dd_ 4).toNat a_) 43 (0 + dd_) (S_.1 3 dd_ 4).toNat b_) 3 dd_ 4 ((S_.1 3 dd_ 4) + 1)) := gi_pI hIx41_ (show 0 ≤ (S_.1 3 dd_ 4) + 1 ∧ (S_.1 3 dd_ 4) + 1 ≤ 1013 from ⟨by omega, by omega⟩)
          have hFx45_ : ai_fr (sx_W vw_44) S0_ (sm_pI (sm_aI (sm_aI (sm_aI S_ 29 0 ap_.toNat (S_.1 3 dd_ 4)) 42 (0 + dd_) (S_.1 3 dd_ 4).toNat a_) 43 (0 + dd_) (S_.1 3 dd_ 4).toNat b_) 3 dd_ 4 ((S_.1 3 dd_ 4) + 1)) := ai_fr_tr hFx42_ (ai_fr_pI rfl)
          have hDx46_ : idf dd_ S0_ (sm_pI (sm_aI (sm_aI (sm_aI S_ 29 0 ap_.toNat (S_.1 3 dd_ 4)) 42 (0 + dd_) (S_.1 3 dd_ 4).toNat a_) 43 (0 + dd_) (S_.1 3 dd_ 4).toNat b_) 3 dd_ 4 ((S_.1 3 dd_ 4) + 1)) := idf_pI hDx43_ (Or.inr rfl)
          refine sm_T_go 3 (c1 := (223, [some (.inr (.inr (some (1, 0)))), some (.inl x_), some (.inl y_), some (.inl a_), some (.inl b_), some (.inl ap_), some (.inl (S_.1 3 dd_ 4)), none], [.inl (S_.1 3 dd_ 4), .inl 2], sm_pI (sm_aI (sm_aI (sm_aI S_ 29 0 ap_.toNat (S_.1 3 dd_ 4)) 42 (0 + dd_) (S_.1 3 dd_ 4).toNat a_) 43 (0 + dd_) (S_.1 3 dd_ 4).toNat b_) 3 dd_ 4 ((S_.1 3 dd_ 4) + 1))) rfl ?_
          refine sm_T_bin (w := 2 * (S_.1 3 dd_ 4)) rfl (bi_mul (by omega) (by omega) (by omega)) ?_
          refine sm_T_ri rfl ⟨_, _, rfl, _, rfl, hIx44_, hFx45_, ?_⟩
          refine ⟨hDx46_, ?_⟩
          have ea_ : g_an F_ G1_ x_ y_ = (2 * ((F_ + G1_.length : Nat) : Int), G1_ ++ [(a_, b_)]) := by rw [g_an_mn hmn_, g_a2_n hn0_ hn1_ fd_.2.2]
          have nn9_ : (S_.1 3 dd_ 4).toNat = F_ + G1_.length := by omega
          have hr_ := an_go (v_ := 2 * S_.1 3 dd_ 4) (S1_ := (sm_pI (sm_aI (sm_aI (sm_aI S_ 29 0 ap_.toNat (S_.1 3 dd_ 4)) 42 (0 + dd_) (S_.1 3 dd_ 4).toNat a_) 43 (0 + dd_) (S_.1 3 dd_ 4).toNat b_) 3 dd_ 4 ((S_.1 3 dd_ 4) + 1))) hG1_ hG2_ hab_ (Or.inl ⟨by rw [ea_]; exact cgx_up (j_ := pr_.toNat) hG1_ (by omega) (by omega) (fun i_ hi_ => (h2_ i_ hi_).1) fd_.1 fd_.2.2 rfl (by (try simp only [rd_eq, rd_ne, rf_eq, rf_nk, rf_nt, rd_fa, rd_af, rd_fl, rd_al, rd_lf, rd_la, rd_leq, rd_lne, rd_fr, rd_ar, ne_eq, Nat.reduceEqDiff, not_false_eq_true])) (by (try simp only [rd_eq, rd_ne, rf_eq, rf_nk, rf_nt, rd_fa, rd_af, rd_fl, rd_al, rd_lf, rd_la, rd_leq, rd_lne, rd_fr, rd_ar, ne_eq, Nat.reduceEqDiff, not_false_eq_true])) (by (try simp only [rd_eq, rd_ne, rf_eq, rf_nk, rf_nt, rd_fa, rd_af, rd_fl, rd_al, rd_lf, rd_la, rd_leq, rd_lne, rd_fr, rd_ar, ne_eq, Nat.reduceEqDiff, not_false_eq_true])) (fun k_ => by (try simp only [rd_eq, rd_ne, rf_eq, rf_nk, rf_nt, rd_fa, rd_af, rd_fl, rd_al, rd_lf, rd_la, rd_leq, rd_lne, rd_fr, rd_ar, ne_eq, Nat.reduceEqDiff, not_false_eq_true]); rw [ap9_, x4_]) (fun k_ => by (try simp only [rd_eq, rd_ne, rf_eq, rf_nk, rf_nt, rd_fa, rd_af, rd_fl, rd_al, rd_lf, rd_la, rd_leq, rd_lne, rd_fr, rd_ar, ne_eq, Nat.reduceEqDiff, not_false_eq_true]); rw [nn9_]) (fun k_ => by (try simp only [rd_eq, rd_ne, rf_eq, rf_nk, rf_nt, rd_fa, rd_af, rd_fl, rd_al, rd_lf, rd_la, rd_leq, rd_lne, rd_fr, rd_ar, ne_eq, Nat.reduceEqDiff, not_false_eq_true]); rw [nn9_]), by rw [ea_]; omega, by (try simp only [rd_eq, rd_ne, rf_eq, rf_nk, rf_nt, rd_fa, rd_af, rd_fl, rd_al, rd_lf, rd_la, rd_leq, rd_lne, rd_fr, rd_ar, ne_eq, Nat.reduceEqDiff, not_false_eq_true])⟩)
          exact ⟨hr_.1, hr_.2, by omega⟩
        · have cx34_ : ¬ ((S_.1 3 dd_ 4) - vx33_ < 1000) := of_decide_eq_false cx34_
          have hIx47_ : gi (sm_pI S_ 1 0 8 1) := gi_pI hI_ (show 0 ≤ 1 ∧ 1 ≤ 1 from ⟨by omega, by omega⟩)
          have hFx48_ : ai_fr (sx_W vw_44) S0_ (sm_pI S_ 1 0 8 1) := ai_fr_tr hF_ (ai_fr_pI rfl)
          have hDx49_ : idf dd_ S0_ (sm_pI S_ 1 0 8 1) := idf_pI hD_ (Or.inl (by decide))
          refine sm_T_go 4 (c1 := (165, [some (.inr (.inr (some (1, 0)))), some (.inl x_), some (.inl y_), some (.inl a_), some (.inl b_), some (.inl ap_), some (.inl pr_), none], [.inl 0], sm_pI S_ 1 0 8 1)) rfl ?_
          refine sm_T_ri rfl ⟨_, _, rfl, _, rfl, hIx47_, hFx48_, ?_⟩
          refine ⟨hDx49_, ?_⟩
          have ea_ : g_an F_ G1_ x_ y_ = (2 * ((F_ + G1_.length : Nat) : Int), G1_ ++ [(a_, b_)]) := by rw [g_an_mn hmn_, g_a2_n hn0_ hn1_ fd_.2.2]
          have hr_ := an_go (v_ := 0) (S1_ := (sm_pI S_ 1 0 8 1)) hG1_ hG2_ hab_ (Or.inr ⟨by omega, by rw [ea_]; simp only [List.length_append, List.length_cons, List.length_nil]; omega, cgx_cg hG1_ rfl rfl rfl rfl rfl rfl rfl, rfl⟩)
          exact ⟨hr_.1, hr_.2, by omega⟩
      · have cx26_ : ¬ ((S_.2.2.1 29 0 ap_.toNat) = 0) := of_decide_eq_false cx26_
        obtain ⟨k9_, hk9_, ek9_⟩ : ∃ k_, k_ < G1_.length ∧ S_.2.2.1 29 0 ap_.toNat = ((F_ + k_ : Nat) : Int) := by rcases x8_.1 ap_.toNat (by omega) with z_ | z_; (exact absurd z_ (by omega)); (exact z_)
        obtain ⟨⟨px_, py_⟩, ep_⟩ : ∃ p_, G1_[k9_]? = some p_ := ⟨_, List.getElem?_eq_getElem hk9_⟩
        have ep2_ := x6_ k9_ px_ py_ ep_
        rw [show F_ + k9_ = (S_.2.2.1 29 0 ap_.toNat).toNat by omega] at ep2_
        refine sm_T_go 3 (c1 := (85, [some (.inr (.inr (some (1, 0)))), some (.inl x_), some (.inl y_), some (.inl a_), some (.inl b_), some (.inl ap_), some (.inl pr_), none], [.inl ap_, .inr (.inr (some (29, 0)))], S_)) rfl ?_
        refine sm_T_iald (n := 4096) rfl rfl (by omega) (by omega) ?_
        refine sm_T_go 2 (c1 := (89, [some (.inr (.inr (some (1, 0)))), some (.inl x_), some (.inl y_), some (.inl a_), some (.inl b_), some (.inl ap_), some (.inl pr_), some (.inl (S_.2.2.1 29 0 ap_.toNat))], [.inr (.inr (some (1, 0)))], S_)) rfl ?_
        refine sm_T_gr rfl rfl ((hF_.2.1 1 0 1 rfl).trans hd_) ?_
        refine sm_T_go 2 (c1 := (97, [some (.inr (.inr (some (1, 0)))), some (.inl x_), some (.inl y_), some (.inl a_), some (.inl b_), some (.inl ap_), some (.inl pr_), some (.inl (S_.2.2.1 29 0 ap_.toNat))], [.inl (S_.2.2.1 29 0 ap_.toNat), .inr (.inr (some (42, (0 + dd_))))], S_)) rfl ?_
        refine sm_T_iald (n := 1013) rfl rfl (by omega) (by omega) ?_
        have bx50_ : 0 ≤ S_.2.2.1 42 (0 + dd_) (S_.2.2.1 29 0 ap_.toNat).toNat ∧ S_.2.2.1 42 (0 + dd_) (S_.2.2.1 29 0 ap_.toNat).toNat ≤ 2025 := hI_.2 42 (0 + dd_) _
        refine sm_T_go 1 (c1 := (99, [some (.inr (.inr (some (1, 0)))), some (.inl x_), some (.inl y_), some (.inl a_), some (.inl b_), some (.inl ap_), some (.inl pr_), some (.inl (S_.2.2.1 29 0 ap_.toNat))], [.inl a_, .inl (S_.2.2.1 42 (0 + dd_) (S_.2.2.1 29 0 ap_.toNat).toNat)], S_)) rfl ?_
        refine sm_T_br (a := 1) (z := 23) rfl (fun cx51_ => ?_) (fun cx51_ => ?_)
        · have cx51_ : (S_.2.2.1 42 (0 + dd_) (S_.2.2.1 29 0 ap_.toNat).toNat) ≠ a_ := of_decide_eq_true cx51_
          refine sm_T_go 2 (c1 := (125, [some (.inr (.inr (some (1, 0)))), some (.inl x_), some (.inl y_), some (.inl a_), some (.inl b_), some (.inl ap_), some (.inl pr_), some (.inl (S_.2.2.1 29 0 ap_.toNat))], [.inl 1, .inl ap_], S_)) rfl ?_
          refine sm_T_bin (w := ap_ + 1) rfl (bi_add (by omega) (by omega) (by omega)) ?_
          refine sm_T_go 1 (c1 := (129, [some (.inr (.inr (some (1, 0)))), some (.inl x_), some (.inl y_), some (.inl a_), some (.inl b_), some (.inl ap_), some (.inl pr_), some (.inl (S_.2.2.1 29 0 ap_.toNat))], [.inl 4095, .inl (ap_ + 1)], S_)) rfl ?_
          refine sm_T_bin (w := ((ap_ + 1) % 4096)) rfl (bi_msk (k := 12) (by decide)) ?_
          refine sm_T_go 1 (c1 := (132, [some (.inr (.inr (some (1, 0)))), some (.inl x_), some (.inl y_), some (.inl a_), some (.inl b_), some (.inl ((ap_ + 1) % 4096)), some (.inl pr_), some (.inl (S_.2.2.1 29 0 ap_.toNat))], [], S_)) rfl ?_
          refine sm_T_inc (a := 6) (z := 1) (v := pr_) (w := pr_ + 1) rfl rfl (by omega) (by omega) (by omega) ?_
          refine sm_T_go 1 (c1 := (61, [some (.inr (.inr (some (1, 0)))), some (.inl x_), some (.inl y_), some (.inl a_), some (.inl b_), some (.inl ((ap_ + 1) % 4096)), some (.inl (pr_ + 1)), some (.inl (S_.2.2.1 29 0 ap_.toNat))], [], S_)) rfl ?_
          refine sm_T_wk [some (.inr (.inr (some (1, 0)))), some (.inl x_), some (.inl y_), some (.inl a_), some (.inl b_), some (.inl ((ap_ + 1) % 4096)), some (.inl (pr_ + 1)), none] (by exact ⟨rfl, rfl, rfl, rfl, rfl, rfl, rfl, trivial⟩) ?_
          refine ih_ a_ b_ ((ap_ + 1) % 4096) (pr_ + 1) S_ hI_ hF_ ⟨?_, ?_, ?_, ?_, ?_, ?_, ?_, ?_, trivial⟩ ?_
          · exact hS_
          · omega
          · exact hbd_
          · exact hmn_
          · exact hn0_
          · exact hn1_
          · intro i_ hi_
            by_cases z_ : i_ < pr_.toNat
            · exact h2_ i_ z_
            · have zi_ : i_ = pr_.toNat := by omega
              have q9_ : hpl a_ b_ i_ = ap_.toNat := by rw [zi_]; unfold hpl; omega
              rw [q9_]
              exact ⟨by omega, fun w9_ => by omega⟩
          · exact hD_
          · omega
        · have cx51_ : ¬ ((S_.2.2.1 42 (0 + dd_) (S_.2.2.1 29 0 ap_.toNat).toNat) ≠ a_) := of_decide_eq_false cx51_
          refine sm_T_go 1 (c1 := (103, [some (.inr (.inr (some (1, 0)))), some (.inl x_), some (.inl y_), some (.inl a_), some (.inl b_), some (.inl ap_), some (.inl pr_), some (.inl (S_.2.2.1 29 0 ap_.toNat))], [.inr (.inr (some (1, 0)))], S_)) rfl ?_
          refine sm_T_gr rfl rfl ((hF_.2.1 1 0 1 rfl).trans hd_) ?_
          refine sm_T_go 2 (c1 := (111, [some (.inr (.inr (some (1, 0)))), some (.inl x_), some (.inl y_), some (.inl a_), some (.inl b_), some (.inl ap_), some (.inl pr_), some (.inl (S_.2.2.1 29 0 ap_.toNat))], [.inl (S_.2.2.1 29 0 ap_.toNat), .inr (.inr (some (43, (0 + dd_))))], S_)) rfl ?_
          refine sm_T_iald (n := 1013) rfl rfl (by omega) (by omega) ?_
          have bx52_ : 0 ≤ S_.2.2.1 43 (0 + dd_) (S_.2.2.1 29 0 ap_.toNat).toNat ∧ S_.2.2.1 43 (0 + dd_) (S_.2.2.1 29 0 ap_.toNat).toNat ≤ 2025 := hI_.2 43 (0 + dd_) _
          refine sm_T_go 1 (c1 := (114, [some (.inr (.inr (some (1, 0)))), some (.inl x_), some (.inl y_), some (.inl a_), some (.inl b_), some (.inl ap_), some (.inl pr_), some (.inl (S_.2.2.1 29 0 ap_.toNat))], [.inl b_, .inl (S_.2.2.1 43 (0 + dd_) (S_.2.2.1 29 0 ap_.toNat).toNat)], S_)) rfl ?_
          refine sm_T_br (a := 1) (z := 8) rfl (fun cx53_ => ?_) (fun cx53_ => ?_)
          · have cx53_ : (S_.2.2.1 43 (0 + dd_) (S_.2.2.1 29 0 ap_.toNat).toNat) ≠ b_ := of_decide_eq_true cx53_
            refine sm_T_go 2 (c1 := (125, [some (.inr (.inr (some (1, 0)))), some (.inl x_), some (.inl y_), some (.inl a_), some (.inl b_), some (.inl ap_), some (.inl pr_), some (.inl (S_.2.2.1 29 0 ap_.toNat))], [.inl 1, .inl ap_], S_)) rfl ?_
            refine sm_T_bin (w := ap_ + 1) rfl (bi_add (by omega) (by omega) (by omega)) ?_
            refine sm_T_go 1 (c1 := (129, [some (.inr (.inr (some (1, 0)))), some (.inl x_), some (.inl y_), some (.inl a_), some (.inl b_), some (.inl ap_), some (.inl pr_), some (.inl (S_.2.2.1 29 0 ap_.toNat))], [.inl 4095, .inl (ap_ + 1)], S_)) rfl ?_
            refine sm_T_bin (w := ((ap_ + 1) % 4096)) rfl (bi_msk (k := 12) (by decide)) ?_
            refine sm_T_go 1 (c1 := (132, [some (.inr (.inr (some (1, 0)))), some (.inl x_), some (.inl y_), some (.inl a_), some (.inl b_), some (.inl ((ap_ + 1) % 4096)), some (.inl pr_), some (.inl (S_.2.2.1 29 0 ap_.toNat))], [], S_)) rfl ?_
            refine sm_T_inc (a := 6) (z := 1) (v := pr_) (w := pr_ + 1) rfl rfl (by omega) (by omega) (by omega) ?_
            refine sm_T_go 1 (c1 := (61, [some (.inr (.inr (some (1, 0)))), some (.inl x_), some (.inl y_), some (.inl a_), some (.inl b_), some (.inl ((ap_ + 1) % 4096)), some (.inl (pr_ + 1)), some (.inl (S_.2.2.1 29 0 ap_.toNat))], [], S_)) rfl ?_
            refine sm_T_wk [some (.inr (.inr (some (1, 0)))), some (.inl x_), some (.inl y_), some (.inl a_), some (.inl b_), some (.inl ((ap_ + 1) % 4096)), some (.inl (pr_ + 1)), none] (by exact ⟨rfl, rfl, rfl, rfl, rfl, rfl, rfl, trivial⟩) ?_
            refine ih_ a_ b_ ((ap_ + 1) % 4096) (pr_ + 1) S_ hI_ hF_ ⟨?_, ?_, ?_, ?_, ?_, ?_, ?_, ?_, trivial⟩ ?_
            · exact hS_
            · omega
            · exact hbd_
            · exact hmn_
            · exact hn0_
            · exact hn1_
            · intro i_ hi_
              by_cases z_ : i_ < pr_.toNat
              · exact h2_ i_ z_
              · have zi_ : i_ = pr_.toNat := by omega
                have q9_ : hpl a_ b_ i_ = ap_.toNat := by rw [zi_]; unfold hpl; omega
                rw [q9_]
                exact ⟨by omega, fun w9_ => by omega⟩
            · exact hD_
            · omega
          · have cx53_ : ¬ ((S_.2.2.1 43 (0 + dd_) (S_.2.2.1 29 0 ap_.toNat).toNat) ≠ b_) := of_decide_eq_false cx53_
            refine sm_T_go 2 (c1 := (120, [some (.inr (.inr (some (1, 0)))), some (.inl x_), some (.inl y_), some (.inl a_), some (.inl b_), some (.inl ap_), some (.inl pr_), some (.inl (S_.2.2.1 29 0 ap_.toNat))], [.inl (S_.2.2.1 29 0 ap_.toNat), .inl 2], S_)) rfl ?_
            refine sm_T_bin (w := 2 * (S_.2.2.1 29 0 ap_.toNat)) rfl (bi_mul (by omega) (by omega) (by omega)) ?_
            refine sm_T_ri rfl ⟨_, _, rfl, _, rfl, hI_, hF_, ?_⟩
            refine ⟨hD_, ?_⟩
            have epp_ : G1_[k9_]? = some (a_, b_) := by rw [ep_]; have q1_ : px_ = a_ := (by rw [← ep2_.1]; omega); have q2_ : py_ = b_ := (by rw [← ep2_.2]; omega); rw [q1_, q2_]
            have ea_ : g_an F_ G1_ x_ y_ = (2 * ((F_ + k9_ : Nat) : Int), G1_) := by rw [g_an_mn hmn_, g_a2_f hn0_ hn1_ (g_fd_s x7_ epp_)]
            have hr_ := an_go (v_ := 2 * S_.2.2.1 29 0 ap_.toNat) (S1_ := S_) hG1_ hG2_ hab_ (Or.inl ⟨by rw [ea_]; exact hG1_, by rw [ea_, ek9_], rfl⟩)
            exact ⟨hr_.1, hr_.2, by omega⟩
set_option maxHeartbeats 2000000 in
set_option maxRecDepth 20000 in
theorem vc_44 {sc_ : Nat × (Nat → Int)} (x_ : Int) (y_ : Int) (dd_ : Nat) (F_ : Nat) (G_ : pGr) (A_ : Int) (B_ : Int) (S0_ : sm_S) (hI_ : gi S0_) (hd_ : S0_.2.1 1 0 1 = some dd_) (hg_ : cgl dd_ F_ G_ S0_) (hx_ : 0 ≤ x_ ∧ x_ ≤ 2025) (hy_ : 0 ≤ y_ ∧ y_ ≤ 2025) (hab_ : imq (G_.length ≤ 1000) (x_ = A_ ∧ y_ = B_)) : sm_T (mt_P sc_) 1 44 (0, [some (.inr (.inr (some (1, 0)))), some (.inl x_), some (.inl y_), none, none, none, none, none], [], S0_) (fun ro9_ => ∃ u_ S1_, ro9_ = (.inl u_, S1_, 0) ∧ vq_44 x_ y_ dd_ F_ G_ A_ B_ S0_ u_ S1_) := by
  have hF_ : ai_fr (sx_W vw_44) S0_ S0_ := ai_fr_rf
  have hD_ : idf dd_ S0_ S0_ := idf_rf
  obtain ⟨G1_, hG1_, hG2_⟩ := id hg_
  obtain ⟨x1_, x2_, x3_, x4_, x5_, x6_, x7_, x8_⟩ := id hG1_
  refine sm_T_go 2 (c1 := (2, [some (.inr (.inr (some (1, 0)))), some (.inl x_), some (.inl y_), none, none, none, none, none], [.inl y_, .inl x_], S0_)) rfl ?_
  refine sm_T_nt (u := some (.inl (sm_mn x_ y_))) (S1 := S0_) rfl rfl rfl ?_
  have bx1_ := sm_mn_d x_ y_
  refine sm_T_go 3 (c1 := (8, [some (.inr (.inr (some (1, 0)))), some (.inl x_), some (.inl y_), some (.inl (sm_mn x_ y_)), none, none, none, none], [.inl y_, .inl x_], S0_)) rfl ?_
  refine sm_T_nt (u := some (.inl (sm_mx x_ y_))) (S1 := S0_) rfl rfl rfl ?_
  have bx2_ := sm_mx_d x_ y_
  refine sm_T_go 2 (c1 := (14, [some (.inr (.inr (some (1, 0)))), some (.inl x_), some (.inl y_), some (.inl (sm_mn x_ y_)), some (.inl (sm_mx x_ y_)), none, none, none], [.inl (sm_mn x_ y_)], S0_)) rfl ?_
  refine sm_T_b0 (a := 0) (z := 11) rfl (fun cx3_ => ?_) (fun cx3_ => ?_)
  · have cx3_ : (sm_mn x_ y_) = 0 := of_decide_eq_true cx3_
    refine sm_T_go 1 (c1 := (26, [some (.inr (.inr (some (1, 0)))), some (.inl x_), some (.inl y_), some (.inl (sm_mn x_ y_)), some (.inl (sm_mx x_ y_)), none, none, none], [.inl 0], S0_)) rfl ?_
    refine sm_T_ri rfl ⟨_, _, rfl, _, rfl, hI_, hF_, ?_⟩
    refine ⟨hD_, ?_⟩
    have ea_ : g_an F_ G1_ x_ y_ = (0, G1_) := by rw [g_an_mn (a_ := sm_mn x_ y_) (b_ := sm_mx x_ y_) (by omega)]; unfold g_a2; rw [if_pos (by omega)]
    have hr_ := an_go (v_ := 0) hG1_ hG2_ hab_ (Or.inl ⟨by rw [ea_]; exact hG1_, by rw [ea_], rfl⟩)
    exact ⟨hr_.1, hr_.2, by omega⟩
  · have cx3_ : ¬ ((sm_mn x_ y_) = 0) := of_decide_eq_false cx3_
    refine sm_T_go 3 (c1 := (21, [some (.inr (.inr (some (1, 0)))), some (.inl x_), some (.inl y_), some (.inl (sm_mn x_ y_)), some (.inl (sm_mx x_ y_)), none, none, none], [.inl 1, .inl (sm_mx x_ y_), .inl (sm_mn x_ y_)], S0_)) rfl ?_
    refine sm_T_bin (w := (i_xor (sm_mx x_ y_) 1)) rfl rfl ?_
    have bx4_ := i_x1 (x_ := (sm_mx x_ y_)) (by omega)
    refine sm_T_br (a := 1) (z := 5) rfl (fun cx5_ => ?_) (fun cx5_ => ?_)
    · have cx5_ : (sm_mn x_ y_) ≠ (i_xor (sm_mx x_ y_) 1) := of_decide_eq_true cx5_
      refine sm_T_go 2 (c1 := (29, [some (.inr (.inr (some (1, 0)))), some (.inl x_), some (.inl y_), some (.inl (sm_mn x_ y_)), some (.inl (sm_mx x_ y_)), none, none, none], [.inl 1, .inl (sm_mn x_ y_)], S0_)) rfl ?_
      refine sm_T_br (a := 0) (z := 9) rfl (fun cx6_ => ?_) (fun cx6_ => ?_)
      · have cx6_ : (sm_mn x_ y_) = 1 := of_decide_eq_true cx6_
        refine sm_T_go 1 (c1 := (40, [some (.inr (.inr (some (1, 0)))), some (.inl x_), some (.inl y_), some (.inl (sm_mn x_ y_)), some (.inl (sm_mx x_ y_)), none, none, none], [.inl (sm_mx x_ y_)], S0_)) rfl ?_
        refine sm_T_ri rfl ⟨_, _, rfl, _, rfl, hI_, hF_, ?_⟩
        refine ⟨hD_, ?_⟩
        have ea_ : g_an F_ G1_ x_ y_ = (sm_mx x_ y_, G1_) := by rw [g_an_mn (a_ := sm_mn x_ y_) (b_ := sm_mx x_ y_) (by omega)]; unfold g_a2; rw [if_neg (by omega), if_pos (by omega)]
        have hr_ := an_go (v_ := sm_mx x_ y_) hG1_ hG2_ hab_ (Or.inl ⟨by rw [ea_]; exact hG1_, by rw [ea_], rfl⟩)
        exact ⟨hr_.1, hr_.2, by omega⟩
      · have cx6_ : ¬ ((sm_mn x_ y_) = 1) := of_decide_eq_false cx6_
        refine sm_T_go 2 (c1 := (35, [some (.inr (.inr (some (1, 0)))), some (.inl x_), some (.inl y_), some (.inl (sm_mn x_ y_)), some (.inl (sm_mx x_ y_)), none, none, none], [.inl (sm_mx x_ y_), .inl (sm_mn x_ y_)], S0_)) rfl ?_
        refine sm_T_br (a := 1) (z := 6) rfl (fun cx7_ => ?_) (fun cx7_ => ?_)
        · have cx7_ : (sm_mn x_ y_) ≠ (sm_mx x_ y_) := of_decide_eq_true cx7_
          refine sm_T_go 2 (c1 := (45, [some (.inr (.inr (some (1, 0)))), some (.inl x_), some (.inl y_), some (.inl (sm_mn x_ y_)), some (.inl (sm_mx x_ y_)), none, none, none], [.inl 2027, .inl (sm_mn x_ y_)], S0_)) rfl ?_
          refine sm_T_bin (w := 2027 * (sm_mn x_ y_)) rfl (bi_mul (by omega) (by omega) (by omega)) ?_
          refine sm_T_go 2 (c1 := (50, [some (.inr (.inr (some (1, 0)))), some (.inl x_), some (.inl y_), some (.inl (sm_mn x_ y_)), some (.inl (sm_mx x_ y_)), none, none, none], [.inl 31, .inl (sm_mx x_ y_), .inl (2027 * (sm_mn x_ y_))], S0_)) rfl ?_
          refine sm_T_bin (w := 31 * (sm_mx x_ y_)) rfl (bi_mul (by omega) (by omega) (by omega)) ?_
          refine sm_T_bin (w := 2027 * (sm_mn x_ y_) + 31 * (sm_mx x_ y_)) rfl (bi_add (by omega) (by omega) (by omega)) ?_
          refine sm_T_go 1 (c1 := (55, [some (.inr (.inr (some (1, 0)))), some (.inl x_), some (.inl y_), some (.inl (sm_mn x_ y_)), some (.inl (sm_mx x_ y_)), none, none, none], [.inl 4095, .inl (2027 * (sm_mn x_ y_) + 31 * (sm_mx x_ y_))], S0_)) rfl ?_
          refine sm_T_bin (w := ((2027 * (sm_mn x_ y_) + 31 * (sm_mx x_ y_)) % 4096)) rfl (bi_msk (k := 12) (by decide)) ?_
          refine sm_T_go 3 (c1 := (61, [some (.inr (.inr (some (1, 0)))), some (.inl x_), some (.inl y_), some (.inl (sm_mn x_ y_)), some (.inl (sm_mx x_ y_)), some (.inl ((2027 * (sm_mn x_ y_) + 31 * (sm_mx x_ y_)) % 4096)), some (.inl 0), none], [], S0_)) rfl ?_
          refine (vl_44 x_ y_ dd_ F_ G_ A_ B_ S0_ hd_ hg_ hx_ hy_ hab_ _) (sm_mn x_ y_) (sm_mx x_ y_) ((2027 * (sm_mn x_ y_) + 31 * (sm_mx x_ y_)) % 4096) 0 S0_ hI_ hF_ ⟨?_, ?_, ?_, ?_, ?_, ?_, ?_, ?_, trivial⟩ (Nat.lt_succ_self _)
          · rfl
          · omega
          · omega
          · omega
          · omega
          · omega
          · (intro i_ hi_; exact absurd hi_ (Nat.not_lt_zero _))
          · exact hD_
        · have cx7_ : ¬ ((sm_mn x_ y_) ≠ (sm_mx x_ y_)) := of_decide_eq_false cx7_
          refine sm_T_go 1 (c1 := (40, [some (.inr (.inr (some (1, 0)))), some (.inl x_), some (.inl y_), some (.inl (sm_mn x_ y_)), some (.inl (sm_mx x_ y_)), none, none, none], [.inl (sm_mx x_ y_)], S0_)) rfl ?_
          refine sm_T_ri rfl ⟨_, _, rfl, _, rfl, hI_, hF_, ?_⟩
          refine ⟨hD_, ?_⟩
          have ea_ : g_an F_ G1_ x_ y_ = (sm_mx x_ y_, G1_) := by rw [g_an_mn (a_ := sm_mn x_ y_) (b_ := sm_mx x_ y_) (by omega)]; unfold g_a2; rw [if_neg (by omega), if_pos (by omega)]
          have hr_ := an_go (v_ := sm_mx x_ y_) hG1_ hG2_ hab_ (Or.inl ⟨by rw [ea_]; exact hG1_, by rw [ea_], rfl⟩)
          exact ⟨hr_.1, hr_.2, by omega⟩
    · have cx5_ : ¬ ((sm_mn x_ y_) ≠ (i_xor (sm_mx x_ y_) 1)) := of_decide_eq_false cx5_
      refine sm_T_go 1 (c1 := (26, [some (.inr (.inr (some (1, 0)))), some (.inl x_), some (.inl y_), some (.inl (sm_mn x_ y_)), some (.inl (sm_mx x_ y_)), none, none, none], [.inl 0], S0_)) rfl ?_
      refine sm_T_ri rfl ⟨_, _, rfl, _, rfl, hI_, hF_, ?_⟩
      refine ⟨hD_, ?_⟩
      have ea_ : g_an F_ G1_ x_ y_ = (0, G1_) := by rw [g_an_mn (a_ := sm_mn x_ y_) (b_ := sm_mx x_ y_) (by omega)]; unfold g_a2; rw [if_pos (by omega)]
      have hr_ := an_go (v_ := 0) hG1_ hG2_ hab_ (Or.inl ⟨by rw [ea_]; exact hG1_, by rw [ea_], rfl⟩)
      exact ⟨hr_.1, hr_.2, by omega⟩
end
/-! 99.zb2a -/
section
/-! the class: OR, XOR, sums; written by wip/p55/gen/vg -/
/-! Builder.either -/
def vw_42 : sx_Wl := ([(1, 8), (3, 4)], [29, 42, 43], [])
def vq_42 (x_ : Int) (y_ : Int) (dd_ : Nat) (F_ : Nat) (G_ : pGr) (A_ : Int) (B_ : Int) (S0_ : sm_S) (u_ : Option sm_V) (S1_ : sm_S) : Prop := ∃ v_ : Int, u_ = some (.inl v_) ∧ gi S1_ ∧ ai_fr (sx_W vw_42) S0_ S1_ ∧ (idf dd_ S0_ S1_ ∧ (cgl dd_ F_ (g_or F_ G_ A_ B_).2 S1_ ∧ (imq ((g_or F_ G_ A_ B_).2.length ≤ 1000) (v_ = (g_or F_ G_ A_ B_).1)) ∧ (0 ≤ v_ ∧ v_ ≤ 2025)))
set_option maxHeartbeats 400000 in
theorem vc_42 {sc_ : Nat × (Nat → Int)} (x_ : Int) (y_ : Int) (dd_ : Nat) (F_ : Nat) (G_ : pGr) (A_ : Int) (B_ : Int) (S0_ : sm_S) (hI_ : gi S0_) (hd_ : S0_.2.1 1 0 1 = some dd_) (hg_ : cgl dd_ F_ G_ S0_) (hx_ : 0 ≤ x_ ∧ x_ ≤ 2025) (hy_ : 0 ≤ y_ ∧ y_ ≤ 2025) (hab_ : imq (G_.length ≤ 1000) (x_ = A_ ∧ y_ = B_)) : sm_T (mt_P sc_) 2 42 (0, [some (.inr (.inr (some (1, 0)))), some (.inl x_), some (.inl y_)], [], S0_) (fun ro9_ => ∃ u_ S1_, ro9_ = (.inl u_, S1_, 0) ∧ vq_42 x_ y_ dd_ F_ G_ A_ B_ S0_ u_ S1_) := by
  have hF_ : ai_fr (sx_W vw_42) S0_ S0_ := ai_fr_rf
  have hD_ : idf dd_ S0_ S0_ := idf_rf
  refine sm_T_go 3 (c1 := (3, [some (.inr (.inr (some (1, 0)))), some (.inl x_), some (.inl y_)], [.inl 1, .inl x_, .inr (.inr (some (1, 0)))], S0_)) rfl ?_
  refine sm_T_bin (w := (i_xor x_ 1)) rfl rfl ?_
  have bx1_ := i_x1 (x_ := x_) (by omega)
  refine sm_T_go 2 (c1 := (6, [some (.inr (.inr (some (1, 0)))), some (.inl x_), some (.inl y_)], [.inl 1, .inl y_, .inl (i_xor x_ 1), .inr (.inr (some (1, 0)))], S0_)) rfl ?_
  refine sm_T_bin (w := (i_xor y_ 1)) rfl rfl ?_
  have bx2_ := i_x1 (x_ := y_) (by omega)
  refine sm_T_cal (d1 := 1) (Q1 := vq_44 (i_xor x_ 1) (i_xor y_ 1) dd_ F_ G_ (i_xor A_ 1) (i_xor B_ 1) S0_) rfl rfl (by decide) (vc_44 (i_xor x_ 1) (i_xor y_ 1) dd_ F_ G_ (i_xor A_ 1) (i_xor B_ 1) S0_ hI_ (by exact hd_) (by exact hg_) (by omega) (by omega) (by (intro z_; have q_ := hab_ z_; rw [q_.1, q_.2]; exact ⟨rfl, rfl⟩))) (fun u_ Sx3_ px6_ => ?_)
  obtain ⟨vx8_, rfl, hIx4_, hFx5_, px6_⟩ := px6_
  have hFx7_ : ai_fr (sx_W vw_42) S0_ Sx3_ := ai_fr_tr hF_ (fr_le hFx5_ rfl)
  obtain ⟨dx10_, px6_⟩ := px6_
  have hDx9_ : idf dd_ S0_ Sx3_ := idf_tr hD_ dx10_
  have e7_ := px6_
  refine sm_T_go 1 (c1 := (11, [some (.inr (.inr (some (1, 0)))), some (.inl x_), some (.inl y_)], [.inl 1, .inl vx8_], Sx3_)) rfl ?_
  refine sm_T_bin (w := (i_xor vx8_ 1)) rfl rfl ?_
  have bx11_ := i_x1 (x_ := vx8_) (by omega)
  refine sm_T_ri rfl ⟨_, _, rfl, _, rfl, hIx4_, hFx7_, ?_⟩
  refine ⟨hDx9_, ?_⟩
  refine ⟨e7_.1, fun z_ => ?_, by omega⟩
  show _ = i_xor _ 1
  rw [e7_.2.1 z_]
end
/-! 99.zb2b -/
section
/-! Builder.differ -/
def vw_43 : sx_Wl := ([(1, 8), (3, 4)], [29, 42, 43], [])
def vq_43 (x_ : Int) (y_ : Int) (dd_ : Nat) (F_ : Nat) (G_ : pGr) (A_ : Int) (B_ : Int) (S0_ : sm_S) (u_ : Option sm_V) (S1_ : sm_S) : Prop := ∃ v_ : Int, u_ = some (.inl v_) ∧ gi S1_ ∧ ai_fr (sx_W vw_43) S0_ S1_ ∧ (idf dd_ S0_ S1_ ∧ (cgl dd_ F_ (g_xo F_ G_ A_ B_).2 S1_ ∧ (imq ((g_xo F_ G_ A_ B_).2.length ≤ 1000) (v_ = (g_xo F_ G_ A_ B_).1)) ∧ (0 ≤ v_ ∧ v_ ≤ 2025)))
set_option maxHeartbeats 400000 in
theorem vc_43 {sc_ : Nat × (Nat → Int)} (x_ : Int) (y_ : Int) (dd_ : Nat) (F_ : Nat) (G_ : pGr) (A_ : Int) (B_ : Int) (S0_ : sm_S) (hI_ : gi S0_) (hd_ : S0_.2.1 1 0 1 = some dd_) (hg_ : cgl dd_ F_ G_ S0_) (hx_ : 0 ≤ x_ ∧ x_ ≤ 2025) (hy_ : 0 ≤ y_ ∧ y_ ≤ 2025) (hab_ : imq (G_.length ≤ 1000) (x_ = A_ ∧ y_ = B_)) : sm_T (mt_P sc_) 2 43 (0, [some (.inr (.inr (some (1, 0)))), some (.inl x_), some (.inl y_), none], [], S0_) (fun ro9_ => ∃ u_ S1_, ro9_ = (.inl u_, S1_, 0) ∧ vq_43 x_ y_ dd_ F_ G_ A_ B_ S0_ u_ S1_) := by
  have hF_ : ai_fr (sx_W vw_43) S0_ S0_ := ai_fr_rf
  have hD_ : idf dd_ S0_ S0_ := idf_rf
  refine sm_T_go 4 (c1 := (4, [some (.inr (.inr (some (1, 0)))), some (.inl x_), some (.inl y_), none], [.inl 1, .inl y_, .inl x_, .inr (.inr (some (1, 0)))], S0_)) rfl ?_
  refine sm_T_bin (w := (i_xor y_ 1)) rfl rfl ?_
  have bx1_ := i_x1 (x_ := y_) (by omega)
  refine sm_T_cal (d1 := 1) (Q1 := vq_44 x_ (i_xor y_ 1) dd_ F_ G_ A_ (i_xor B_ 1) S0_) rfl rfl (by decide) (vc_44 x_ (i_xor y_ 1) dd_ F_ G_ A_ (i_xor B_ 1) S0_ hI_ (by exact hd_) (by exact hg_) (by omega) (by omega) (by (intro z_; have q_ := hab_ z_; rw [q_.1, q_.2]; exact ⟨rfl, rfl⟩))) (fun u_ Sx2_ px5_ => ?_)
  obtain ⟨vx7_, rfl, hIx3_, hFx4_, px5_⟩ := px5_
  have hFx6_ : ai_fr (sx_W vw_43) S0_ Sx2_ := ai_fr_tr hF_ (fr_le hFx4_ rfl)
  obtain ⟨dx9_, px5_⟩ := px5_
  have hDx8_ : idf dd_ S0_ Sx2_ := idf_tr hD_ dx9_
  have e5_ := px5_
  have l5_ := g_an_le (F_ := F_) (G_ := G_) (a_ := A_) (b_ := i_xor B_ 1)
  refine sm_T_go 4 (c1 := (12, [some (.inr (.inr (some (1, 0)))), some (.inl x_), some (.inl y_), some (.inl vx7_)], [.inl 1, .inl vx7_, .inr (.inr (some (1, 0)))], Sx2_)) rfl ?_
  refine sm_T_bin (w := (i_xor vx7_ 1)) rfl rfl ?_
  have bx10_ := i_x1 (x_ := vx7_) (by omega)
  refine sm_T_go 3 (c1 := (16, [some (.inr (.inr (some (1, 0)))), some (.inl x_), some (.inl y_), some (.inl vx7_)], [.inl 1, .inl x_, .inr (.inr (some (1, 0))), .inl (i_xor vx7_ 1), .inr (.inr (some (1, 0)))], Sx2_)) rfl ?_
  refine sm_T_bin (w := (i_xor x_ 1)) rfl rfl ?_
  have bx11_ := i_x1 (x_ := x_) (by omega)
  refine sm_T_go 1 (c1 := (18, [some (.inr (.inr (some (1, 0)))), some (.inl x_), some (.inl y_), some (.inl vx7_)], [.inl y_, .inl (i_xor x_ 1), .inr (.inr (some (1, 0))), .inl (i_xor vx7_ 1), .inr (.inr (some (1, 0)))], Sx2_)) rfl ?_
  refine sm_T_cal (d1 := 1) (Q1 := vq_44 (i_xor x_ 1) y_ dd_ F_ (g_an F_ G_ A_ (i_xor B_ 1)).2 (i_xor A_ 1) B_ Sx2_) rfl rfl (by decide) (vc_44 (i_xor x_ 1) y_ dd_ F_ (g_an F_ G_ A_ (i_xor B_ 1)).2 (i_xor A_ 1) B_ Sx2_ hIx3_ (by exact cgl_d e5_.1) (by exact e5_.1) (by omega) (by omega) (by (intro z_; have q_ := hab_ (by omega); rw [q_.1, q_.2]; exact ⟨rfl, rfl⟩))) (fun u_ Sx12_ px15_ => ?_)
  obtain ⟨vx17_, rfl, hIx13_, hFx14_, px15_⟩ := px15_
  have hFx16_ : ai_fr (sx_W vw_43) S0_ Sx12_ := ai_fr_tr hFx6_ (fr_le hFx14_ rfl)
  obtain ⟨dx19_, px15_⟩ := px15_
  have hDx18_ : idf dd_ S0_ Sx12_ := idf_tr hDx8_ dx19_
  have e18_ := px15_
  have l18_ := g_an_le (F_ := F_) (G_ := (g_an F_ G_ A_ (i_xor B_ 1)).2) (a_ := i_xor A_ 1) (b_ := B_)
  refine sm_T_go 1 (c1 := (22, [some (.inr (.inr (some (1, 0)))), some (.inl x_), some (.inl y_), some (.inl vx7_)], [.inl 1, .inl vx17_, .inl (i_xor vx7_ 1), .inr (.inr (some (1, 0)))], Sx12_)) rfl ?_
  refine sm_T_bin (w := (i_xor vx17_ 1)) rfl rfl ?_
  have bx20_ := i_x1 (x_ := vx17_) (by omega)
  refine sm_T_cal (d1 := 1) (Q1 := vq_44 (i_xor vx7_ 1) (i_xor vx17_ 1) dd_ F_ (g_an F_ (g_an F_ G_ A_ (i_xor B_ 1)).2 (i_xor A_ 1) B_).2 (i_xor (g_an F_ G_ A_ (i_xor B_ 1)).1 1) (i_xor (g_an F_ (g_an F_ G_ A_ (i_xor B_ 1)).2 (i_xor A_ 1) B_).1 1) Sx12_) rfl rfl (by decide) (vc_44 (i_xor vx7_ 1) (i_xor vx17_ 1) dd_ F_ (g_an F_ (g_an F_ G_ A_ (i_xor B_ 1)).2 (i_xor A_ 1) B_).2 (i_xor (g_an F_ G_ A_ (i_xor B_ 1)).1 1) (i_xor (g_an F_ (g_an F_ G_ A_ (i_xor B_ 1)).2 (i_xor A_ 1) B_).1 1) Sx12_ hIx13_ (by exact cgl_d e18_.1) (by exact e18_.1) (by omega) (by omega) (by (intro z_; rw [e18_.2.1 z_, e5_.2.1 (by omega)]; exact ⟨rfl, rfl⟩))) (fun u_ Sx21_ px24_ => ?_)
  obtain ⟨vx26_, rfl, hIx22_, hFx23_, px24_⟩ := px24_
  have hFx25_ : ai_fr (sx_W vw_43) S0_ Sx21_ := ai_fr_tr hFx16_ (fr_le hFx23_ rfl)
  obtain ⟨dx28_, px24_⟩ := px24_
  have hDx27_ : idf dd_ S0_ Sx21_ := idf_tr hDx18_ dx28_
  have e23_ := px24_
  refine sm_T_go 1 (c1 := (27, [some (.inr (.inr (some (1, 0)))), some (.inl x_), some (.inl y_), some (.inl vx7_)], [.inl 1, .inl vx26_], Sx21_)) rfl ?_
  refine sm_T_bin (w := (i_xor vx26_ 1)) rfl rfl ?_
  have bx29_ := i_x1 (x_ := vx26_) (by omega)
  refine sm_T_ri rfl ⟨_, _, rfl, _, rfl, hIx22_, hFx25_, ?_⟩
  refine ⟨hDx27_, ?_⟩
  refine ⟨e23_.1, fun z_ => ?_, by omega⟩
  show _ = i_xor _ 1
  rw [e23_.2.1 z_]
end
/-! 99.zb2c -/
section
/-! sums -/
theorem cgl_st {dd_ F_ : Nat} {G_ : pGr} {S_ : sm_S} {k_ : Nat} {z_ : Int} (h_ : cgl dd_ F_ G_ S_) : cgl dd_ F_ G_ (sm_aI S_ 27 0 k_ z_) := cgl_fr (w_ := ([], [27], [])) h_ (ai_fr_aI rfl) rfl rfl rfl rfl rfl rfl rfl rfl
theorem g_su_c {F_ : Nat} {G_ : pGr} {c_ a_ b_ : Int} {x_ y_ d_ : List Int} : (d_ ++ (g_su F_ G_ c_ (a_ :: x_) (b_ :: y_)).1, (g_su F_ G_ c_ (a_ :: x_) (b_ :: y_)).2) = ((d_ ++ [(g_s3 F_ G_ c_ a_ b_).1]) ++ (g_su F_ (g_s3 F_ G_ c_ a_ b_).2.2 (g_s3 F_ G_ c_ a_ b_).2.1 x_ y_).1, (g_su F_ (g_s3 F_ G_ c_ a_ b_).2.2 (g_s3 F_ G_ c_ a_ b_).2.1 x_ y_).2) := by
  rw [List.append_assoc]
  rfl
theorem g_z2_c {op_ : pGr → Int → Int → Int × pGr} {G_ : pGr} {a_ b_ : Int} {x_ y_ d_ : List Int} : (d_ ++ (g_z2 op_ G_ (a_ :: x_) (b_ :: y_)).1, (g_z2 op_ G_ (a_ :: x_) (b_ :: y_)).2) = ((d_ ++ [(op_ G_ a_ b_).1]) ++ (g_z2 op_ (op_ G_ a_ b_).2 x_ y_).1, (g_z2 op_ (op_ G_ a_ b_).2 x_ y_).2) := by
  rw [List.append_assoc]
  rfl
end
/-! 99.zb2d -/
section
/-! Builder.sum -/
def vw_41 : sx_Wl := ([(1, 8), (3, 4)], [27, 29, 42, 43], [])
def vq_41 (a_ : Int) (b_ : Int) (nb_ : Int) (dd_ : Nat) (F_ : Nat) (G_ : pGr) (x_ : List Int) (y_ : List Int) (S0_ : sm_S) (u_ : Option sm_V) (S1_ : sm_S) : Prop := u_ = none ∧ gi S1_ ∧ ai_fr (sx_W vw_41) S0_ S1_ ∧ (idf dd_ S0_ S1_ ∧ (cgl dd_ F_ (g_su F_ G_ 0 x_ y_).2 S1_ ∧ (imq ((g_su F_ G_ 0 x_ y_).2.length ≤ 1000) (rwv (S1_.2.2.1 27 0) a_.toNat (g_su F_ G_ 0 x_ y_).1)) ∧ ∀ j_ : Nat, j_ < a_.toNat ∨ a_.toNat + 8 ≤ j_ → S1_.2.2.1 27 0 j_ = S0_.2.2.1 27 0 j_))
set_option maxHeartbeats 1500000 in
theorem vl_41 {sc_ : Nat × (Nat → Int)} (a_ : Int) (b_ : Int) (nb_ : Int) (dd_ : Nat) (F_ : Nat) (G_ : pGr) (x_ : List Int) (y_ : List Int) (S0_ : sm_S) (hd_ : S0_.2.1 1 0 1 = some dd_) (hg_ : cgl dd_ F_ G_ S0_) (ha_ : 0 ≤ a_ ∧ a_ + 8 ≤ b_ ∧ b_ + 8 ≤ 4096) (hn_ : nb_ = (x_.length : Int) ∧ x_.length = y_.length ∧ x_.length ≤ 8) (hr_ : imq (G_.length ≤ 1000) (rwv (S0_.2.2.1 27 0) a_.toNat x_ ∧ rwv (S0_.2.2.1 27 0) b_.toNat y_)) : ∀ nn_ : Nat, (∀ (cy_ : Int) (k_ : Int) (S_ : sm_S), gi S_ → ai_fr (sx_W vw_41) S0_ S_ → (((0 ≤ k_ ∧ k_ ≤ nb_) ∧ 0 ≤ cy_ ∧ cy_ ≤ 2025) ∧ (∃ (G1_ : pGr) (c1_ : Int) (d_ r_ e_ s_ : List Int), cgl dd_ F_ G1_ S_ ∧ (d_.length : Int) = k_ ∧ (e_.length : Int) = k_ ∧ r_.length = s_.length ∧ k_ + r_.length = nb_ ∧ y_ = e_ ++ s_ ∧ (imq (G1_.length ≤ 1000) (cy_ = c1_ ∧ rwv (S_.2.2.1 27 0) a_.toNat (d_ ++ r_) ∧ rwv (S_.2.2.1 27 0) b_.toNat y_)) ∧ (g_su F_ G_ 0 x_ y_) = (d_ ++ (g_su F_ G1_ c1_ r_ s_).1, (g_su F_ G1_ c1_ r_ s_).2)) ∧ (∀ j_ : Nat, j_ < a_.toNat ∨ a_.toNat + 8 ≤ j_ → S_.2.2.1 27 0 j_ = S0_.2.2.1 27 0 j_) ∧ (idf dd_ S0_ S_) ∧ True) → ((nb_ - k_).toNat) < nn_ → sm_T (mt_P sc_) 3 41 (6, [some (.inr (.inr (some (1, 0)))), some (.inl a_), some (.inl b_), some (.inl nb_), some (.inl cy_), some (.inl k_), none, none, none, none], [], S_) (fun ro9_ => ∃ u_ S1_, ro9_ = (.inl u_, S1_, 0) ∧ vq_41 a_ b_ nb_ dd_ F_ G_ x_ y_ S0_ u_ S1_)) := by
  intro nn_
  induction nn_ with
  | zero => exact fun _ _ _ _ _ _ h_ => absurd h_ (Nat.not_lt_zero _)
  | succ nn_ ih_ =>
    rintro cy_ k_ S_ hI_ hF_ ⟨h0_, h1_, h2_, hD_, -⟩ hm_
    obtain ⟨G1_, c1_, d_, r_, e_, s_, z1_, z2_, z2b, z3_, z4_, z5_, z6_, z8_⟩ := h1_
    refine sm_T_go 2 (c1 := (9, [some (.inr (.inr (some (1, 0)))), some (.inl a_), some (.inl b_), some (.inl nb_), some (.inl cy_), some (.inl k_), none, none, none, none], [.inl nb_, .inl k_], S_)) rfl ?_
    refine sm_T_br (a := 3) (z := 84) rfl (fun cx1_ => ?_) (fun cx1_ => ?_)
    · have cx1_ : nb_ ≤ k_ := of_decide_eq_true cx1_
      refine sm_T_rv rfl ⟨_, _, rfl, rfl, hI_, hF_, ?_⟩
      refine ⟨hD_, ?_⟩
      have kr_ : r_ = [] := List.eq_nil_of_length_eq_zero (by omega)
      have ks_ : s_ = [] := List.eq_nil_of_length_eq_zero (by omega)
      rw [kr_, ks_] at z8_
      have q8_ : g_su F_ G1_ c1_ [] [] = ([], G1_) := rfl
      rw [q8_, List.append_nil] at z8_
      rw [z8_]
      refine ⟨z1_, fun z_ => ?_, h2_⟩
      have q9_ := (z6_ z_).2.1
      rw [kr_, List.append_nil] at q9_
      exact q9_
    · have cx1_ : ¬ (nb_ ≤ k_) := of_decide_eq_false cx1_
      obtain ⟨r0_, r_, rfl⟩ : ∃ r0_ r1_, r_ = r0_ :: r1_ := by cases r_ with | nil => (simp only [List.length_nil] at z4_; omega) | cons p_ q_ => exact ⟨p_, q_, rfl⟩
      obtain ⟨s0_, s_, rfl⟩ : ∃ s0_ s1_, s_ = s0_ :: s1_ := by cases s_ with | nil => (simp only [List.length_nil, List.length_cons] at z3_ z4_; omega) | cons p_ q_ => exact ⟨p_, q_, rfl⟩
      have rx : imq (G1_.length ≤ 1000) (S_.2.2.1 27 0 (a_ + k_).toNat = r0_ ∧ S_.2.2.1 27 0 (b_ + k_).toNat = s0_) := fun z_ => by rw [show (a_ + k_).toNat = a_.toNat + d_.length by omega, show (b_ + k_).toNat = b_.toNat + e_.length by omega]; exact ⟨rwv_m (z6_ z_).2.1, rwv_m (by rw [← z5_]; exact (z6_ z_).2.2)⟩
      obtain ⟨P1_, hP1_⟩ : ∃ z_, z_ = g_xo F_ G1_ r0_ s0_ := ⟨_, rfl⟩
      have lP1_ : G1_.length ≤ P1_.2.length := by rw [hP1_]; exact g_xo_le
      obtain ⟨P2_, hP2_⟩ : ∃ z_, z_ = g_xo F_ P1_.2 P1_.1 c1_ := ⟨_, rfl⟩
      have lP2_ : P1_.2.length ≤ P2_.2.length := by rw [hP2_]; exact g_xo_le
      obtain ⟨P3_, hP3_⟩ : ∃ z_, z_ = g_an F_ P2_.2 r0_ s0_ := ⟨_, rfl⟩
      have lP3_ : P2_.2.length ≤ P3_.2.length := by rw [hP3_]; exact g_an_le.1
      obtain ⟨P4_, hP4_⟩ : ∃ z_, z_ = g_an F_ P3_.2 P1_.1 c1_ := ⟨_, rfl⟩
      have lP4_ : P3_.2.length ≤ P4_.2.length := by rw [hP4_]; exact g_an_le.1
      obtain ⟨P5_, hP5_⟩ : ∃ z_, z_ = g_or F_ P4_.2 P3_.1 P4_.1 := ⟨_, rfl⟩
      have lP5_ : P4_.2.length ≤ P5_.2.length := by rw [hP5_]; exact g_or_le
      have hs3_ : g_s3 F_ G1_ c1_ r0_ s0_ = (P2_.1, P5_.1, P5_.2) := by rw [hP5_, hP4_, hP3_, hP2_, hP1_]; rfl
      refine sm_T_go 4 (c1 := (19, [some (.inr (.inr (some (1, 0)))), some (.inl a_), some (.inl b_), some (.inl nb_), some (.inl cy_), some (.inl k_), none, none, none, none], [.inl k_, .inl a_, .inr (.inr (some (27, 0)))], S_)) rfl ?_
      refine sm_T_bin (w := a_ + k_) rfl (bi_add (by omega) (by omega) (by omega)) ?_
      refine sm_T_iald (n := 4096) rfl rfl (by omega) (by omega) ?_
      have bx2_ : 0 ≤ S_.2.2.1 27 0 (a_ + k_).toNat ∧ S_.2.2.1 27 0 (a_ + k_).toNat ≤ 2025 := hI_.2 27 0 _
      refine sm_T_go 5 (c1 := (30, [some (.inr (.inr (some (1, 0)))), some (.inl a_), some (.inl b_), some (.inl nb_), some (.inl cy_), some (.inl k_), some (.inl (S_.2.2.1 27 0 (a_ + k_).toNat)), none, none, none], [.inl k_, .inl b_, .inr (.inr (some (27, 0)))], S_)) rfl ?_
      refine sm_T_bin (w := b_ + k_) rfl (bi_add (by omega) (by omega) (by omega)) ?_
      refine sm_T_iald (n := 4096) rfl rfl (by omega) (by omega) ?_
      have bx3_ : 0 ≤ S_.2.2.1 27 0 (b_ + k_).toNat ∧ S_.2.2.1 27 0 (b_ + k_).toNat ≤ 2025 := hI_.2 27 0 _
      refine sm_T_go 4 (c1 := (39, [some (.inr (.inr (some (1, 0)))), some (.inl a_), some (.inl b_), some (.inl nb_), some (.inl cy_), some (.inl k_), some (.inl (S_.2.2.1 27 0 (a_ + k_).toNat)), some (.inl (S_.2.2.1 27 0 (b_ + k_).toNat)), none, none], [.inl (S_.2.2.1 27 0 (b_ + k_).toNat), .inl (S_.2.2.1 27 0 (a_ + k_).toNat), .inr (.inr (some (1, 0)))], S_)) rfl ?_
      refine sm_T_cal (d1 := 2) (Q1 := vq_43 (S_.2.2.1 27 0 (a_ + k_).toNat) (S_.2.2.1 27 0 (b_ + k_).toNat) dd_ F_ G1_ r0_ s0_ S_) rfl rfl (by decide) (vc_43 (S_.2.2.1 27 0 (a_ + k_).toNat) (S_.2.2.1 27 0 (b_ + k_).toNat) dd_ F_ G1_ r0_ s0_ S_ hI_ (by exact cgl_d z1_) (by exact z1_) (by omega) (by omega) (by exact rx)) (fun u_ Sx4_ px7_ => ?_)
      obtain ⟨vx9_, rfl, hIx5_, hFx6_, px7_⟩ := px7_
      have hFx8_ : ai_fr (sx_W vw_41) S0_ Sx4_ := ai_fr_tr hF_ (fr_le hFx6_ rfl)
      obtain ⟨dx11_, px7_⟩ := px7_
      have hDx10_ : idf dd_ S0_ Sx4_ := idf_tr hD_ dx11_
      have e39_ := px7_
      rw [← hP1_] at e39_
      have f39_ : Sx4_.2.2.1 27 0 = S_.2.2.1 27 0 := fr_arr hFx6_ rfl
      refine sm_T_go 5 (c1 := (51, [some (.inr (.inr (some (1, 0)))), some (.inl a_), some (.inl b_), some (.inl nb_), some (.inl cy_), some (.inl k_), some (.inl (S_.2.2.1 27 0 (a_ + k_).toNat)), some (.inl (S_.2.2.1 27 0 (b_ + k_).toNat)), some (.inl vx9_), none], [.inl k_, .inl a_, .inr (.inr (some (27, 0)))], Sx4_)) rfl ?_
      refine sm_T_bin (w := a_ + k_) rfl (bi_add (by omega) (by omega) (by omega)) ?_
      refine sm_T_go 3 (c1 := (57, [some (.inr (.inr (some (1, 0)))), some (.inl a_), some (.inl b_), some (.inl nb_), some (.inl cy_), some (.inl k_), some (.inl (S_.2.2.1 27 0 (a_ + k_).toNat)), some (.inl (S_.2.2.1 27 0 (b_ + k_).toNat)), some (.inl vx9_), none], [.inl cy_, .inl vx9_, .inr (.inr (some (1, 0))), .inl (a_ + k_), .inr (.inr (some (27, 0)))], Sx4_)) rfl ?_
      refine sm_T_cal (d1 := 2) (Q1 := vq_43 vx9_ cy_ dd_ F_ P1_.2 P1_.1 c1_ Sx4_) rfl rfl (by decide) (vc_43 vx9_ cy_ dd_ F_ P1_.2 P1_.1 c1_ Sx4_ hIx5_ (by exact cgl_d e39_.1) (by exact e39_.1) (by omega) (by omega) (by (intro z_; exact ⟨e39_.2.1 z_, (z6_ (by omega)).1⟩))) (fun u_ Sx12_ px15_ => ?_)
      obtain ⟨vx17_, rfl, hIx13_, hFx14_, px15_⟩ := px15_
      have hFx16_ : ai_fr (sx_W vw_41) S0_ Sx12_ := ai_fr_tr hFx8_ (fr_le hFx14_ rfl)
      obtain ⟨dx19_, px15_⟩ := px15_
      have hDx18_ : idf dd_ S0_ Sx12_ := idf_tr hDx10_ dx19_
      have e57_ := px15_
      rw [← hP2_] at e57_
      have f57_ : Sx12_.2.2.1 27 0 = S_.2.2.1 27 0 := (fr_arr hFx14_ rfl).trans f39_
      have g57_ : ∀ j9_ : Nat, (sm_aI Sx12_ 27 0 (a_ + k_).toNat vx17_).2.2.1 27 0 j9_ = if j9_ = (a_ + k_).toNat then vx17_ else S_.2.2.1 27 0 j9_ := fun j9_ => by rw [rd_eq, f57_]
      refine sm_T_iast (n := 4096) rfl rfl (by omega) (by omega) ?_
      have hIx20_ : gi (sm_aI Sx12_ 27 0 (a_ + k_).toNat vx17_) := gi_aI hIx13_ (show 0 ≤ vx17_ ∧ vx17_ ≤ 2025 from ⟨by omega, by omega⟩)
      have hFx21_ : ai_fr (sx_W vw_41) S0_ (sm_aI Sx12_ 27 0 (a_ + k_).toNat vx17_) := ai_fr_tr hFx16_ (ai_fr_aI rfl)
      have hDx22_ : idf dd_ S0_ (sm_aI Sx12_ 27 0 (a_ + k_).toNat vx17_) := idf_aI hDx18_ (Or.inl (by decide))
      refine sm_T_go 3 (c1 := (66, [some (.inr (.inr (some (1, 0)))), some (.inl a_), some (.inl b_), some (.inl nb_), some (.inl cy_), some (.inl k_), some (.inl (S_.2.2.1 27 0 (a_ + k_).toNat)), some (.inl (S_.2.2.1 27 0 (b_ + k_).toNat)), some (.inl vx9_), none], [.inl (S_.2.2.1 27 0 (b_ + k_).toNat), .inl (S_.2.2.1 27 0 (a_ + k_).toNat), .inr (.inr (some (1, 0)))], sm_aI Sx12_ 27 0 (a_ + k_).toNat vx17_)) rfl ?_
      refine sm_T_cal (d1 := 1) (Q1 := vq_44 (S_.2.2.1 27 0 (a_ + k_).toNat) (S_.2.2.1 27 0 (b_ + k_).toNat) dd_ F_ P2_.2 r0_ s0_ (sm_aI Sx12_ 27 0 (a_ + k_).toNat vx17_)) rfl rfl (by decide) (vc_44 (S_.2.2.1 27 0 (a_ + k_).toNat) (S_.2.2.1 27 0 (b_ + k_).toNat) dd_ F_ P2_.2 r0_ s0_ (sm_aI Sx12_ 27 0 (a_ + k_).toNat vx17_) hIx20_ (by exact cgl_d (cgl_st e57_.1)) (by exact cgl_st e57_.1) (by omega) (by omega) (by (intro z_; exact rx (by omega)))) (fun u_ Sx23_ px26_ => ?_)
      obtain ⟨vx28_, rfl, hIx24_, hFx25_, px26_⟩ := px26_
      have hFx27_ : ai_fr (sx_W vw_41) S0_ Sx23_ := ai_fr_tr hFx21_ (fr_le hFx25_ rfl)
      obtain ⟨dx30_, px26_⟩ := px26_
      have hDx29_ : idf dd_ S0_ Sx23_ := idf_tr hDx22_ dx30_
      have e66_ := px26_
      rw [← hP3_] at e66_
      have g66_ := g57_
      rw [← fr_arr (t := 27) (i := 0) hFx25_ rfl] at g66_
      refine sm_T_go 6 (c1 := (79, [some (.inr (.inr (some (1, 0)))), some (.inl a_), some (.inl b_), some (.inl nb_), some (.inl cy_), some (.inl k_), some (.inl (S_.2.2.1 27 0 (a_ + k_).toNat)), some (.inl (S_.2.2.1 27 0 (b_ + k_).toNat)), some (.inl vx9_), some (.inl vx28_)], [.inl cy_, .inl vx9_, .inr (.inr (some (1, 0))), .inl vx28_, .inr (.inr (some (1, 0)))], Sx23_)) rfl ?_
      refine sm_T_cal (d1 := 1) (Q1 := vq_44 vx9_ cy_ dd_ F_ P3_.2 P1_.1 c1_ Sx23_) rfl rfl (by decide) (vc_44 vx9_ cy_ dd_ F_ P3_.2 P1_.1 c1_ Sx23_ hIx24_ (by exact cgl_d e66_.1) (by exact e66_.1) (by omega) (by omega) (by (intro z_; exact ⟨e39_.2.1 (by omega), (z6_ (by omega)).1⟩))) (fun u_ Sx31_ px34_ => ?_)
      obtain ⟨vx36_, rfl, hIx32_, hFx33_, px34_⟩ := px34_
      have hFx35_ : ai_fr (sx_W vw_41) S0_ Sx31_ := ai_fr_tr hFx27_ (fr_le hFx33_ rfl)
      obtain ⟨dx38_, px34_⟩ := px34_
      have hDx37_ : idf dd_ S0_ Sx31_ := idf_tr hDx29_ dx38_
      have e79_ := px34_
      rw [← hP4_] at e79_
      have g79_ := g66_
      rw [← fr_arr (t := 27) (i := 0) hFx33_ rfl] at g79_
      refine sm_T_cal (d1 := 2) (Q1 := vq_42 vx28_ vx36_ dd_ F_ P4_.2 P3_.1 P4_.1 Sx31_) rfl rfl (by decide) (vc_42 vx28_ vx36_ dd_ F_ P4_.2 P3_.1 P4_.1 Sx31_ hIx32_ (by exact cgl_d e79_.1) (by exact e79_.1) (by omega) (by omega) (by (intro z_; exact ⟨e66_.2.1 (by omega), e79_.2.1 (by omega)⟩))) (fun u_ Sx39_ px42_ => ?_)
      obtain ⟨vx44_, rfl, hIx40_, hFx41_, px42_⟩ := px42_
      have hFx43_ : ai_fr (sx_W vw_41) S0_ Sx39_ := ai_fr_tr hFx35_ (fr_le hFx41_ rfl)
      obtain ⟨dx46_, px42_⟩ := px42_
      have hDx45_ : idf dd_ S0_ Sx39_ := idf_tr hDx37_ dx46_
      have e82_ := px42_
      rw [← hP5_] at e82_
      have g82_ := g79_
      rw [← fr_arr (t := 27) (i := 0) hFx41_ rfl] at g82_
      refine sm_T_go 1 (c1 := (87, [some (.inr (.inr (some (1, 0)))), some (.inl a_), some (.inl b_), some (.inl nb_), some (.inl vx44_), some (.inl k_), some (.inl (S_.2.2.1 27 0 (a_ + k_).toNat)), some (.inl (S_.2.2.1 27 0 (b_ + k_).toNat)), some (.inl vx9_), some (.inl vx28_)], [], Sx39_)) rfl ?_
      refine sm_T_inc (a := 5) (z := 1) (v := k_) (w := k_ + 1) rfl rfl (by omega) (by omega) (by omega) ?_
      refine sm_T_go 1 (c1 := (6, [some (.inr (.inr (some (1, 0)))), some (.inl a_), some (.inl b_), some (.inl nb_), some (.inl vx44_), some (.inl (k_ + 1)), some (.inl (S_.2.2.1 27 0 (a_ + k_).toNat)), some (.inl (S_.2.2.1 27 0 (b_ + k_).toNat)), some (.inl vx9_), some (.inl vx28_)], [], Sx39_)) rfl ?_
      refine sm_T_wk [some (.inr (.inr (some (1, 0)))), some (.inl a_), some (.inl b_), some (.inl nb_), some (.inl vx44_), some (.inl (k_ + 1)), none, none, none, none] (by exact ⟨rfl, rfl, rfl, rfl, rfl, rfl, trivial⟩) ?_
      refine ih_ vx44_ (k_ + 1) Sx39_ hIx40_ hFx43_ ⟨?_, ?_, ?_, ?_, trivial⟩ ?_
      · omega
      · refine ⟨P5_.2, P5_.1, d_ ++ [P2_.1], r_, e_ ++ [s0_], s_, e82_.1, ?_, ?_, ?_, ?_, ?_, fun z_ => ?_, ?_⟩
        · simp only [List.length_append, List.length_cons, List.length_nil]; push_cast; omega
        · simp only [List.length_append, List.length_cons, List.length_nil]; push_cast; omega
        · simp only [List.length_cons] at z3_; omega
        · simp only [List.length_cons] at z4_; push_cast at z4_; omega
        · rw [z5_, List.append_assoc]; rfl
        · have q1_ := z6_ (by omega)
          refine ⟨e82_.2.1 z_, ?_, ?_⟩
          · exact rwv_set (q_ := (a_ + k_).toNat) q1_.2.1 (by omega) (fun j_ => by rw [g82_, e57_.2.1 (by omega)])
          · exact rwv_cg q1_.2.2 (fun j_ hj_ => by rw [g82_, if_neg (by omega)])
        · rw [z8_, g_su_c, hs3_]
      · intro j_ hj_
        rw [g82_, if_neg (by omega)]
        exact h2_ j_ hj_
      · exact hDx45_
      · omega
set_option maxHeartbeats 1500000 in
theorem vc_41 {sc_ : Nat × (Nat → Int)} (a_ : Int) (b_ : Int) (nb_ : Int) (dd_ : Nat) (F_ : Nat) (G_ : pGr) (x_ : List Int) (y_ : List Int) (S0_ : sm_S) (hI_ : gi S0_) (hd_ : S0_.2.1 1 0 1 = some dd_) (hg_ : cgl dd_ F_ G_ S0_) (ha_ : 0 ≤ a_ ∧ a_ + 8 ≤ b_ ∧ b_ + 8 ≤ 4096) (hn_ : nb_ = (x_.length : Int) ∧ x_.length = y_.length ∧ x_.length ≤ 8) (hr_ : imq (G_.length ≤ 1000) (rwv (S0_.2.2.1 27 0) a_.toNat x_ ∧ rwv (S0_.2.2.1 27 0) b_.toNat y_)) : sm_T (mt_P sc_) 3 41 (0, [some (.inr (.inr (some (1, 0)))), some (.inl a_), some (.inl b_), some (.inl nb_), none, none, none, none, none, none], [], S0_) (fun ro9_ => ∃ u_ S1_, ro9_ = (.inl u_, S1_, 0) ∧ vq_41 a_ b_ nb_ dd_ F_ G_ x_ y_ S0_ u_ S1_) := by
  have hF_ : ai_fr (sx_W vw_41) S0_ S0_ := ai_fr_rf
  have hD_ : idf dd_ S0_ S0_ := idf_rf
  refine sm_T_go 4 (c1 := (6, [some (.inr (.inr (some (1, 0)))), some (.inl a_), some (.inl b_), some (.inl nb_), some (.inl 0), some (.inl 0), none, none, none, none], [], S0_)) rfl ?_
  refine (vl_41 a_ b_ nb_ dd_ F_ G_ x_ y_ S0_ hd_ hg_ ha_ hn_ hr_ _) 0 0 S0_ hI_ hF_ ⟨?_, ?_, ?_, ?_, trivial⟩ (Nat.lt_succ_self _)
  · omega
  · exact ⟨G_, 0, [], x_, [], y_, hg_, rfl, rfl, hn_.2.1, by omega, rfl, fun z_ => ⟨rfl, hr_ z_⟩, rfl⟩
  · (intro j_ hj_; rfl)
  · exact hD_
end
/-! 99.zb3a -/
section
/-! the class: choices; written by wip/p55/gen/vg -/

/-! operators -/
theorem rwv_ap {st_ st'_ : Nat → Int} {p_ q_ : Nat} {d_ : List Int} {z_ : Int} (h_ : rwv st_ p_ d_) (hq_ : q_ = p_ + d_.length) (hs_ : ∀ k_, st'_ k_ = if k_ = q_ then z_ else st_ k_) : rwv st'_ p_ (d_ ++ [z_]) := by
  intro k_ x_ e_
  rw [hs_]
  by_cases g_ : k_ < d_.length
  · rw [if_neg (by omega)]
    rw [List.getElem?_append_left g_] at e_
    exact h_ k_ x_ e_
  · rw [List.getElem?_append_right (by omega)] at e_
    by_cases g2_ : k_ = d_.length
    · rw [if_pos (by omega)]
      rw [show k_ - d_.length = 0 by omega] at e_
      exact Option.some.inj e_
    · rw [show k_ - d_.length = (k_ - d_.length - 1) + 1 by omega, List.getElem?_cons_succ] at e_
      simp at e_
theorem e_op6 {F_ : Nat} {G_ : pGr} {V_ : gV} {r_ : pGr × gV} (h_ : e_op F_ 6 G_ V_ = some r_) : ∃ x_ l_, V_ = x_ :: l_ ∧ r_ = (G_, x_.map (fun z_ => i_xor z_ 1) :: l_) := by
  unfold e_op at h_
  rw [if_pos rfl] at h_
  cases V_ with
  | nil => cases h_
  | cons x_ l_ => cases h_; exact ⟨x_, l_, rfl, rfl⟩
theorem e_op7 {F_ : Nat} {G_ : pGr} {V_ : gV} {r_ : pGr × gV} (h_ : e_op F_ 7 G_ V_ = some r_) : ∃ e_ a_ c_ l_, V_ = e_ :: a_ :: [c_] :: l_ ∧ a_.length = e_.length ∧ r_ = ((g_ch F_ c_ G_ a_ e_).2, (g_ch F_ c_ G_ a_ e_).1 :: l_) := by
  unfold e_op at h_
  rw [if_neg (by decide), if_pos rfl] at h_
  split at h_
  · rename_i e_ a_ c_ l_
    split at h_
    · rename_i g_
      cases h_
      exact ⟨e_, a_, c_, l_, rfl, g_.1, rfl⟩
    · cases h_
  · cases h_
theorem e_opb {F_ : Nat} {k_ : Int} {G_ : pGr} {V_ : gV} {r_ : pGr × gV} (h_ : e_op F_ k_ G_ V_ = some r_) (h6_ : k_ ≠ 6) (h7_ : k_ ≠ 7) : (1 ≤ k_ ∧ k_ ≤ 5) ∧ ∃ y_ x_ l_, V_ = y_ :: x_ :: l_ ∧ x_.length = y_.length ∧ 1 ≤ x_.length ∧ r_ = ((g_op F_ k_ G_ x_ y_).2, (g_op F_ k_ G_ x_ y_).1 :: l_) := by
  unfold e_op at h_
  rw [if_neg h6_, if_neg h7_] at h_
  split at h_
  · rename_i g0_
    split at h_
    · rename_i y_ x_ l_
      split at h_
      · rename_i g_
        cases h_
        exact ⟨g0_, y_, x_, l_, rfl, g_.1, g_.2, rfl⟩
      · cases h_
    · cases h_
  · cases h_
theorem g_op5 {F_ : Nat} {G_ : pGr} {x_ y_ : List Int} : g_op F_ 5 G_ x_ y_ = g_su F_ G_ 0 x_ y_ := if_pos rfl
theorem g_op4 {F_ : Nat} {G_ : pGr} {x_ y_ : List Int} : g_op F_ 4 G_ x_ y_ = g_sa F_ G_ x_ y_ := by
  unfold g_op
  rw [if_neg (by decide), if_pos rfl]
theorem g_opw {F_ : Nat} {k_ : Int} {G_ : pGr} {x_ y_ : List Int} (h5_ : k_ ≠ 5) (h4_ : k_ ≠ 4) : g_op F_ k_ G_ x_ y_ = g_z2 (g_bw F_ k_) G_ x_ y_ := by
  unfold g_op
  rw [if_neg h5_, if_neg h4_]
def cstk (G_ : pGr) (V_ : gV) (S_ : sm_S) : Prop := S_.1 1 0 6 = (V_.length : Int) ∧ svl (G_.length ≤ 1000) (S_.2.2.1 27 0) (S_.2.2.1 28 0) V_
/-- the_ top_ of_ the_ stack anew -/
theorem svl_tp {ok_ ok'_ : Prop} {st_ st'_ wd_ wd'_ : Nat → Int} {l_ : gV} {v_ : List Int} (h_ : svl ok_ st_ wd_ l_) (h0_ : ok'_ → ok_) (h1_ : ∀ j_, j_ < 8 * l_.length → st'_ j_ = st_ j_) (h2_ : ∀ j_, j_ < l_.length → wd'_ j_ = wd_ j_) (h3_ : wd'_ l_.length = (v_.length : Int)) (h4_ : 1 ≤ v_.length ∧ v_.length ≤ 8) (h5_ : ok'_ → rwv st'_ (8 * l_.length) v_) : svl ok'_ st'_ wd'_ (v_ :: l_) := ⟨h3_, h4_, h5_, svl_up h_ h0_ h1_ h2_⟩
end
/-! 99.zb3b -/
section
/-! Builder.choose -/
def vw_40 : sx_Wl := ([(1, 6), (1, 8), (3, 4)], [27, 28, 29, 42, 43], [])
def vq_40 (dd_ : Nat) (F_ : Nat) (G_ : pGr) (c_ : Int) (va_ : List Int) (ve_ : List Int) (l_ : gV) (S0_ : sm_S) (u_ : Option sm_V) (S1_ : sm_S) : Prop := u_ = none ∧ gi S1_ ∧ ai_fr (sx_W vw_40) S0_ S1_ ∧ (idf dd_ S0_ S1_ ∧ (cgl dd_ F_ (g_ch F_ c_ G_ va_ ve_).2 S1_ ∧ cstk (g_ch F_ c_ G_ va_ ve_).2 ((g_ch F_ c_ G_ va_ ve_).1 :: l_) S1_))
set_option maxHeartbeats 1500000 in
theorem vl_40 {sc_ : Nat × (Nat → Int)} (dd_ : Nat) (F_ : Nat) (G_ : pGr) (c_ : Int) (va_ : List Int) (ve_ : List Int) (l_ : gV) (S0_ : sm_S) (hd_ : S0_.2.1 1 0 1 = some dd_) (hg_ : cgl dd_ F_ G_ S0_) (ht_ : (S0_.1 1 0 6) = (l_.length : Int) + 3) (hV_ : svl (G_.length ≤ 1000) (S0_.2.2.1 27 0) (S0_.2.2.1 28 0) (ve_ :: va_ :: [c_] :: l_)) (hl_ : va_.length = ve_.length ∧ l_.length ≤ 509) : ∀ nn_ : Nat, (∀ (ro_ : Int) (cd_ : Int) (k_ : Int) (S_ : sm_S), gi S_ → ai_fr (sx_W vw_40) S0_ S_ → (((0 ≤ k_ ∧ k_ ≤ (va_.length : Int)) ∧ (0 ≤ cd_ ∧ cd_ ≤ 2025) ∧ ro_ = 8 * (l_.length : Int) ∧ (S_.1 1 0 6) = (l_.length : Int) + 1) ∧ (∃ (G1_ : pGr) (d_ r_ s_ e1_ e2_ : List Int), cgl dd_ F_ G1_ S_ ∧ (d_.length : Int) = k_ ∧ (e1_.length : Int) = k_ ∧ (e2_.length : Int) = k_ ∧ r_.length = s_.length ∧ k_ + r_.length = va_.length ∧ va_ = e1_ ++ r_ ∧ ve_ = e2_ ++ s_ ∧ (imq (G1_.length ≤ 1000) (cd_ = c_ ∧ rwv (S_.2.2.1 27 0) (8 * l_.length) d_ ∧ rwv (S_.2.2.1 27 0) (8 * l_.length + 8) va_ ∧ rwv (S_.2.2.1 27 0) (8 * l_.length + 16) ve_)) ∧ G_.length ≤ G1_.length ∧ (g_ch F_ c_ G_ va_ ve_) = (d_ ++ (g_ch F_ c_ G1_ r_ s_).1, (g_ch F_ c_ G1_ r_ s_).2)) ∧ (∀ j_, j_ < 8 * l_.length → S_.2.2.1 27 0 j_ = S0_.2.2.1 27 0 j_) ∧ (∀ j_, S_.2.2.1 28 0 j_ = S0_.2.2.1 28 0 j_) ∧ (idf dd_ S0_ S_) ∧ True) → (((va_.length : Int) - k_).toNat) < nn_ → sm_T (mt_P sc_) 3 40 (29, [some (.inr (.inr (some (1, 0)))), some (.inl ro_), some (.inl cd_), some (.inl k_), none, none], [], S_) (fun ro9_ => ∃ u_ S1_, ro9_ = (.inl u_, S1_, 0) ∧ vq_40 dd_ F_ G_ c_ va_ ve_ l_ S0_ u_ S1_)) := by
  intro nn_
  induction nn_ with
  | zero => exact fun _ _ _ _ _ _ _ h_ => absurd h_ (Nat.not_lt_zero _)
  | succ nn_ ih_ =>
    rintro ro_ cd_ k_ S_ hI_ hF_ ⟨h0_, h1_, h2_, h3_, hD_, -⟩ hm_
    obtain ⟨G1_, d_, r_, s_, e1_, e2_, z1_, z2_, z2b, z2c, z3_, z4_, z5_, z5b, z6_, z7_, z8_⟩ := h1_
    have v1_ := hV_.2.2.2.1
    have v2_ := hV_.2.2.2.2.1
    simp only [List.length_cons] at v1_
    have wt : S_.2.2.1 28 0 (S_.1 1 0 6).toNat = (va_.length : Int) := by rw [h3_, show (S_.1 1 0 6).toNat = l_.length + 1 by omega]; exact v1_
    have bx1_ : 0 ≤ S_.1 1 0 6 ∧ S_.1 1 0 6 ≤ 512 := hI_.1 1 0 6 rfl
    refine sm_T_go 5 (c1 := (38, [some (.inr (.inr (some (1, 0)))), some (.inl ro_), some (.inl cd_), some (.inl k_), none, none], [.inl (S_.1 1 0 6), .inr (.inr (some (28, 0))), .inl k_], S_)) rfl ?_
    refine sm_T_iald (n := 512) rfl rfl (by omega) (by omega) ?_
    have bx2_ : 0 ≤ S_.2.2.1 28 0 (S_.1 1 0 6).toNat ∧ S_.2.2.1 28 0 (S_.1 1 0 6).toNat ≤ 8 := hI_.2 28 0 _
    refine sm_T_br (a := 3) (z := 71) rfl (fun cx3_ => ?_) (fun cx3_ => ?_)
    · have cx3_ : (S_.2.2.1 28 0 (S_.1 1 0 6).toNat) ≤ k_ := of_decide_eq_true cx3_
      refine sm_T_go 5 (c1 := (119, [some (.inr (.inr (some (1, 0)))), some (.inl ro_), some (.inl cd_), some (.inl k_), none, none], [.inl 1, .inl (S_.1 1 0 6), .inr (.inr (some (28, 0)))], S_)) rfl ?_
      refine sm_T_bin (w := (S_.1 1 0 6) - 1) rfl (bi_sub (by omega) (by omega) (by omega)) ?_
      refine sm_T_go 4 (c1 := (128, [some (.inr (.inr (some (1, 0)))), some (.inl ro_), some (.inl cd_), some (.inl k_), none, none], [.inl (S_.1 1 0 6), .inr (.inr (some (28, 0))), .inl ((S_.1 1 0 6) - 1), .inr (.inr (some (28, 0)))], S_)) rfl ?_
      refine sm_T_iald (n := 512) rfl rfl (by omega) (by omega) ?_
      refine sm_T_iast (n := 512) rfl rfl (by omega) (by omega) ?_
      have hIx4_ : gi (sm_aI S_ 28 0 ((S_.1 1 0 6) - 1).toNat (S_.2.2.1 28 0 (S_.1 1 0 6).toNat)) := gi_aI hI_ (show 0 ≤ (S_.2.2.1 28 0 (S_.1 1 0 6).toNat) ∧ (S_.2.2.1 28 0 (S_.1 1 0 6).toNat) ≤ 8 from ⟨by omega, by omega⟩)
      have hFx5_ : ai_fr (sx_W vw_40) S0_ (sm_aI S_ 28 0 ((S_.1 1 0 6) - 1).toNat (S_.2.2.1 28 0 (S_.1 1 0 6).toNat)) := ai_fr_tr hF_ (ai_fr_aI rfl)
      have hDx6_ : idf dd_ S0_ (sm_aI S_ 28 0 ((S_.1 1 0 6) - 1).toNat (S_.2.2.1 28 0 (S_.1 1 0 6).toNat)) := idf_aI hD_ (Or.inl (by decide))
      refine sm_T_rv rfl ⟨_, _, rfl, rfl, hIx4_, hFx5_, ?_⟩
      refine ⟨hDx6_, ?_⟩
      have kr_ : r_ = [] := List.eq_nil_of_length_eq_zero (by omega)
      have ks_ : s_ = [] := List.eq_nil_of_length_eq_zero (by omega)
      rw [kr_, ks_] at z8_
      have q8_ : g_ch F_ c_ G1_ [] [] = ([], G1_) := rfl
      rw [q8_, List.append_nil] at z8_
      rw [z8_]
      refine ⟨cgl_fr (w_ := ([], [28], [])) z1_ (ai_fr_aI rfl) rfl rfl rfl rfl rfl rfl rfl rfl, by show S_.1 1 0 6 = _; rw [List.length_cons]; push_cast; omega, svl_tp hV_.2.2.2.2.2.2.2.2.2 (fun z_ => Nat.le_trans z7_ z_) (fun j_ hj_ => h2_ j_ hj_) (fun j_ hj_ => ?_) ?_ (show 1 ≤ d_.length ∧ d_.length ≤ 8 by omega) (fun z_ => (z6_ z_).2.1)⟩
      · rw [rd_eq, if_neg (by omega), h3_]
      · rw [rd_eq, if_pos (by omega)]; show _ = (d_.length : Int); omega
    · have cx3_ : ¬ ((S_.2.2.1 28 0 (S_.1 1 0 6).toNat) ≤ k_) := of_decide_eq_false cx3_
      obtain ⟨r0_, r_, rfl⟩ : ∃ r0_ r1_, r_ = r0_ :: r1_ := by cases r_ with | nil => (simp only [List.length_nil] at z4_; omega) | cons p_ q_ => exact ⟨p_, q_, rfl⟩
      obtain ⟨s0_, s_, rfl⟩ : ∃ s0_ s1_, s_ = s0_ :: s1_ := by cases s_ with | nil => (simp only [List.length_nil, List.length_cons] at z3_ z4_; omega) | cons p_ q_ => exact ⟨p_, q_, rfl⟩
      have rx : imq (G1_.length ≤ 1000) (S_.2.2.1 27 0 (8 * S_.1 1 0 6 + k_).toNat = r0_ ∧ S_.2.2.1 27 0 (8 * S_.1 1 0 6 + k_ + 8).toNat = s0_) := fun z_ => by rw [show (8 * S_.1 1 0 6 + k_).toNat = 8 * l_.length + 8 + e1_.length by omega, show (8 * S_.1 1 0 6 + k_ + 8).toNat = 8 * l_.length + 16 + e2_.length by omega]; exact ⟨rwv_m (by rw [← z5_]; exact (z6_ z_).2.2.1), rwv_m (by rw [← z5b]; exact (z6_ z_).2.2.2)⟩
      obtain ⟨P1_, hP1_⟩ : ∃ z_, z_ = g_an F_ G1_ c_ r0_ := ⟨_, rfl⟩
      have lP1_ : G1_.length ≤ P1_.2.length := by rw [hP1_]; exact g_an_le.1
      obtain ⟨P2_, hP2_⟩ : ∃ z_, z_ = g_an F_ P1_.2 (i_xor c_ 1) s0_ := ⟨_, rfl⟩
      have lP2_ : P1_.2.length ≤ P2_.2.length := by rw [hP2_]; exact g_an_le.1
      obtain ⟨P3_, hP3_⟩ : ∃ z_, z_ = g_or F_ P2_.2 P1_.1 P2_.1 := ⟨_, rfl⟩
      have lP3_ : P2_.2.length ≤ P3_.2.length := by rw [hP3_]; exact g_or_le
      have hc3_ : g_c3 F_ G1_ c_ r0_ s0_ = P3_ := by rw [hP3_, hP2_, hP1_]; rfl
      refine sm_T_go 7 (c1 := (54, [some (.inr (.inr (some (1, 0)))), some (.inl ro_), some (.inl cd_), some (.inl k_), none, none], [.inl 8, .inl (S_.1 1 0 6), .inr (.inr (some (27, 0))), .inl cd_, .inr (.inr (some (1, 0)))], S_)) rfl ?_
      refine sm_T_bin (w := 8 * (S_.1 1 0 6)) rfl (bi_mul (by omega) (by omega) (by omega)) ?_
      refine sm_T_go 1 (c1 := (56, [some (.inr (.inr (some (1, 0)))), some (.inl ro_), some (.inl cd_), some (.inl k_), none, none], [.inl k_, .inl (8 * (S_.1 1 0 6)), .inr (.inr (some (27, 0))), .inl cd_, .inr (.inr (some (1, 0)))], S_)) rfl ?_
      refine sm_T_bin (w := 8 * (S_.1 1 0 6) + k_) rfl (bi_add (by omega) (by omega) (by omega)) ?_
      refine sm_T_iald (n := 4096) rfl rfl (by omega) (by omega) ?_
      have bx7_ : 0 ≤ S_.2.2.1 27 0 (8 * (S_.1 1 0 6) + k_).toNat ∧ S_.2.2.1 27 0 (8 * (S_.1 1 0 6) + k_).toNat ≤ 2025 := hI_.2 27 0 _
      refine sm_T_cal (d1 := 1) (Q1 := vq_44 cd_ (S_.2.2.1 27 0 (8 * (S_.1 1 0 6) + k_).toNat) dd_ F_ G1_ c_ r0_ S_) rfl rfl (by decide) (vc_44 cd_ (S_.2.2.1 27 0 (8 * (S_.1 1 0 6) + k_).toNat) dd_ F_ G1_ c_ r0_ S_ hI_ (by exact cgl_d z1_) (by exact z1_) (by omega) (by omega) (by (intro z_; exact ⟨(z6_ z_).1, (rx z_).1⟩))) (fun u_ Sx8_ px11_ => ?_)
      obtain ⟨vx13_, rfl, hIx9_, hFx10_, px11_⟩ := px11_
      have hFx12_ : ai_fr (sx_W vw_40) S0_ Sx8_ := ai_fr_tr hF_ (fr_le hFx10_ rfl)
      obtain ⟨dx15_, px11_⟩ := px11_
      have hDx14_ : idf dd_ S0_ Sx8_ := idf_tr hD_ dx15_
      have ex16_ : Sx8_.1 1 0 6 = S_.1 1 0 6 := hFx10_.1 1 0 6 rfl
      have e58_ := px11_
      rw [← hP1_] at e58_
      have f58_ : Sx8_.2.2.1 27 0 = S_.2.2.1 27 0 := fr_arr hFx10_ rfl
      have t58_ : Sx8_.1 1 0 6 = S_.1 1 0 6 := hFx10_.1 1 0 6 rfl
      have w58_ : Sx8_.2.2.1 28 0 = S_.2.2.1 28 0 := fr_arr hFx10_ rfl
      refine sm_T_go 4 (c1 := (66, [some (.inr (.inr (some (1, 0)))), some (.inl ro_), some (.inl cd_), some (.inl k_), some (.inl vx13_), none], [.inl 1, .inl cd_, .inr (.inr (some (1, 0)))], Sx8_)) rfl ?_
      refine sm_T_bin (w := (i_xor cd_ 1)) rfl rfl ?_
      have bx17_ := i_x1 (x_ := cd_) (by omega)
      have bx18_ : 0 ≤ Sx8_.1 1 0 6 ∧ Sx8_.1 1 0 6 ≤ 512 := hIx9_.1 1 0 6 rfl
      refine sm_T_go 5 (c1 := (76, [some (.inr (.inr (some (1, 0)))), some (.inl ro_), some (.inl cd_), some (.inl k_), some (.inl vx13_), none], [.inl 1, .inl (Sx8_.1 1 0 6), .inr (.inr (some (27, 0))), .inl (i_xor cd_ 1), .inr (.inr (some (1, 0)))], Sx8_)) rfl ?_
      refine sm_T_bin (w := (Sx8_.1 1 0 6) + 1) rfl (bi_add (by omega) (by omega) (by omega)) ?_
      refine sm_T_go 1 (c1 := (79, [some (.inr (.inr (some (1, 0)))), some (.inl ro_), some (.inl cd_), some (.inl k_), some (.inl vx13_), none], [.inl 8, .inl ((Sx8_.1 1 0 6) + 1), .inr (.inr (some (27, 0))), .inl (i_xor cd_ 1), .inr (.inr (some (1, 0)))], Sx8_)) rfl ?_
      refine sm_T_bin (w := 8 * (Sx8_.1 1 0 6) + 8) rfl (bi_mul (by omega) (by omega) (by omega)) ?_
      refine sm_T_go 1 (c1 := (81, [some (.inr (.inr (some (1, 0)))), some (.inl ro_), some (.inl cd_), some (.inl k_), some (.inl vx13_), none], [.inl k_, .inl (8 * (Sx8_.1 1 0 6) + 8), .inr (.inr (some (27, 0))), .inl (i_xor cd_ 1), .inr (.inr (some (1, 0)))], Sx8_)) rfl ?_
      refine sm_T_bin (w := 8 * (Sx8_.1 1 0 6) + k_ + 8) rfl (bi_add (by omega) (by omega) (by omega)) ?_
      refine sm_T_iald (n := 4096) rfl rfl (by omega) (by omega) ?_
      have bx19_ : 0 ≤ Sx8_.2.2.1 27 0 (8 * (Sx8_.1 1 0 6) + k_ + 8).toNat ∧ Sx8_.2.2.1 27 0 (8 * (Sx8_.1 1 0 6) + k_ + 8).toNat ≤ 2025 := hIx9_.2 27 0 _
      refine sm_T_cal (d1 := 1) (Q1 := vq_44 (i_xor cd_ 1) (Sx8_.2.2.1 27 0 (8 * (Sx8_.1 1 0 6) + k_ + 8).toNat) dd_ F_ P1_.2 (i_xor c_ 1) s0_ Sx8_) rfl rfl (by decide) (vc_44 (i_xor cd_ 1) (Sx8_.2.2.1 27 0 (8 * (Sx8_.1 1 0 6) + k_ + 8).toNat) dd_ F_ P1_.2 (i_xor c_ 1) s0_ Sx8_ hIx9_ (by exact cgl_d e58_.1) (by exact e58_.1) (by omega) (by omega) (by (intro z_; refine ⟨by rw [(z6_ (by omega)).1], ?_⟩; rw [t58_, f58_]; first | exact (rx (by omega)).2 | (rw [← (rx (by omega)).2]; congr 1; omega)))) (fun u_ Sx20_ px23_ => ?_)
      obtain ⟨vx25_, rfl, hIx21_, hFx22_, px23_⟩ := px23_
      have hFx24_ : ai_fr (sx_W vw_40) S0_ Sx20_ := ai_fr_tr hFx12_ (fr_le hFx22_ rfl)
      obtain ⟨dx27_, px23_⟩ := px23_
      have hDx26_ : idf dd_ S0_ Sx20_ := idf_tr hDx14_ dx27_
      have ex28_ : Sx20_.1 1 0 6 = Sx8_.1 1 0 6 := hFx22_.1 1 0 6 rfl
      have e83_ := px23_
      rw [← hP2_] at e83_
      have f83_ : Sx20_.2.2.1 27 0 = S_.2.2.1 27 0 := (fr_arr hFx22_ rfl).trans f58_
      have t83_ : Sx20_.1 1 0 6 = S_.1 1 0 6 := (hFx22_.1 1 0 6 rfl).trans t58_
      have w83_ : Sx20_.2.2.1 28 0 = S_.2.2.1 28 0 := (fr_arr hFx22_ rfl).trans w58_
      refine sm_T_go 5 (c1 := (94, [some (.inr (.inr (some (1, 0)))), some (.inl ro_), some (.inl cd_), some (.inl k_), some (.inl vx13_), some (.inl vx25_)], [.inl k_, .inl ro_, .inr (.inr (some (27, 0)))], Sx20_)) rfl ?_
      refine sm_T_bin (w := ro_ + k_) rfl (bi_add (by omega) (by omega) (by omega)) ?_
      refine sm_T_go 3 (c1 := (100, [some (.inr (.inr (some (1, 0)))), some (.inl ro_), some (.inl cd_), some (.inl k_), some (.inl vx13_), some (.inl vx25_)], [.inl vx25_, .inl vx13_, .inr (.inr (some (1, 0))), .inl (ro_ + k_), .inr (.inr (some (27, 0)))], Sx20_)) rfl ?_
      refine sm_T_cal (d1 := 2) (Q1 := vq_42 vx13_ vx25_ dd_ F_ P2_.2 P1_.1 P2_.1 Sx20_) rfl rfl (by decide) (vc_42 vx13_ vx25_ dd_ F_ P2_.2 P1_.1 P2_.1 Sx20_ hIx21_ (by exact cgl_d e83_.1) (by exact e83_.1) (by omega) (by omega) (by (intro z_; exact ⟨e58_.2.1 (by omega), e83_.2.1 (by omega)⟩))) (fun u_ Sx29_ px32_ => ?_)
      obtain ⟨vx34_, rfl, hIx30_, hFx31_, px32_⟩ := px32_
      have hFx33_ : ai_fr (sx_W vw_40) S0_ Sx29_ := ai_fr_tr hFx24_ (fr_le hFx31_ rfl)
      obtain ⟨dx36_, px32_⟩ := px32_
      have hDx35_ : idf dd_ S0_ Sx29_ := idf_tr hDx26_ dx36_
      have e100_ := px32_
      rw [← hP3_] at e100_
      have f100_ : Sx29_.2.2.1 27 0 = S_.2.2.1 27 0 := (fr_arr hFx31_ rfl).trans f83_
      have t100_ : Sx29_.1 1 0 6 = S_.1 1 0 6 := (hFx31_.1 1 0 6 rfl).trans t83_
      have w100_ : Sx29_.2.2.1 28 0 = S_.2.2.1 28 0 := (fr_arr hFx31_ rfl).trans w83_
      have g100_ : ∀ z9_ : Int, ∀ j9_ : Nat, (sm_aI Sx29_ 27 0 (ro_ + k_).toNat z9_).2.2.1 27 0 j9_ = if j9_ = (ro_ + k_).toNat then z9_ else S_.2.2.1 27 0 j9_ := fun z9_ j9_ => by rw [rd_eq, f100_]
      refine sm_T_iast (n := 4096) rfl rfl (by omega) (by omega) ?_
      have hIx37_ : gi (sm_aI Sx29_ 27 0 (ro_ + k_).toNat vx34_) := gi_aI hIx30_ (show 0 ≤ vx34_ ∧ vx34_ ≤ 2025 from ⟨by omega, by omega⟩)
      have hFx38_ : ai_fr (sx_W vw_40) S0_ (sm_aI Sx29_ 27 0 (ro_ + k_).toNat vx34_) := ai_fr_tr hFx33_ (ai_fr_aI rfl)
      have hDx39_ : idf dd_ S0_ (sm_aI Sx29_ 27 0 (ro_ + k_).toNat vx34_) := idf_aI hDx35_ (Or.inl (by decide))
      refine sm_T_inc (a := 3) (z := 1) (v := k_) (w := k_ + 1) rfl rfl (by omega) (by omega) (by omega) ?_
      refine sm_T_go 1 (c1 := (29, [some (.inr (.inr (some (1, 0)))), some (.inl ro_), some (.inl cd_), some (.inl (k_ + 1)), some (.inl vx13_), some (.inl vx25_)], [], sm_aI Sx29_ 27 0 (ro_ + k_).toNat vx34_)) rfl ?_
      refine sm_T_wk [some (.inr (.inr (some (1, 0)))), some (.inl ro_), some (.inl cd_), some (.inl (k_ + 1)), none, none] (by exact ⟨rfl, rfl, rfl, rfl, trivial⟩) ?_
      refine ih_ ro_ cd_ (k_ + 1) (sm_aI Sx29_ 27 0 (ro_ + k_).toNat vx34_) hIx37_ hFx38_ ⟨?_, ?_, ?_, ?_, ?_, trivial⟩ ?_
      · (try simp only [rd_eq, rd_ne, rf_eq, rf_nk, rf_nt, rd_fa, rd_af, rd_fl, rd_al, rd_lf, rd_la, rd_leq, rd_lne, rd_fr, rd_ar, ne_eq, Nat.reduceEqDiff, not_false_eq_true]); omega
      · refine ⟨P3_.2, d_ ++ [P3_.1], r_, s_, e1_ ++ [r0_], e2_ ++ [s0_], cgl_st e100_.1, ?_, ?_, ?_, ?_, ?_, ?_, ?_, fun z_ => ?_, ?_, ?_⟩
        · simp only [List.length_append, List.length_cons, List.length_nil]; push_cast; omega
        · simp only [List.length_append, List.length_cons, List.length_nil]; push_cast; omega
        · simp only [List.length_append, List.length_cons, List.length_nil]; push_cast; omega
        · simp only [List.length_cons] at z3_; omega
        · simp only [List.length_cons] at z4_; push_cast at z4_; omega
        · rw [z5_, List.append_assoc]; rfl
        · rw [z5b, List.append_assoc]; rfl
        · have q1_ := z6_ (by omega)
          refine ⟨q1_.1, ?_, ?_, ?_⟩
          · exact rwv_ap (q_ := (ro_ + k_).toNat) q1_.2.1 (by omega) (fun j_ => by rw [g100_, e100_.2.1 z_])
          · exact rwv_cg q1_.2.2.1 (fun j_ hj_ => by rw [g100_, if_neg (by omega)])
          · exact rwv_cg q1_.2.2.2 (fun j_ hj_ => by rw [g100_, if_neg (by omega)])
        · omega
        · have q9_ := g_z2_c (op_ := fun G_ a_ b_ => g_c3 F_ G_ c_ a_ b_) (G_ := G1_) (a_ := r0_) (b_ := s0_) (x_ := r_) (y_ := s_) (d_ := d_); rw [hc3_] at q9_; rw [z8_]; exact q9_
      · intro j_ hj_
        rw [g100_, if_neg (by omega)]
        exact h2_ j_ hj_
      · intro j_
        rw [rd_ne (by decide), w100_]
        exact h3_ j_
      · exact hDx39_
      · omega
set_option maxHeartbeats 1500000 in
theorem vc_40 {sc_ : Nat × (Nat → Int)} (dd_ : Nat) (F_ : Nat) (G_ : pGr) (c_ : Int) (va_ : List Int) (ve_ : List Int) (l_ : gV) (S0_ : sm_S) (hI_ : gi S0_) (hd_ : S0_.2.1 1 0 1 = some dd_) (hg_ : cgl dd_ F_ G_ S0_) (ht_ : (S0_.1 1 0 6) = (l_.length : Int) + 3) (hV_ : svl (G_.length ≤ 1000) (S0_.2.2.1 27 0) (S0_.2.2.1 28 0) (ve_ :: va_ :: [c_] :: l_)) (hl_ : va_.length = ve_.length ∧ l_.length ≤ 509) : sm_T (mt_P sc_) 3 40 (0, [some (.inr (.inr (some (1, 0)))), none, none, none, none, none], [], S0_) (fun ro9_ => ∃ u_ S1_, ro9_ = (.inl u_, S1_, 0) ∧ vq_40 dd_ F_ G_ c_ va_ ve_ l_ S0_ u_ S1_) := by
  have hF_ : ai_fr (sx_W vw_40) S0_ S0_ := ai_fr_rf
  have hD_ : idf dd_ S0_ S0_ := idf_rf
  have v1_ := hV_.2.2.2.1
  have v2_ := hV_.2.2.2.2.1
  simp only [List.length_cons] at v1_
  have bx1_ : 0 ≤ S0_.1 1 0 6 ∧ S0_.1 1 0 6 ≤ 512 := hI_.1 1 0 6 rfl
  refine sm_T_go 4 (c1 := (6, [some (.inr (.inr (some (1, 0)))), none, none, none, none, none], [.inl 2, .inl (S0_.1 1 0 6), .inr (.inr (some (1, 0)))], S0_)) rfl ?_
  refine sm_T_bin (w := (S0_.1 1 0 6) - 2) rfl (bi_sub (by omega) (by omega) (by omega)) ?_
  have hIx2_ : gi (sm_pI S0_ 1 0 6 ((S0_.1 1 0 6) - 2)) := gi_pI hI_ (show 0 ≤ (S0_.1 1 0 6) - 2 ∧ (S0_.1 1 0 6) - 2 ≤ 512 from ⟨by omega, by omega⟩)
  have hFx3_ : ai_fr (sx_W vw_40) S0_ (sm_pI S0_ 1 0 6 ((S0_.1 1 0 6) - 2)) := ai_fr_tr hF_ (ai_fr_pI rfl)
  have hDx4_ : idf dd_ S0_ (sm_pI S0_ 1 0 6 ((S0_.1 1 0 6) - 2)) := idf_pI hD_ (Or.inl (by decide))
  refine sm_T_go 4 (c1 := (15, [some (.inr (.inr (some (1, 0)))), none, none, none, none, none], [.inl 1, .inl ((S0_.1 1 0 6) - 2)], sm_pI S0_ 1 0 6 ((S0_.1 1 0 6) - 2))) rfl ?_
  refine sm_T_bin (w := (S0_.1 1 0 6) - 3) rfl (bi_sub (by omega) (by omega) (by omega)) ?_
  refine sm_T_go 1 (c1 := (18, [some (.inr (.inr (some (1, 0)))), none, none, none, none, none], [.inl 8, .inl ((S0_.1 1 0 6) - 3)], sm_pI S0_ 1 0 6 ((S0_.1 1 0 6) - 2))) rfl ?_
  refine sm_T_bin (w := 8 * (S0_.1 1 0 6) - 24) rfl (bi_mul (by omega) (by omega) (by omega)) ?_
  refine sm_T_go 4 (c1 := (25, [some (.inr (.inr (some (1, 0)))), some (.inl (8 * (S0_.1 1 0 6) - 24)), none, none, none, none], [.inl (8 * (S0_.1 1 0 6) - 24), .inr (.inr (some (27, 0)))], sm_pI S0_ 1 0 6 ((S0_.1 1 0 6) - 2))) rfl ?_
  refine sm_T_iald (n := 4096) rfl rfl (by omega) (by omega) ?_
  have bx5_ : 0 ≤ S0_.2.2.1 27 0 (8 * (S0_.1 1 0 6) - 24).toNat ∧ S0_.2.2.1 27 0 (8 * (S0_.1 1 0 6) - 24).toNat ≤ 2025 := hI_.2 27 0 _
  refine sm_T_go 3 (c1 := (29, [some (.inr (.inr (some (1, 0)))), some (.inl (8 * (S0_.1 1 0 6) - 24)), some (.inl (S0_.2.2.1 27 0 (8 * (S0_.1 1 0 6) - 24).toNat)), some (.inl 0), none, none], [], sm_pI S0_ 1 0 6 ((S0_.1 1 0 6) - 2))) rfl ?_
  refine (vl_40 dd_ F_ G_ c_ va_ ve_ l_ S0_ hd_ hg_ ht_ hV_ hl_ _) (8 * (S0_.1 1 0 6) - 24) (S0_.2.2.1 27 0 (8 * (S0_.1 1 0 6) - 24).toNat) 0 (sm_pI S0_ 1 0 6 ((S0_.1 1 0 6) - 2)) hIx2_ hFx3_ ⟨?_, ?_, ?_, ?_, ?_, trivial⟩ (Nat.lt_succ_self _)
  · (try simp only [rd_eq, rd_ne, rf_eq, rf_nk, rf_nt, rd_fa, rd_af, rd_fl, rd_al, rd_lf, rd_la, rd_leq, rd_lne, rd_fr, rd_ar, ne_eq, Nat.reduceEqDiff, not_false_eq_true]); omega
  · refine ⟨G_, [], va_, ve_, [], [], cgl_fr (w_ := ([(1, 6)], [], [])) hg_ (ai_fr_pI rfl) rfl rfl rfl rfl rfl rfl rfl rfl, rfl, rfl, rfl, hl_.1, by omega, rfl, rfl, fun z_ => ⟨?_, ?_, ?_, ?_⟩, Nat.le_refl _, rfl⟩
    · exact (congrArg (S0_.2.2.1 27 0) (show _ = 8 * l_.length + 0 by omega)).trans (hV_.2.2.2.2.2.2.2.2.1 z_ 0 c_ rfl)
    · intro k9_ z9_ e9_; simp at e9_
    · have q_ := hV_.2.2.2.2.2.1 z_; exact q_
    · have q_ := hV_.2.2.1 z_; exact q_
  · (intro j_ hj_; rfl)
  · (intro j_; rfl)
  · exact hDx4_
end
/-! 99.zb4a -/
section
/-! the class: operating; written by wip/p55/gen/vg -/

/-! operating -/
theorem map_mid {f_ : Int → Int} {e_ r_ : List Int} {a_ : Int} : (e_ ++ [a_]).map f_ ++ r_ = (e_.map f_ ++ [f_ a_]) ++ r_ := by
  rw [List.map_append]
  rfl
theorem g_bw3 {F_ : Nat} : g_bw F_ 3 = g_an F_ := if_pos rfl
theorem g_bw1 {F_ : Nat} : g_bw F_ 1 = g_or F_ := by
  unfold g_bw
  rw [if_neg (by decide), if_pos rfl]
theorem g_bw2 {F_ : Nat} {k_ : Int} (h3_ : k_ ≠ 3) (h1_ : k_ ≠ 1) : g_bw F_ k_ = g_xo F_ := by
  unfold g_bw
  rw [if_neg h3_, if_neg h1_]
end
