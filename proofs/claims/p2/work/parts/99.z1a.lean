/-! the reference: inputs of cells; written by wip/p55/gen/vg -/

/-! new_ names of_ cells and their inputs -/
def zn2 (b_ : Nat → Int) (n_ K_ : Nat) (f_ : Nat → Nat) (x_ : pE Nat) : pE Nat := pb (pb x_ (p_du b_ n_ 1)) fun p_ => if p_fd (fun s_ => nm_q b_ n_ (f_ s_) p_) K_ = -1 then .inr p_ else .inl (10, p_)
def zn3 (b_ : Nat → Int) (n_ K_ : Nat) (f_ : Nat → Nat) (w_ : Int) (x_ : pE Nat) : pE Nat := pb (zn2 b_ n_ K_ f_ x_) fun p_ => if (K_ : Int) = w_ then .inl (15, p_) else .inr p_
theorem nn_eq {b_ : Nat → Int} {n_ K_ : Nat} {f_ : Nat → Nat} {w_ : Int} {x_ : pE Nat} : pb (zn3 b_ n_ K_ f_ w_ x_) (p_ad b_ n_) = pb x_ (p_nn b_ n_ K_ f_ w_) := by
  unfold zn3 zn2
  simp only [pb_as]
  refine congrArg (pb _) (funext fun p_ => ?_)
  unfold p_du p_nn
  by_cases g_ : lx_kd b_ n_ p_ = 1
  · rw [if_pos g_, if_pos g_]
    show pb (if p_fd (fun s_ => nm_q b_ n_ (f_ s_) p_) K_ = -1 then .inr p_ else .inl (10, p_)) _ = _
    by_cases g2_ : p_fd (fun s_ => nm_q b_ n_ (f_ s_) p_) K_ = -1
    · rw [if_pos g2_, if_pos g2_]
      show pb (if (K_ : Int) = w_ then .inl (15, p_) else .inr p_) _ = _
      by_cases g3_ : (K_ : Int) = w_
      · rw [if_pos g3_, if_pos g3_]; rfl
      · rw [if_neg g3_, if_neg g3_]; rfl
    · rw [if_neg g2_, if_neg g2_]; rfl
  · rw [if_neg g_, if_neg g_]; rfl
theorem du_r {b_ : Nat → Int} {n_ p_ : Nat} {x_ : pE Nat} (h_ : pb x_ (p_du b_ n_ 1) = .inr p_) : x_ = .inr p_ ∧ lx_kd b_ n_ p_ = 1 := by
  obtain ⟨q_, h1_, h2_⟩ := pb_inr h_
  unfold p_du at h2_
  split at h2_
  · rename_i g_
    cases h2_
    exact ⟨h1_, g_⟩
  · cases h2_
theorem zn2_r {b_ : Nat → Int} {n_ K_ p_ : Nat} {f_ : Nat → Nat} {x_ : pE Nat} (h_ : zn2 b_ n_ K_ f_ x_ = .inr p_) : pb x_ (p_du b_ n_ 1) = .inr p_ ∧ p_fd (fun s_ => nm_q b_ n_ (f_ s_) p_) K_ = -1 := by
  obtain ⟨q_, h1_, h2_⟩ := pb_inr h_
  split at h2_
  · rename_i g_
    cases h2_
    exact ⟨h1_, g_⟩
  · cases h2_
theorem zn3_r {b_ : Nat → Int} {n_ K_ p_ : Nat} {f_ : Nat → Nat} {w_ : Int} {x_ : pE Nat} (h_ : zn3 b_ n_ K_ f_ w_ x_ = .inr p_) : zn2 b_ n_ K_ f_ x_ = .inr p_ ∧ (K_ : Int) ≠ w_ := by
  obtain ⟨q_, h1_, h2_⟩ := pb_inr h_
  split at h2_
  · cases h2_
  · rename_i g_
    cases h2_
    exact ⟨h1_, g_⟩
/-- a_ row_ of_ names -/
def rw_ (b_ : Nat → Int) (n_ T_ t_ k_ K_ : Nat) (f_ : Nat → Nat) (S_ : sm_S) : Prop := S_.1 13 0 k_ = (K_ : Int) ∧ ∀ j_, j_ < K_ → rtk b_ n_ T_ (S_.2.2.1 t_ 0 j_) (f_ j_)
theorem rw_fr {w_ : sx_Wl} {b_ : Nat → Int} {n_ T_ t_ k_ K_ : Nat} {f_ : Nat → Nat} {S_ S'_ : sm_S} (h_ : rw_ b_ n_ T_ t_ k_ K_ f_ S_) (g_ : ai_fr (sx_W w_) S_ S'_) (h0_ : (sx_W w_).1 13 k_ = false) (h1_ : (sx_W w_).2.1 t_ = false) : rw_ b_ n_ T_ t_ k_ K_ f_ S'_ := by
  unfold rw_ at h_ ⊢
  rw [g_.1 13 0 k_ h0_, fr_arr g_ h1_]
  exact h_

theorem inr_fr {w_ : sx_Wl} {b_ : Nat → Int} {n_ T_ K_ : Nat} {f_ : Nat → Nat} {S_ S'_ : sm_S} (h_ : inr_ b_ n_ T_ K_ f_ S_) (g_ : ai_fr (sx_W w_) S_ S'_) (h0_ : (sx_W w_).1 13 80 = false) (h1_ : (sx_W w_).2.1 177 = false) : inr_ b_ n_ T_ K_ f_ S'_ := by
  unfold inr_ at h_ ⊢
  rw [g_.1 13 0 80 h0_, fr_arr g_ h1_]
  exact h_
theorem inr_up {b_ : Nat → Int} {n_ T_ K_ p_ : Nat} {f_ : Nat → Nat} {t_ : Int} {S_ S'_ : sm_S} (h_ : inr_ b_ n_ T_ K_ f_ S_) (hK_ : K_ ≠ 3) (hr_ : rtk b_ n_ T_ t_ p_) (hd_ : p_fd (fun s_ => nm_q b_ n_ (f_ s_) p_) K_ = -1) (h0_ : S'_.1 13 0 80 = (K_ : Int) + 1) (h1_ : ∀ j_, S'_.2.2.1 177 0 j_ = if j_ = K_ then t_ else S_.2.2.1 177 0 j_) : inr_ b_ n_ T_ (K_ + 1) (n_up f_ K_ p_) S'_ := by
  obtain ⟨q1_, q2_, q3_, q4_⟩ := h_
  refine ⟨by rw [h0_]; push_cast; rfl, by omega, fun j_ hj_ => ?_, fun i_ j_ hij_ hj_ => ?_⟩
  · rw [h1_]
    unfold n_up
    by_cases e_ : j_ = K_
    · rw [if_pos e_, if_pos e_]; exact hr_
    · rw [if_neg e_, if_neg e_]; exact q3_ j_ (by omega)
  · unfold n_up
    rw [if_neg (by omega)]
    by_cases e_ : j_ = K_
    · rw [if_pos e_]
      exact p_fd_no hd_ i_ (by omega)
    · rw [if_neg e_]
      exact q4_ i_ j_ hij_ (by omega)
/-! M_.tellInput -/
def vw_364 : sx_Wl := ([(13, 9), (13, 10), (13, 11), (13, 80)], [177], [])
def vq_364 (b_ : Nat → Int) (n_ : Nat) (T_ : Nat) (x_ : pE Nat) (K_ : Nat) (f_ : Nat → Nat) (S0_ : sm_S) (u_ : Option sm_V) (S1_ : sm_S) : Prop := u_ = none ∧ gi S1_ ∧ ai_fr (sx_W vw_364) S0_ S1_ ∧ (rg b_ n_ T_ (pb x_ (p_nn b_ n_ K_ f_ 3)) S1_ ∧ ∀ p_ r_, x_ = .inr p_ → p_nn b_ n_ K_ f_ 3 p_ = .inr r_ → inr_ b_ n_ T_ (K_ + 1) (n_up f_ K_ p_) S1_)
set_option maxHeartbeats 1000000 in
theorem vl_364 {sc_ : Nat × (Nat → Int)} (b_ : Nat → Int) (n_ : Nat) (T_ : Nat) (x_ : pE Nat) (K_ : Nat) (f_ : Nat → Nat) (S0_ : sm_S) (ht_ : rtab b_ n_ T_ S0_) (hx_ : rg b_ n_ T_ x_ S0_) (hin_ : ∀ p_, x_ = .inr p_ → inr_ b_ n_ T_ K_ f_ S0_) : ∀ nn_ : Nat, (∀ (t_ : Int) (i_ : Int) (S_ : sm_S), gi S_ → ai_fr (sx_W vw_364) S0_ S_ → ((0 ≤ i_ ∧ i_ ≤ 12) ∧ ((∃ e_, (zn2 b_ n_ K_ f_ x_) = .inl e_ ∧ rg b_ n_ T_ (.inl e_) S_) ∨ (∃ q0_, (pb x_ (p_du b_ n_ 1)) = .inr q0_ ∧ rg b_ n_ T_ (.inr q0_) S_ ∧ p_fd (fun s_ => nm_q b_ n_ (f_ s_) q0_)  i_.toNat = -1 ∧ i_ ≤ (K_ : Int))) ∧ (0 ≤ t_ ∧ t_ ≤ 1280) ∧ (∀ pq_, (pb x_ (p_du b_ n_ 1)) = .inr pq_ → rtk b_ n_ T_ t_ pq_) ∧ (∀ pq_, x_ = .inr pq_ → inr_ b_ n_ T_ K_ f_ S_) ∧ True) → ((9000 - i_).toNat) < nn_ → sm_T (mt_P sc_) 3 364 (8, [some (.inr (.inr (some (13, 0)))), some (.inl t_), some (.inl i_)], [], S_) (fun r_ => ∃ u_ S1_, r_ = (.inl u_, S1_, 0) ∧ vq_364 b_ n_ T_ x_ K_ f_ S0_ u_ S1_)) ∧ (∀ (t_ : Int) (S_ : sm_S), gi S_ → ai_fr (sx_W vw_364) S0_ S_ → ((rg b_ n_ T_ (zn2 b_ n_ K_ f_ x_) S_) ∧ (0 ≤ t_ ∧ t_ ≤ 1280) ∧ (∀ pq_, (pb x_ (p_du b_ n_ 1)) = .inr pq_ → rtk b_ n_ T_ t_ pq_) ∧ (∀ pq_, x_ = .inr pq_ → inr_ b_ n_ T_ K_ f_ S_) ∧ True) → ((8000 : Nat)) < nn_ → sm_T (mt_P sc_) 3 364 (50, [some (.inr (.inr (some (13, 0)))), some (.inl t_), none], [], S_) (fun r_ => ∃ u_ S1_, r_ = (.inl u_, S1_, 0) ∧ vq_364 b_ n_ T_ x_ K_ f_ S0_ u_ S1_)) ∧ (∀ (t_ : Int) (S_ : sm_S), gi S_ → ai_fr (sx_W vw_364) S0_ S_ → ((rg b_ n_ T_ (zn3 b_ n_ K_ f_ 3 x_) S_) ∧ (0 ≤ t_ ∧ t_ ≤ 1280) ∧ (∀ pq_, (pb x_ (p_du b_ n_ 1)) = .inr pq_ → rtk b_ n_ T_ t_ pq_) ∧ (∀ pq_, x_ = .inr pq_ → inr_ b_ n_ T_ K_ f_ S_) ∧ True) → ((7000 : Nat)) < nn_ → sm_T (mt_P sc_) 3 364 (72, [some (.inr (.inr (some (13, 0)))), some (.inl t_), none], [], S_) (fun r_ => ∃ u_ S1_, r_ = (.inl u_, S1_, 0) ∧ vq_364 b_ n_ T_ x_ K_ f_ S0_ u_ S1_)) := by
  intro nn_
  induction nn_ with
  | zero => exact ⟨fun _ _ _ _ _ _ h_ => absurd h_ (Nat.not_lt_zero _), fun _ _ _ _ _ h_ => absurd h_ (Nat.not_lt_zero _), fun _ _ _ _ _ h_ => absurd h_ (Nat.not_lt_zero _)⟩
  | succ nn_ ih_ =>
    refine ⟨?_, ?_, ?_⟩
    · rintro t_ i_ S_ hI_ hF_ ⟨h0_, h1_, tb_, tk_, row_, -⟩ hm_
      have tt_ := rtab_fr ht_ hF_ rfl rfl rfl rfl rfl
      have cb1_ : 0 ≤ S_.1 13 0 80 ∧ S_.1 13 0 80 ≤ 3 := hI_.1 13 0 80 rfl
      have bx1_ : 0 ≤ S_.1 13 0 80 ∧ S_.1 13 0 80 ≤ 3 := hI_.1 13 0 80 rfl
      refine sm_T_go 3 (c1 := (13, [some (.inr (.inr (some (13, 0)))), some (.inl t_), some (.inl i_)], [.inl (S_.1 13 0 80), .inl i_], S_)) rfl ?_
      refine sm_T_br (a := 3) (z := 37) rfl (fun cx2_ => ?_) (fun cx2_ => ?_)
      · have cx2_ : (S_.1 13 0 80) ≤ i_ := of_decide_eq_true cx2_
        refine sm_T_go 0 (c1 := (50, [some (.inr (.inr (some (13, 0)))), some (.inl t_), some (.inl i_)], [], S_)) rfl ?_
        refine sm_T_wk [some (.inr (.inr (some (13, 0)))), some (.inl t_), none] (by exact ⟨rfl, rfl, trivial⟩) ?_
        refine ih_.2.1 t_ S_ hI_ hF_ ⟨?_, ?_, ?_, ?_, trivial⟩ ?_
        · rcases h1_ with ⟨e_, z1_, z2_⟩ | ⟨q0_, z1_, z2_, z3_, z4_⟩
          · rw [z1_]; exact z2_
          · have rowq := row_ q0_ (du_r z1_).1
            have cnq_ : S_.1 13 0 80 = (K_ : Int) := rowq.1
            first | (exact absurd z2_.1 hz_) | (have e_ : (zn2 b_ n_ K_ f_ x_) = .inr q0_ := (by unfold zn2; rw [z1_]; show (if p_fd (fun s_ => nm_q b_ n_ (f_ s_) q0_) K_ = -1 then _ else _) = _; rw [show K_ = i_.toNat by omega, if_pos z3_]); rw [e_]; exact z2_)
        · omega
        · exact tk_
        · exact row_
        · omega
      · have cx2_ : ¬ ((S_.1 13 0 80) ≤ i_) := of_decide_eq_false cx2_
        refine sm_T_go 1 (c1 := (17, [some (.inr (.inr (some (13, 0)))), some (.inl t_), some (.inl i_)], [.inr (.inr (some (13, 0)))], S_)) rfl ?_
        refine sm_T_cal (d1 := 0) (Q1 := vq_292  S_) rfl rfl (by decide) (vc_292  S_ hI_ ) (fun u_ Sx3_ px6_ => ?_)
        obtain ⟨rfl, vx8_, rfl, px6_⟩ := px6_
        have e1r := px6_
        refine sm_T_b0 (a := 0) (z := 30) rfl (fun cx9_ => ?_) (fun cx9_ => ?_)
        · have cx9_ : vx8_ = 0 := of_decide_eq_true cx9_
          have hz_ := wr_if e1r (by omega)
          refine sm_T_go 0 (c1 := (50, [some (.inr (.inr (some (13, 0)))), some (.inl t_), some (.inl i_)], [], S_)) rfl ?_
          refine sm_T_wk [some (.inr (.inr (some (13, 0)))), some (.inl t_), none] (by exact ⟨rfl, rfl, trivial⟩) ?_
          refine ih_.2.1 t_ S_ hI_ hF_ ⟨?_, ?_, ?_, ?_, trivial⟩ ?_
          · rcases h1_ with ⟨e_, z1_, z2_⟩ | ⟨q0_, z1_, z2_, z3_, z4_⟩
            · rw [z1_]; exact z2_
            · have rowq := row_ q0_ (du_r z1_).1
              have cnq_ : S_.1 13 0 80 = (K_ : Int) := rowq.1
              first | (exact absurd z2_.1 hz_) | (have e_ : (zn2 b_ n_ K_ f_ x_) = .inr q0_ := (by unfold zn2; rw [z1_]; show (if p_fd (fun s_ => nm_q b_ n_ (f_ s_) q0_) K_ = -1 then _ else _) = _; rw [show K_ = i_.toNat by omega, if_pos z3_]); rw [e_]; exact z2_)
          · omega
          · exact tk_
          · exact row_
          · omega
        · have cx9_ : ¬ (vx8_ = 0) := of_decide_eq_false cx9_
          have hz_ := rt_if e1r (by omega)
          obtain ⟨q0_, hq0_, gq0_, fq0_, iq0_⟩ : ∃ q0_, (pb x_ (p_du b_ n_ 1)) = .inr q0_ ∧ rg b_ n_ T_ (.inr q0_) S_ ∧ p_fd (fun s_ => nm_q b_ n_ (f_ s_) q0_)  i_.toNat = -1 ∧ i_ ≤ (K_ : Int) := by rcases h1_ with ⟨e_, z1_, z2_⟩ | z_; (exact absurd (z2_.1.symm.trans hz_) z2_.2.2); exact z_
          have rowq := row_ q0_ (du_r hq0_).1
          have cnq_ : S_.1 13 0 80 = (K_ : Int) := rowq.1
          have rtq_ := rowq.2.2.1 i_.toNat (by omega)
          have tkq_ := tk_ q0_ hq0_
          have ptq_ := rtk_pl tt_ tkq_
          have soq_ : S_.2.2.1 119 0 t_.toNat ≠ 4 := by obtain ⟨i3_, y1_, y2_, y3_, y4_⟩ := tkq_; have y5_ := (tt_.2.2.1.1 i3_ y2_).2; rw [← y3_] at y5_; rw [y1_, Int.toNat_natCast, y5_.2.1, y4_.2]; decide
          refine sm_T_go 4 (c1 := (29, [some (.inr (.inr (some (13, 0)))), some (.inl t_), some (.inl i_)], [.inl i_, .inr (.inr (some (177, 0))), .inr (.inr (some (13, 0)))], S_)) rfl ?_
          refine sm_T_iald (n := 3) rfl rfl (by omega) (by omega) ?_
          have bx10_ : 0 ≤ S_.2.2.1 177 0 i_.toNat ∧ S_.2.2.1 177 0 i_.toNat ≤ 1280 := hI_.2 177 0 _
          refine sm_T_go 1 (c1 := (31, [some (.inr (.inr (some (13, 0)))), some (.inl t_), some (.inl i_)], [.inl t_, .inl (S_.2.2.1 177 0 i_.toNat), .inr (.inr (some (13, 0)))], S_)) rfl ?_
          refine sm_T_cal (d1 := 0) (Q1 := vq_301 (S_.2.2.1 177 0 i_.toNat) t_ b_ n_ T_ (f_ i_.toNat) q0_ S_) rfl rfl (by decide) (vc_301 (S_.2.2.1 177 0 i_.toNat) t_ b_ n_ T_ (f_ i_.toNat) q0_ S_ hI_ (by exact tt_) (by exact rtq_) (by exact tkq_)) (fun u_ Sx11_ px14_ => ?_)
          obtain ⟨rfl, vx16_, rfl, px14_⟩ := px14_
          have esm_ := px14_
          refine sm_T_b0 (a := 0) (z := 10) rfl (fun cx17_ => ?_) (fun cx17_ => ?_)
          · have cx17_ : vx16_ = 0 := of_decide_eq_true cx17_
            have nq_ : nm_q b_ n_ (f_ i_.toNat) q0_ = false := by cases z_ : nm_q b_ n_ (f_ i_.toNat) q0_; rfl; (rw [if_pos z_] at esm_; omega)
            refine sm_T_inc (a := 2) (z := 1) (v := i_) (w := i_ + 1) rfl rfl (by omega) (by omega) (by omega) ?_
            refine sm_T_go 1 (c1 := (8, [some (.inr (.inr (some (13, 0)))), some (.inl t_), some (.inl (i_ + 1))], [], S_)) rfl ?_
            refine ih_.1 t_ (i_ + 1) S_ hI_ hF_ ⟨?_, ?_, ?_, ?_, ?_, trivial⟩ ?_
            · omega
            · first | (left; exact ⟨_, z2e, gw_⟩) | (right; exact ⟨q0_, hq0_, gq0_, by rw [show (i_ + 1).toNat = i_.toNat + 1 by omega]; exact p_fd_nx fq0_ nq_, by omega⟩)
            · omega
            · exact tk_
            · first | exact roww | exact row_
            · omega
          · have cx17_ : ¬ (vx16_ = 0) := of_decide_eq_false cx17_
            have nq_ : nm_q b_ n_ (f_ i_.toNat) q0_ = true := by cases z_ : nm_q b_ n_ (f_ i_.toNat) q0_; (rw [if_neg (by rw [z_]; decide)] at esm_; omega); rfl
            have z2e : (zn2 b_ n_ K_ f_ x_) = .inl (10, q0_) := by unfold zn2; rw [hq0_]; show (if p_fd (fun s_ => nm_q b_ n_ (f_ s_) q0_)  K_ = -1 then _ else _) = _; rw [if_neg (by rw [p_fd_go fq0_ nq_ (show i_.toNat < K_ by omega)]; omega)]
            refine sm_T_go 3 (c1 := (41, [some (.inr (.inr (some (13, 0)))), some (.inl t_), some (.inl i_)], [.inl t_, .inl 10, .inr (.inr (some (13, 0)))], S_)) rfl ?_
            refine sm_T_cal (d1 := 0) (Q1 := vq_293 10 t_ S_) rfl rfl (by decide) (vc_293 10 t_ S_ hI_ (by decide) (by omega)) (fun u_ Sx18_ px21_ => ?_)
            obtain ⟨rfl, hIx19_, hFx20_, px21_⟩ := px21_
            have hFx22_ : ai_fr (sx_W vw_364) S0_ Sx18_ := ai_fr_tr hF_ (fr_le hFx20_ rfl)
            have ex23_ : Sx18_.1 13 0 80 = S_.1 13 0 80 := hFx20_.1 13 0 80 rfl
            have gw_ : rg b_ n_ T_ (.inl (10, q0_)) Sx18_ := by rcases px21_ with z_ | z_; (exact absurd hz_ z_.1); (exact ⟨z_.2.1.trans (if_neg soq_), z_.2.2.trans ptq_.2, by show (10 : Int) ≠ 0; decide⟩)
            have roww : ∀ pq_, x_ = .inr pq_ → inr_ b_ n_ T_ K_ f_ Sx18_ := fun pq_ hp_ => inr_fr (row_ pq_ hp_) hFx20_ rfl rfl
            refine sm_T_inc (a := 2) (z := 1) (v := i_) (w := i_ + 1) rfl rfl (by omega) (by omega) (by omega) ?_
            refine sm_T_go 1 (c1 := (8, [some (.inr (.inr (some (13, 0)))), some (.inl t_), some (.inl (i_ + 1))], [], Sx18_)) rfl ?_
            refine ih_.1 t_ (i_ + 1) Sx18_ hIx19_ hFx22_ ⟨?_, ?_, ?_, ?_, ?_, trivial⟩ ?_
            · omega
            · first | (left; exact ⟨_, z2e, gw_⟩) | (right; exact ⟨q0_, hq0_, gq0_, by rw [show (i_ + 1).toNat = i_.toNat + 1 by omega]; exact p_fd_nx fq0_ nq_, by omega⟩)
            · omega
            · exact tk_
            · first | exact roww | exact row_
            · omega
    · rintro t_ S_ hI_ hF_ ⟨g50_, tb_, tk_, row_, -⟩ hm_
      have tt_ := rtab_fr ht_ hF_ rfl rfl rfl rfl rfl
      refine sm_T_go 1 (c1 := (51, [some (.inr (.inr (some (13, 0)))), some (.inl t_), none], [.inr (.inr (some (13, 0)))], S_)) rfl ?_
      refine sm_T_cal (d1 := 0) (Q1 := vq_292  S_) rfl rfl (by decide) (vc_292  S_ hI_ ) (fun u_ Sx1_ px4_ => ?_)
      obtain ⟨rfl, vx6_, rfl, px4_⟩ := px4_
      have e2r := px4_
      refine sm_T_b0 (a := 0) (z := 18) rfl (fun cx7_ => ?_) (fun cx7_ => ?_)
      · have cx7_ : vx6_ = 0 := of_decide_eq_true cx7_
        have hz_ := wr_if e2r (by omega)
        obtain ⟨e5_, he5_⟩ := rg_w g50_ hz_
        have z3w : (zn3 b_ n_ K_ f_ 3 x_) = .inl e5_ := by unfold zn3; rw [he5_]; rfl
        have g3w := g50_
        rw [he5_] at g3w
        refine sm_T_go 0 (c1 := (72, [some (.inr (.inr (some (13, 0)))), some (.inl t_), none], [], S_)) rfl ?_
        refine ih_.2.2 t_ S_ hI_ hF_ ⟨?_, ?_, ?_, ?_, trivial⟩ ?_
        · first | exact gf_ | (rw [z3w]; exact g3w) | (rw [z3c, if_neg (by omega)]; exact g3r)
        · omega
        · exact tk_
        · first | exact rowf | exact row_
        · omega
      · have cx7_ : ¬ (vx6_ = 0) := of_decide_eq_false cx7_
        have hz_ := rt_if e2r (by omega)
        obtain ⟨q0_, i2_, hq2_, hi21_, hi22_⟩ := rg_r g50_ hz_
        have hq0_ := (zn2_r hq2_).1
        have g3r := g50_
        rw [hq2_] at g3r
        have z3c : (zn3 b_ n_ K_ f_ 3 x_) = if (K_ : Int) = 3 then .inl (15, q0_) else .inr q0_ := by unfold zn3; rw [hq2_]; rfl
        have rowq := row_ q0_ (du_r hq0_).1
        have cnq_ : S_.1 13 0 80 = (K_ : Int) := rowq.1
        have tkq_ := tk_ q0_ hq0_
        have ptq_ := rtk_pl tt_ tkq_
        have soq_ : S_.2.2.1 119 0 t_.toNat ≠ 4 := by obtain ⟨i3_, y1_, y2_, y3_, y4_⟩ := tkq_; have y5_ := (tt_.2.2.1.1 i3_ y2_).2; rw [← y3_] at y5_; rw [y1_, Int.toNat_natCast, y5_.2.1, y4_.2]; decide
        have bx8_ : 0 ≤ S_.1 13 0 80 ∧ S_.1 13 0 80 ≤ 3 := hI_.1 13 0 80 rfl
        refine sm_T_go 3 (c1 := (62, [some (.inr (.inr (some (13, 0)))), some (.inl t_), none], [.inl 3, .inl (S_.1 13 0 80)], S_)) rfl ?_
        refine sm_T_br (a := 1) (z := 10) rfl (fun cx9_ => ?_) (fun cx9_ => ?_)
        · have cx9_ : (S_.1 13 0 80) ≠ 3 := of_decide_eq_true cx9_
          refine sm_T_go 0 (c1 := (72, [some (.inr (.inr (some (13, 0)))), some (.inl t_), none], [], S_)) rfl ?_
          refine ih_.2.2 t_ S_ hI_ hF_ ⟨?_, ?_, ?_, ?_, trivial⟩ ?_
          · first | exact gf_ | (rw [z3w]; exact g3w) | (rw [z3c, if_neg (by omega)]; exact g3r)
          · omega
          · exact tk_
          · first | exact rowf | exact row_
          · omega
        · have cx9_ : ¬ ((S_.1 13 0 80) ≠ 3) := of_decide_eq_false cx9_
          refine sm_T_go 3 (c1 := (69, [some (.inr (.inr (some (13, 0)))), some (.inl t_), none], [.inl t_, .inl 15, .inr (.inr (some (13, 0)))], S_)) rfl ?_
          refine sm_T_cal (d1 := 0) (Q1 := vq_293 15 t_ S_) rfl rfl (by decide) (vc_293 15 t_ S_ hI_ (by decide) (by omega)) (fun u_ Sx10_ px13_ => ?_)
          obtain ⟨rfl, hIx11_, hFx12_, px13_⟩ := px13_
          have hFx14_ : ai_fr (sx_W vw_364) S0_ Sx10_ := ai_fr_tr hF_ (fr_le hFx12_ rfl)
          have ex15_ : Sx10_.1 13 0 80 = S_.1 13 0 80 := hFx12_.1 13 0 80 rfl
          have gf_ : rg b_ n_ T_ (zn3 b_ n_ K_ f_ 3 x_) Sx10_ := by rw [z3c, if_pos (by omega)]; rcases px13_ with z_ | z_; (exact absurd hz_ z_.1); (exact ⟨z_.2.1.trans (if_neg soq_), z_.2.2.trans ptq_.2, by show (15 : Int) ≠ 0; decide⟩)
          have rowf : ∀ pq_, x_ = .inr pq_ → inr_ b_ n_ T_ K_ f_ Sx10_ := fun pq_ hp_ => inr_fr (row_ pq_ hp_) hFx12_ rfl rfl
          refine sm_T_go 0 (c1 := (72, [some (.inr (.inr (some (13, 0)))), some (.inl t_), none], [], Sx10_)) rfl ?_
          refine ih_.2.2 t_ Sx10_ hIx11_ hFx14_ ⟨?_, ?_, ?_, ?_, trivial⟩ ?_
          · first | exact gf_ | (rw [z3w]; exact g3w) | (rw [z3c, if_neg (by omega)]; exact g3r)
          · omega
          · exact tk_
          · first | exact rowf | exact row_
          · omega
    · rintro t_ S_ hI_ hF_ ⟨g72_, tb_, tk_, row_, -⟩ hm_
      have tt_ := rtab_fr ht_ hF_ rfl rfl rfl rfl rfl
      refine sm_T_go 1 (c1 := (73, [some (.inr (.inr (some (13, 0)))), some (.inl t_), none], [.inr (.inr (some (13, 0)))], S_)) rfl ?_
      refine sm_T_cal (d1 := 2) (Q1 := vq_297 b_ n_ T_ (zn3 b_ n_ K_ f_ 3 x_) S_) rfl rfl (by decide) (vc_297 b_ n_ T_ (zn3 b_ n_ K_ f_ 3 x_) S_ hI_ (by exact tt_) (by exact g72_) (by (intro r_ e_; have z_ := (du_r (zn2_r (zn3_r e_).1).1).2; omega))) (fun u_ Sx1_ px4_ => ?_)
      obtain ⟨rfl, hIx2_, hFx3_, px4_⟩ := px4_
      have hFx5_ : ai_fr (sx_W vw_364) S0_ Sx1_ := ai_fr_tr hF_ (fr_le hFx3_ rfl)
      have ggo_ : rg b_ n_ T_ (pb x_ (p_nn b_ n_ K_ f_ 3)) Sx1_ := by rw [← nn_eq]; exact px4_.1
      have tgo_ := rtab_fr tt_ hFx3_ rfl rfl rfl rfl rfl
      have rowg : ∀ pq_, x_ = .inr pq_ → inr_ b_ n_ T_ K_ f_ Sx1_ := fun pq_ hp_ => inr_fr (row_ pq_ hp_) hFx3_ rfl rfl
      refine sm_T_go 1 (c1 := (77, [some (.inr (.inr (some (13, 0)))), some (.inl t_), none], [.inr (.inr (some (13, 0)))], Sx1_)) rfl ?_
      refine sm_T_cal (d1 := 0) (Q1 := vq_292  Sx1_) rfl rfl (by decide) (vc_292  Sx1_ hIx2_ ) (fun u_ Sx6_ px9_ => ?_)
      obtain ⟨rfl, vx11_, rfl, px9_⟩ := px9_
      have e77_ := px9_
      refine sm_T_b0 (a := 0) (z := 23) rfl (fun cx12_ => ?_) (fun cx12_ => ?_)
      · have cx12_ : vx11_ = 0 := of_decide_eq_true cx12_
        have hz7_ := wr_if e77_ (by omega)
        refine sm_T_rv rfl ⟨_, _, rfl, rfl, hIx2_, hFx5_, ?_⟩
        first | (refine ⟨ggo_, fun p_ r_ hp_ hr_ => ?_⟩; rw [hp_] at ggo_; have ggo_ : rg b_ n_ T_ (p_nn b_ n_ K_ f_ 3 p_) _ := ggo_; rw [hr_] at ggo_; exact absurd ggo_.1 hz7_) | (refine ⟨rg_fr (w_ := ([(13, 80)], [177], [])) ggo_ (ai_fr_tr (ai_fr_aI rfl) (ai_fr_pI rfl)) rfl rfl rfl, fun p_ r_ hp_ hr_ => ?_⟩; have e9_ : p7_ = p_ := (by rw [hp7_] at hp_; cases hp_; rfl); subst e9_; exact inr_up row7_ (by omega) tk7_ fd7_ (by rw [rf_eq]; show _ + 1 = _; omega) (fun j_ => by rw [rd_fa, rd_eq]; by_cases z_ : j_ = K_; (rw [if_pos (by omega), if_pos z_]); (rw [if_neg (by omega), if_neg z_])))
      · have cx12_ : ¬ (vx11_ = 0) := of_decide_eq_false cx12_
        have hz7_ := rt_if e77_ (by omega)
        obtain ⟨r7_, i7_, hr7_, hi71_, hi72_⟩ := rg_r ggo_ hz7_
        obtain ⟨p7_, hp7_, hn7_⟩ := pb_inr hr7_
        have row7_ := rowg p7_ hp7_
        have n7_ := p_nn_ok hn7_
        have k7_ := row7_.1
        have k7b := row7_.2.1
        have k7c := n7_.1
        have fd7_ : p_fd (fun s_ => nm_q b_ n_ (f_ s_) p7_) K_ = -1 := by unfold p_nn at hn7_; rw [if_pos n7_.2.1] at hn7_; by_cases z_ : p_fd (fun s_ => nm_q b_ n_ (f_ s_) p7_) K_ = -1; exact z_; (rw [if_neg z_] at hn7_; cases hn7_)
        have tk7_ := tk_ p7_ (by rw [hp7_]; show p_du b_ n_ 1 p7_ = _; unfold p_du; rw [if_pos n7_.2.1])
        have bx13_ : 0 ≤ Sx1_.1 13 0 80 ∧ Sx1_.1 13 0 80 ≤ 3 := hIx2_.1 13 0 80 rfl
        refine sm_T_go 5 (c1 := (92, [some (.inr (.inr (some (13, 0)))), some (.inl t_), none], [.inl t_, .inl (Sx1_.1 13 0 80), .inr (.inr (some (177, 0)))], Sx1_)) rfl ?_
        refine sm_T_iast (n := 3) rfl rfl (by omega) (by omega) ?_
        have hIx14_ : gi (sm_aI Sx1_ 177 0 (Sx1_.1 13 0 80).toNat t_) := gi_aI hIx2_ (show 0 ≤ t_ ∧ t_ ≤ 1280 from ⟨by omega, by omega⟩)
        have hFx15_ : ai_fr (sx_W vw_364) S0_ (sm_aI Sx1_ 177 0 (Sx1_.1 13 0 80).toNat t_) := ai_fr_tr hFx5_ (ai_fr_aI rfl)
        refine sm_T_go 4 (c1 := (99, [some (.inr (.inr (some (13, 0)))), some (.inl t_), none], [.inl 1, .inl (Sx1_.1 13 0 80), .inr (.inr (some (13, 0)))], sm_aI Sx1_ 177 0 (Sx1_.1 13 0 80).toNat t_)) rfl ?_
        refine sm_T_bin (w := (Sx1_.1 13 0 80) + 1) rfl (bi_add (by omega) (by omega) (by omega)) ?_
        have hIx16_ : gi (sm_pI (sm_aI Sx1_ 177 0 (Sx1_.1 13 0 80).toNat t_) 13 0 80 ((Sx1_.1 13 0 80) + 1)) := gi_pI hIx14_ (show 0 ≤ (Sx1_.1 13 0 80) + 1 ∧ (Sx1_.1 13 0 80) + 1 ≤ 3 from ⟨by omega, by omega⟩)
        have hFx17_ : ai_fr (sx_W vw_364) S0_ (sm_pI (sm_aI Sx1_ 177 0 (Sx1_.1 13 0 80).toNat t_) 13 0 80 ((Sx1_.1 13 0 80) + 1)) := ai_fr_tr hFx15_ (ai_fr_pI rfl)
        refine sm_T_go 1 (c1 := (103, [some (.inr (.inr (some (13, 0)))), some (.inl t_), none], [], sm_pI (sm_aI Sx1_ 177 0 (Sx1_.1 13 0 80).toNat t_) 13 0 80 ((Sx1_.1 13 0 80) + 1))) rfl ?_
        refine sm_T_rv rfl ⟨_, _, rfl, rfl, hIx16_, hFx17_, ?_⟩
        first | (refine ⟨ggo_, fun p_ r_ hp_ hr_ => ?_⟩; rw [hp_] at ggo_; have ggo_ : rg b_ n_ T_ (p_nn b_ n_ K_ f_ 3 p_) _ := ggo_; rw [hr_] at ggo_; exact absurd ggo_.1 hz7_) | (refine ⟨rg_fr (w_ := ([(13, 80)], [177], [])) ggo_ (ai_fr_tr (ai_fr_aI rfl) (ai_fr_pI rfl)) rfl rfl rfl, fun p_ r_ hp_ hr_ => ?_⟩; have e9_ : p7_ = p_ := (by rw [hp7_] at hp_; cases hp_; rfl); subst e9_; exact inr_up row7_ (by omega) tk7_ fd7_ (by rw [rf_eq]; show _ + 1 = _; omega) (fun j_ => by rw [rd_fa, rd_eq]; by_cases z_ : j_ = K_; (rw [if_pos (by omega), if_pos z_]); (rw [if_neg (by omega), if_neg z_])))
set_option maxHeartbeats 1000000 in
theorem vc_364 {sc_ : Nat × (Nat → Int)} (b_ : Nat → Int) (n_ : Nat) (T_ : Nat) (x_ : pE Nat) (K_ : Nat) (f_ : Nat → Nat) (S0_ : sm_S) (hI_ : gi S0_) (ht_ : rtab b_ n_ T_ S0_) (hx_ : rg b_ n_ T_ x_ S0_) (hin_ : ∀ p_, x_ = .inr p_ → inr_ b_ n_ T_ K_ f_ S0_) : sm_T (mt_P sc_) 3 364 (0, [some (.inr (.inr (some (13, 0)))), none, none], [], S0_) (fun r_ => ∃ u_ S1_, r_ = (.inl u_, S1_, 0) ∧ vq_364 b_ n_ T_ x_ K_ f_ S0_ u_ S1_) := by
  have hF_ : ai_fr (sx_W vw_364) S0_ S0_ := ai_fr_rf
  refine sm_T_go 2 (c1 := (2, [some (.inr (.inr (some (13, 0)))), none, none], [.inl 1, .inr (.inr (some (13, 0)))], S0_)) rfl ?_
  refine sm_T_cal (d1 := 1) (Q1 := vq_299 1 b_ n_ T_ x_ S0_) rfl rfl (by decide) (vc_299 1 b_ n_ T_ x_ S0_ hI_ (by exact ht_) (by exact hx_) (by decide)) (fun u_ Sx1_ px4_ => ?_)
  obtain ⟨vx6_, rfl, hIx2_, hFx3_, px4_⟩ := px4_
  have hFx5_ : ai_fr (sx_W vw_364) S0_ Sx1_ := ai_fr_tr hF_ (fr_le hFx3_ rfl)
  have a23_ := px4_.1
  have g23_ : rg b_ n_ T_ (pb x_ (p_du b_ n_ 1)) Sx1_ := px4_.2
  have t23_ := rtab_fr ht_ hFx3_ rfl rfl rfl rfl rfl
  have at23_ := hFx3_.1 13 0 9 rfl
  have v23b : 0 ≤ vx6_ ∧ vx6_ ≤ 1280 := by rw [a23_, ← at23_]; exact hIx2_.1 13 0 9 rfl
  have rt23_ : ∀ r_, (pb x_ (p_du b_ n_ 1)) = .inr r_ → rtk b_ n_ T_ vx6_ r_ := by intro r_ hr_; rw [hr_] at g23_; obtain ⟨i3_, q1_, q2_⟩ := g23_.2; rw [show vx6_ = (i3_ : Int) by omega]; exact (rp_rtk t23_ q2_ (du_r hr_).2).1
  have row23_ : ∀ pq_, x_ = .inr pq_ → inr_ b_ n_ T_ K_ f_ Sx1_ := fun pq_ hp_ => inr_fr (hin_ pq_ hp_) hFx3_ rfl rfl
  refine sm_T_go 3 (c1 := (8, [some (.inr (.inr (some (13, 0)))), some (.inl vx6_), some (.inl 0)], [], Sx1_)) rfl ?_
  refine (vl_364 b_ n_ T_ x_ K_ f_ S0_ ht_ hx_ hin_ _).1 vx6_ 0 Sx1_ hIx2_ hFx5_ ⟨?_, ?_, ?_, ?_, ?_, trivial⟩ (Nat.lt_succ_self _)
  · omega
  · cases hq_ : (pb x_ (p_du b_ n_ 1)) with
    | inl e_ => left; rw [hq_] at g23_; exact ⟨e_, by unfold zn2; rw [hq_]; rfl, g23_⟩
    | inr q0_ => right; rw [hq_] at g23_; exact ⟨q0_, rfl, g23_, rfl, by omega⟩
  · omega
  · exact rt23_
  · exact row23_
