/-! M_.tellCell -/
def vw_366 : sx_Wl := ([(13, 9), (13, 10), (13, 11), (13, 32), (13, 33), (13, 34), (13, 80), (13, 83)], [136, 137, 138, 139, 177, 178, 179, 180, 181, 182], [])
def vq_366 (b_ : Nat → Int) (n_ : Nat) (T_ : Nat) (p_ : Nat) (K_ : Nat) (f_ : Nat → Nat) (S0_ : sm_S) (u_ : Option sm_V) (S1_ : sm_S) : Prop := u_ = none ∧ gi S1_ ∧ ai_fr (sx_W vw_366) S0_ S1_ ∧ (rg b_ n_ T_ (pb (p_ce b_ n_ K_ f_ p_) fun c_ => .inr c_.2.2.2.2.2) S1_ ∧ ∀ c_, p_ce b_ n_ K_ f_ p_ = .inr c_ → rwc b_ n_ T_ (K_ + 1) (n_up f_ K_ c_.1) S1_)
set_option maxHeartbeats 2000000 in
set_option maxRecDepth 20000 in
theorem vl_366 {sc_ : Nat × (Nat → Int)} (b_ : Nat → Int) (n_ : Nat) (T_ : Nat) (p_ : Nat) (K_ : Nat) (f_ : Nat → Nat) (S0_ : sm_S) (ht_ : rtab b_ n_ T_ S0_) (hx_ : rg b_ n_ T_ (.inr p_) S0_) (hmo_ : (S0_.1 13 0 27) = 2) (hrow : rwc b_ n_ T_ K_ f_ S0_) : ∀ nn_ : Nat, (∀ (t_ : Int) (i_ : Int) (S_ : sm_S), gi S_ → ai_fr (sx_W vw_366) S0_ S_ → ((0 ≤ i_ ∧ i_ ≤ 12) ∧ ((∃ e_, (zn2 b_ n_ K_ f_ (p_nd b_ n_ 9 p_)) = .inl e_ ∧ rg b_ n_ T_ (.inl e_) S_) ∨ (∃ q0_, (pb (p_nd b_ n_ 9 p_) (p_du b_ n_ 1)) = .inr q0_ ∧ rg b_ n_ T_ (.inr q0_) S_ ∧ p_fd (fun s_ => nm_q b_ n_ (f_ s_) q0_)  i_.toNat = -1 ∧ i_ ≤ (K_ : Int))) ∧ (0 ≤ t_ ∧ t_ ≤ 1280) ∧ (∀ pq_, (pb (p_nd b_ n_ 9 p_) (p_du b_ n_ 1)) = .inr pq_ → rtk b_ n_ T_ t_ pq_) ∧ (∀ pq_, (p_nd b_ n_ 9 p_) = .inr pq_ → rwc b_ n_ T_ K_ f_ S_) ∧ True) → ((9000 - i_).toNat) < nn_ → sm_T (mt_P sc_) 8 366 (30, [some (.inr (.inr (some (13, 0)))), some (.inl t_), some (.inl i_)], [], S_) (fun r_ => ∃ u_ S1_, r_ = (.inl u_, S1_, 0) ∧ vq_366 b_ n_ T_ p_ K_ f_ S0_ u_ S1_)) ∧ (∀ (t_ : Int) (S_ : sm_S), gi S_ → ai_fr (sx_W vw_366) S0_ S_ → ((rg b_ n_ T_ (zn2 b_ n_ K_ f_ (p_nd b_ n_ 9 p_)) S_) ∧ (0 ≤ t_ ∧ t_ ≤ 1280) ∧ (∀ pq_, (pb (p_nd b_ n_ 9 p_) (p_du b_ n_ 1)) = .inr pq_ → rtk b_ n_ T_ t_ pq_) ∧ (∀ pq_, (p_nd b_ n_ 9 p_) = .inr pq_ → rwc b_ n_ T_ K_ f_ S_) ∧ True) → ((8000 : Nat)) < nn_ → sm_T (mt_P sc_) 8 366 (72, [some (.inr (.inr (some (13, 0)))), some (.inl t_), none], [], S_) (fun r_ => ∃ u_ S1_, r_ = (.inl u_, S1_, 0) ∧ vq_366 b_ n_ T_ p_ K_ f_ S0_ u_ S1_)) ∧ (∀ (t_ : Int) (S_ : sm_S), gi S_ → ai_fr (sx_W vw_366) S0_ S_ → ((rg b_ n_ T_ (zn3 b_ n_ K_ f_ 12 (p_nd b_ n_ 9 p_)) S_) ∧ (0 ≤ t_ ∧ t_ ≤ 1280) ∧ (∀ pq_, (pb (p_nd b_ n_ 9 p_) (p_du b_ n_ 1)) = .inr pq_ → rtk b_ n_ T_ t_ pq_) ∧ (∀ pq_, (p_nd b_ n_ 9 p_) = .inr pq_ → rwc b_ n_ T_ K_ f_ S_) ∧ True) → ((7000 : Nat)) < nn_ → sm_T (mt_P sc_) 8 366 (95, [some (.inr (.inr (some (13, 0)))), some (.inl t_), none], [], S_) (fun r_ => ∃ u_ S1_, r_ = (.inl u_, S1_, 0) ∧ vq_366 b_ n_ T_ p_ K_ f_ S0_ u_ S1_)) ∧ (∀ (t_ : Int) (S_ : sm_S), gi S_ → ai_fr (sx_W vw_366) S0_ S_ → ((y_w b_ n_ T_ (y_3 b_ n_ K_ f_ p_) S_ ∨ y_i b_ n_ T_ (y_3 b_ n_ K_ f_ p_) S_) ∧ (0 ≤ t_ ∧ t_ ≤ 1280) ∧ (∀ q_, (pb (p_nd b_ n_ 9 p_) (p_du b_ n_ 1)) = .inr q_ → rtk b_ n_ T_ t_ q_) ∧ (∀ r_, p_nd b_ n_ 9 p_ = .inr r_ → rwc b_ n_ T_ K_ f_ S_) ∧ True) → (r_m4 S_) < nn_ → sm_T (mt_P sc_) 8 366 (114, [some (.inr (.inr (some (13, 0)))), some (.inl t_), none], [], S_) (fun r_ => ∃ u_ S1_, r_ = (.inl u_, S1_, 0) ∧ vq_366 b_ n_ T_ p_ K_ f_ S0_ u_ S1_)) ∧ (∀ (t_ : Int) (S_ : sm_S), gi S_ → ai_fr (sx_W vw_366) S0_ S_ → ((rg b_ n_ T_ (pb (y_3 b_ n_ K_ f_ p_) fun a_ => .inr a_.2.2.2) S_) ∧ (∀ a_, (y_3 b_ n_ K_ f_ p_) = .inr a_ → inr_ b_ n_ T_ a_.2.1 a_.2.2.1 S_) ∧ (0 ≤ t_ ∧ t_ ≤ 1280) ∧ (∀ q_, (pb (p_nd b_ n_ 9 p_) (p_du b_ n_ 1)) = .inr q_ → rtk b_ n_ T_ t_ q_) ∧ (∀ r_, p_nd b_ n_ 9 p_ = .inr r_ → rwc b_ n_ T_ K_ f_ S_) ∧ True) → ((0 : Nat)) < nn_ → sm_T (mt_P sc_) 8 366 (141, [some (.inr (.inr (some (13, 0)))), some (.inl t_), none], [], S_) (fun r_ => ∃ u_ S1_, r_ = (.inl u_, S1_, 0) ∧ vq_366 b_ n_ T_ p_ K_ f_ S0_ u_ S1_)) := by
  intro nn_
  induction nn_ with
  | zero => exact ⟨fun _ _ _ _ _ _ h_ => absurd h_ (Nat.not_lt_zero _), fun _ _ _ _ _ h_ => absurd h_ (Nat.not_lt_zero _), fun _ _ _ _ _ h_ => absurd h_ (Nat.not_lt_zero _), fun _ _ _ _ _ h_ => absurd h_ (Nat.not_lt_zero _), fun _ _ _ _ _ h_ => absurd h_ (Nat.not_lt_zero _)⟩
  | succ nn_ ih_ =>
    refine ⟨?_, ?_, ?_, ?_, ?_⟩
    · rintro t_ i_ S_ hI_ hF_ ⟨h0_, h1_, tb_, tk_, row_, -⟩ hm_
      have le0_ := rg_le ht_ hx_
      have hn1_ := ht_.1
      have tt_ := rtab_fr ht_ hF_ rfl rfl rfl rfl rfl
      have cb1_ : 0 ≤ S_.1 13 0 83 ∧ S_.1 13 0 83 ≤ 12 := hI_.1 13 0 83 rfl
      have bx1_ : 0 ≤ S_.1 13 0 83 ∧ S_.1 13 0 83 ≤ 12 := hI_.1 13 0 83 rfl
      refine sm_T_go 3 (c1 := (35, [some (.inr (.inr (some (13, 0)))), some (.inl t_), some (.inl i_)], [.inl (S_.1 13 0 83), .inl i_], S_)) rfl ?_
      refine sm_T_br (a := 3) (z := 37) rfl (fun cx2_ => ?_) (fun cx2_ => ?_)
      · have cx2_ : (S_.1 13 0 83) ≤ i_ := of_decide_eq_true cx2_
        refine sm_T_go 0 (c1 := (72, [some (.inr (.inr (some (13, 0)))), some (.inl t_), some (.inl i_)], [], S_)) rfl ?_
        refine sm_T_wk [some (.inr (.inr (some (13, 0)))), some (.inl t_), none] (by exact ⟨rfl, rfl, trivial⟩) ?_
        refine ih_.2.1 t_ S_ hI_ hF_ ⟨?_, ?_, ?_, ?_, trivial⟩ ?_
        · rcases h1_ with ⟨e_, z1_, z2_⟩ | ⟨q0_, z1_, z2_, z3_, z4_⟩
          · rw [z1_]; exact z2_
          · have rowq := row_ q0_ (du_r z1_).1
            have cnq_ : S_.1 13 0 83 = (K_ : Int) := rowq.1.1
            first | (exact absurd z2_.1 hz_) | (have e_ : (zn2 b_ n_ K_ f_ (p_nd b_ n_ 9 p_)) = .inr q0_ := (by unfold zn2; rw [z1_]; show (if p_fd (fun s_ => nm_q b_ n_ (f_ s_) q0_) K_ = -1 then _ else _) = _; rw [show K_ = i_.toNat by omega, if_pos z3_]); rw [e_]; exact z2_)
        · omega
        · exact tk_
        · exact row_
        · omega
      · have cx2_ : ¬ ((S_.1 13 0 83) ≤ i_) := of_decide_eq_false cx2_
        refine sm_T_go 1 (c1 := (39, [some (.inr (.inr (some (13, 0)))), some (.inl t_), some (.inl i_)], [.inr (.inr (some (13, 0)))], S_)) rfl ?_
        refine sm_T_cal (d1 := 0) (Q1 := vq_292  S_) rfl rfl (by decide) (vc_292  S_ hI_ ) (fun u_ Sx3_ px6_ => ?_)
        obtain ⟨rfl, vx8_, rfl, px6_⟩ := px6_
        have e1r := px6_
        refine sm_T_b0 (a := 0) (z := 30) rfl (fun cx9_ => ?_) (fun cx9_ => ?_)
        · have cx9_ : vx8_ = 0 := of_decide_eq_true cx9_
          have hz_ := wr_if e1r (by omega)
          refine sm_T_go 0 (c1 := (72, [some (.inr (.inr (some (13, 0)))), some (.inl t_), some (.inl i_)], [], S_)) rfl ?_
          refine sm_T_wk [some (.inr (.inr (some (13, 0)))), some (.inl t_), none] (by exact ⟨rfl, rfl, trivial⟩) ?_
          refine ih_.2.1 t_ S_ hI_ hF_ ⟨?_, ?_, ?_, ?_, trivial⟩ ?_
          · rcases h1_ with ⟨e_, z1_, z2_⟩ | ⟨q0_, z1_, z2_, z3_, z4_⟩
            · rw [z1_]; exact z2_
            · have rowq := row_ q0_ (du_r z1_).1
              have cnq_ : S_.1 13 0 83 = (K_ : Int) := rowq.1.1
              first | (exact absurd z2_.1 hz_) | (have e_ : (zn2 b_ n_ K_ f_ (p_nd b_ n_ 9 p_)) = .inr q0_ := (by unfold zn2; rw [z1_]; show (if p_fd (fun s_ => nm_q b_ n_ (f_ s_) q0_) K_ = -1 then _ else _) = _; rw [show K_ = i_.toNat by omega, if_pos z3_]); rw [e_]; exact z2_)
          · omega
          · exact tk_
          · exact row_
          · omega
        · have cx9_ : ¬ (vx8_ = 0) := of_decide_eq_false cx9_
          have hz_ := rt_if e1r (by omega)
          obtain ⟨q0_, hq0_, gq0_, fq0_, iq0_⟩ : ∃ q0_, (pb (p_nd b_ n_ 9 p_) (p_du b_ n_ 1)) = .inr q0_ ∧ rg b_ n_ T_ (.inr q0_) S_ ∧ p_fd (fun s_ => nm_q b_ n_ (f_ s_) q0_)  i_.toNat = -1 ∧ i_ ≤ (K_ : Int) := by rcases h1_ with ⟨e_, z1_, z2_⟩ | z_; (exact absurd (z2_.1.symm.trans hz_) z2_.2.2); exact z_
          have rowq := row_ q0_ (du_r hq0_).1
          have cnq_ : S_.1 13 0 83 = (K_ : Int) := rowq.1.1
          have rtq_ := rowq.1.2 i_.toNat (by omega)
          have tkq_ := tk_ q0_ hq0_
          have ptq_ := rtk_pl tt_ tkq_
          have soq_ : S_.2.2.1 119 0 t_.toNat ≠ 4 := by obtain ⟨i3_, y1_, y2_, y3_, y4_⟩ := tkq_; have y5_ := (tt_.2.2.1.1 i3_ y2_).2; rw [← y3_] at y5_; rw [y1_, Int.toNat_natCast, y5_.2.1, y4_.2]; decide
          refine sm_T_go 4 (c1 := (51, [some (.inr (.inr (some (13, 0)))), some (.inl t_), some (.inl i_)], [.inl i_, .inr (.inr (some (178, 0))), .inr (.inr (some (13, 0)))], S_)) rfl ?_
          refine sm_T_iald (n := 12) rfl rfl (by omega) (by omega) ?_
          have bx10_ : 0 ≤ S_.2.2.1 178 0 i_.toNat ∧ S_.2.2.1 178 0 i_.toNat ≤ 1280 := hI_.2 178 0 _
          refine sm_T_go 1 (c1 := (53, [some (.inr (.inr (some (13, 0)))), some (.inl t_), some (.inl i_)], [.inl t_, .inl (S_.2.2.1 178 0 i_.toNat), .inr (.inr (some (13, 0)))], S_)) rfl ?_
          refine sm_T_cal (d1 := 0) (Q1 := vq_301 (S_.2.2.1 178 0 i_.toNat) t_ b_ n_ T_ (f_ i_.toNat) q0_ S_) rfl rfl (by decide) (vc_301 (S_.2.2.1 178 0 i_.toNat) t_ b_ n_ T_ (f_ i_.toNat) q0_ S_ hI_ (by exact tt_) (by exact rtq_) (by exact tkq_)) (fun u_ Sx11_ px14_ => ?_)
          obtain ⟨rfl, vx16_, rfl, px14_⟩ := px14_
          have esm_ := px14_
          refine sm_T_b0 (a := 0) (z := 10) rfl (fun cx17_ => ?_) (fun cx17_ => ?_)
          · have cx17_ : vx16_ = 0 := of_decide_eq_true cx17_
            have nq_ : nm_q b_ n_ (f_ i_.toNat) q0_ = false := by cases z_ : nm_q b_ n_ (f_ i_.toNat) q0_; rfl; (rw [if_pos z_] at esm_; omega)
            refine sm_T_inc (a := 2) (z := 1) (v := i_) (w := i_ + 1) rfl rfl (by omega) (by omega) (by omega) ?_
            refine sm_T_go 1 (c1 := (30, [some (.inr (.inr (some (13, 0)))), some (.inl t_), some (.inl (i_ + 1))], [], S_)) rfl ?_
            refine ih_.1 t_ (i_ + 1) S_ hI_ hF_ ⟨?_, ?_, ?_, ?_, ?_, trivial⟩ ?_
            · omega
            · first | (left; exact ⟨_, z2e, gw_⟩) | (right; exact ⟨q0_, hq0_, gq0_, by rw [show (i_ + 1).toNat = i_.toNat + 1 by omega]; exact p_fd_nx fq0_ nq_, by omega⟩)
            · omega
            · exact tk_
            · first | exact roww | exact row_
            · omega
          · have cx17_ : ¬ (vx16_ = 0) := of_decide_eq_false cx17_
            have nq_ : nm_q b_ n_ (f_ i_.toNat) q0_ = true := by cases z_ : nm_q b_ n_ (f_ i_.toNat) q0_; (rw [if_neg (by rw [z_]; decide)] at esm_; omega); rfl
            have z2e : (zn2 b_ n_ K_ f_ (p_nd b_ n_ 9 p_)) = .inl (10, q0_) := by unfold zn2; rw [hq0_]; show (if p_fd (fun s_ => nm_q b_ n_ (f_ s_) q0_)  K_ = -1 then _ else _) = _; rw [if_neg (by rw [p_fd_go fq0_ nq_ (show i_.toNat < K_ by omega)]; omega)]
            refine sm_T_go 3 (c1 := (63, [some (.inr (.inr (some (13, 0)))), some (.inl t_), some (.inl i_)], [.inl t_, .inl 10, .inr (.inr (some (13, 0)))], S_)) rfl ?_
            refine sm_T_cal (d1 := 0) (Q1 := vq_293 10 t_ S_) rfl rfl (by decide) (vc_293 10 t_ S_ hI_ (by decide) (by omega)) (fun u_ Sx18_ px21_ => ?_)
            obtain ⟨rfl, hIx19_, hFx20_, px21_⟩ := px21_
            have hFx22_ : ai_fr (sx_W vw_366) S0_ Sx18_ := ai_fr_tr hF_ (fr_le hFx20_ rfl)
            have ex23_ : Sx18_.1 13 0 83 = S_.1 13 0 83 := hFx20_.1 13 0 83 rfl
            have gw_ : rg b_ n_ T_ (.inl (10, q0_)) Sx18_ := by rcases px21_ with z_ | z_; (exact absurd hz_ z_.1); (exact ⟨z_.2.1.trans (if_neg soq_), z_.2.2.trans ptq_.2, by show (10 : Int) ≠ 0; decide⟩)
            have roww : ∀ pq_, (p_nd b_ n_ 9 p_) = .inr pq_ → rwc b_ n_ T_ K_ f_ Sx18_ := fun pq_ hp_ => rwc_fr (row_ pq_ hp_) hFx20_ rfl rfl rfl rfl
            refine sm_T_inc (a := 2) (z := 1) (v := i_) (w := i_ + 1) rfl rfl (by omega) (by omega) (by omega) ?_
            refine sm_T_go 1 (c1 := (30, [some (.inr (.inr (some (13, 0)))), some (.inl t_), some (.inl (i_ + 1))], [], Sx18_)) rfl ?_
            refine ih_.1 t_ (i_ + 1) Sx18_ hIx19_ hFx22_ ⟨?_, ?_, ?_, ?_, ?_, trivial⟩ ?_
            · omega
            · first | (left; exact ⟨_, z2e, gw_⟩) | (right; exact ⟨q0_, hq0_, gq0_, by rw [show (i_ + 1).toNat = i_.toNat + 1 by omega]; exact p_fd_nx fq0_ nq_, by omega⟩)
            · omega
            · exact tk_
            · first | exact roww | exact row_
            · omega
    · rintro t_ S_ hI_ hF_ ⟨g50_, tb_, tk_, row_, -⟩ hm_
      have le0_ := rg_le ht_ hx_
      have hn1_ := ht_.1
      have tt_ := rtab_fr ht_ hF_ rfl rfl rfl rfl rfl
      refine sm_T_go 1 (c1 := (73, [some (.inr (.inr (some (13, 0)))), some (.inl t_), none], [.inr (.inr (some (13, 0)))], S_)) rfl ?_
      refine sm_T_cal (d1 := 0) (Q1 := vq_292  S_) rfl rfl (by decide) (vc_292  S_ hI_ ) (fun u_ Sx1_ px4_ => ?_)
      obtain ⟨rfl, vx6_, rfl, px4_⟩ := px4_
      have e2r := px4_
      refine sm_T_b0 (a := 0) (z := 19) rfl (fun cx7_ => ?_) (fun cx7_ => ?_)
      · have cx7_ : vx6_ = 0 := of_decide_eq_true cx7_
        have hz_ := wr_if e2r (by omega)
        obtain ⟨e5_, he5_⟩ := rg_w g50_ hz_
        have z3w : (zn3 b_ n_ K_ f_ 12 (p_nd b_ n_ 9 p_)) = .inl e5_ := by unfold zn3; rw [he5_]; rfl
        have g3w := g50_
        rw [he5_] at g3w
        refine sm_T_go 0 (c1 := (95, [some (.inr (.inr (some (13, 0)))), some (.inl t_), none], [], S_)) rfl ?_
        refine ih_.2.2.1 t_ S_ hI_ hF_ ⟨?_, ?_, ?_, ?_, trivial⟩ ?_
        · first | exact gf_ | (rw [z3w]; exact g3w) | (rw [z3c, if_neg (by omega)]; exact g3r)
        · omega
        · exact tk_
        · first | exact rowf | exact row_
        · omega
      · have cx7_ : ¬ (vx6_ = 0) := of_decide_eq_false cx7_
        have hz_ := rt_if e2r (by omega)
        obtain ⟨q0_, i2_, hq2_, hi21_, hi22_⟩ := rg_r g50_ hz_
        have hq0_ := (zn2_r hq2_).1
        have g3r := g50_
        rw [hq2_] at g3r
        have z3c : (zn3 b_ n_ K_ f_ 12 (p_nd b_ n_ 9 p_)) = if (K_ : Int) = 12 then .inl (15, q0_) else .inr q0_ := by unfold zn3; rw [hq2_]; rfl
        have rowq := row_ q0_ (du_r hq0_).1
        have cnq_ : S_.1 13 0 83 = (K_ : Int) := rowq.1.1
        have tkq_ := tk_ q0_ hq0_
        have ptq_ := rtk_pl tt_ tkq_
        have soq_ : S_.2.2.1 119 0 t_.toNat ≠ 4 := by obtain ⟨i3_, y1_, y2_, y3_, y4_⟩ := tkq_; have y5_ := (tt_.2.2.1.1 i3_ y2_).2; rw [← y3_] at y5_; rw [y1_, Int.toNat_natCast, y5_.2.1, y4_.2]; decide
        have bx8_ : 0 ≤ S_.1 13 0 83 ∧ S_.1 13 0 83 ≤ 12 := hI_.1 13 0 83 rfl
        refine sm_T_go 3 (c1 := (85, [some (.inr (.inr (some (13, 0)))), some (.inl t_), none], [.inl 12, .inl (S_.1 13 0 83)], S_)) rfl ?_
        refine sm_T_br (a := 1) (z := 10) rfl (fun cx9_ => ?_) (fun cx9_ => ?_)
        · have cx9_ : (S_.1 13 0 83) ≠ 12 := of_decide_eq_true cx9_
          refine sm_T_go 0 (c1 := (95, [some (.inr (.inr (some (13, 0)))), some (.inl t_), none], [], S_)) rfl ?_
          refine ih_.2.2.1 t_ S_ hI_ hF_ ⟨?_, ?_, ?_, ?_, trivial⟩ ?_
          · first | exact gf_ | (rw [z3w]; exact g3w) | (rw [z3c, if_neg (by omega)]; exact g3r)
          · omega
          · exact tk_
          · first | exact rowf | exact row_
          · omega
        · have cx9_ : ¬ ((S_.1 13 0 83) ≠ 12) := of_decide_eq_false cx9_
          refine sm_T_go 3 (c1 := (92, [some (.inr (.inr (some (13, 0)))), some (.inl t_), none], [.inl t_, .inl 15, .inr (.inr (some (13, 0)))], S_)) rfl ?_
          refine sm_T_cal (d1 := 0) (Q1 := vq_293 15 t_ S_) rfl rfl (by decide) (vc_293 15 t_ S_ hI_ (by decide) (by omega)) (fun u_ Sx10_ px13_ => ?_)
          obtain ⟨rfl, hIx11_, hFx12_, px13_⟩ := px13_
          have hFx14_ : ai_fr (sx_W vw_366) S0_ Sx10_ := ai_fr_tr hF_ (fr_le hFx12_ rfl)
          have ex15_ : Sx10_.1 13 0 83 = S_.1 13 0 83 := hFx12_.1 13 0 83 rfl
          have gf_ : rg b_ n_ T_ (zn3 b_ n_ K_ f_ 12 (p_nd b_ n_ 9 p_)) Sx10_ := by rw [z3c, if_pos (by omega)]; rcases px13_ with z_ | z_; (exact absurd hz_ z_.1); (exact ⟨z_.2.1.trans (if_neg soq_), z_.2.2.trans ptq_.2, by show (15 : Int) ≠ 0; decide⟩)
          have rowf : ∀ pq_, (p_nd b_ n_ 9 p_) = .inr pq_ → rwc b_ n_ T_ K_ f_ Sx10_ := fun pq_ hp_ => rwc_fr (row_ pq_ hp_) hFx12_ rfl rfl rfl rfl
          refine sm_T_go 0 (c1 := (95, [some (.inr (.inr (some (13, 0)))), some (.inl t_), none], [], Sx10_)) rfl ?_
          refine ih_.2.2.1 t_ Sx10_ hIx11_ hFx14_ ⟨?_, ?_, ?_, ?_, trivial⟩ ?_
          · first | exact gf_ | (rw [z3w]; exact g3w) | (rw [z3c, if_neg (by omega)]; exact g3r)
          · omega
          · exact tk_
          · first | exact rowf | exact row_
          · omega
    · rintro t_ S_ hI_ hF_ ⟨g72_, tb_, tk_, row_, -⟩ hm_
      have le0_ := rg_le ht_ hx_
      have hn1_ := ht_.1
      have tt_ := rtab_fr ht_ hF_ rfl rfl rfl rfl rfl
      refine sm_T_go 1 (c1 := (96, [some (.inr (.inr (some (13, 0)))), some (.inl t_), none], [.inr (.inr (some (13, 0)))], S_)) rfl ?_
      refine sm_T_cal (d1 := 2) (Q1 := vq_297 b_ n_ T_ (zn3 b_ n_ K_ f_ 12 (p_nd b_ n_ 9 p_)) S_) rfl rfl (by decide) (vc_297 b_ n_ T_ (zn3 b_ n_ K_ f_ 12 (p_nd b_ n_ 9 p_)) S_ hI_ (by exact tt_) (by exact g72_) (by (intro r_ e_; have z_ := (du_r (zn2_r (zn3_r e_).1).1).2; omega))) (fun u_ Sx1_ px4_ => ?_)
      obtain ⟨rfl, hIx2_, hFx3_, px4_⟩ := px4_
      have hFx5_ : ai_fr (sx_W vw_366) S0_ Sx1_ := ai_fr_tr hF_ (fr_le hFx3_ rfl)
      have ggo_ : rg b_ n_ T_ (pb (p_nd b_ n_ 9 p_) (p_nn b_ n_ K_ f_ 12)) Sx1_ := by rw [← nn_eq]; exact px4_.1
      have tgo_ := rtab_fr tt_ hFx3_ rfl rfl rfl rfl rfl
      have rowg : ∀ pq_, (p_nd b_ n_ 9 p_) = .inr pq_ → rwc b_ n_ T_ K_ f_ Sx1_ := fun pq_ hp_ => rwc_fr (row_ pq_ hp_) hFx3_ rfl rfl rfl rfl
      have g96_ : rg b_ n_ T_ (pb (y_1 b_ n_ K_ f_ p_) fun a_ => .inr a_.2) Sx1_ := by unfold y_1; cases hy_ : p_nd b_ n_ 9 p_ with | inl e_ => (rw [hy_] at ggo_; exact ggo_) | inr q_ => (rw [hy_] at ggo_; rw [pb_ir, pb_as]; have z_ : (pb (p_nn b_ n_ K_ f_ 12 q_) fun a_ => pb (.inr (q_, a_)) fun a_ => .inr a_.2) = p_nn b_ n_ K_ f_ 12 q_ := pb_id; rw [z_]; exact ggo_)
      refine sm_T_go 2 (c1 := (102, [some (.inr (.inr (some (13, 0)))), some (.inl t_), none], [.inl 40, .inr (.inr (some (13, 0)))], Sx1_)) rfl ?_
      refine sm_T_cal (d1 := 3) (Q1 := vq_300 40 b_ n_ T_ (pb (y_1 b_ n_ K_ f_ p_) fun a_ => .inr a_.2) Sx1_) rfl rfl (by decide) (vc_300 40 b_ n_ T_ (pb (y_1 b_ n_ K_ f_ p_) fun a_ => .inr a_.2) Sx1_ hIx2_ (by exact tgo_) (by exact g96_) (by decide)) (fun u_ Sx6_ px9_ => ?_)
      obtain ⟨rfl, hIx7_, hFx8_, px9_⟩ := px9_
      have hFx10_ : ai_fr (sx_W vw_366) S0_ Sx6_ := ai_fr_tr hFx5_ (fr_le hFx8_ rfl)
      have t102_ := rtab_fr tgo_ hFx8_ rfl rfl rfl rfl rfl
      have g102_ : rg b_ n_ T_ (pb (y_2 b_ n_ K_ f_ p_) fun a_ => .inr a_.2) Sx6_ := rg_pb px9_ (fun a_ _ => by rw [pb_as]; exact pb_id.symm)
      have row102_ : ∀ r_, p_nd b_ n_ 9 p_ = .inr r_ → rwc b_ n_ T_ K_ f_ Sx6_ := fun r_ hr_ => rwc_fr (rowg r_ hr_) hFx8_ rfl rfl rfl rfl
      have hIx11_ : gi (sm_pI Sx6_ 13 0 80 0) := gi_pI hIx7_ (show 0 ≤ 0 ∧ 0 ≤ 3 from ⟨by omega, by omega⟩)
      have hFx12_ : ai_fr (sx_W vw_366) S0_ (sm_pI Sx6_ 13 0 80 0) := ai_fr_tr hFx10_ (ai_fr_pI rfl)
      refine sm_T_go 4 (c1 := (111, [some (.inr (.inr (some (13, 0)))), some (.inl t_), none], [.inr (.inr (some (13, 0)))], sm_pI Sx6_ 13 0 80 0)) rfl ?_
      refine sm_T_cal (d1 := 3) (Q1 := vq_364 b_ n_ T_ (pb (y_2 b_ n_ K_ f_ p_) fun a_ => .inr a_.2) 0 f_0 (sm_pI Sx6_ 13 0 80 0)) rfl rfl (by decide) (vc_364 b_ n_ T_ (pb (y_2 b_ n_ K_ f_ p_) fun a_ => .inr a_.2) 0 f_0 (sm_pI Sx6_ 13 0 80 0) hIx11_ (by exact rtab_fr (w_ := ([(13, 80)], [], [])) t102_ (ai_fr_pI rfl) rfl rfl rfl rfl rfl) (by exact rg_fr (w_ := ([(13, 80)], [], [])) g102_ (ai_fr_pI rfl) rfl rfl rfl) (by (intro q_ hq_; exact ⟨rf_eq, by decide, fun j_ hj_ => absurd hj_ (Nat.not_lt_zero _), fun i_ j_ _ hj_ => absurd hj_ (Nat.not_lt_zero _)⟩))) (fun u_ Sx13_ px16_ => ?_)
      obtain ⟨rfl, hIx14_, hFx15_, px16_⟩ := px16_
      have hFx17_ : ai_fr (sx_W vw_366) S0_ Sx13_ := ai_fr_tr hFx12_ (fr_le hFx15_ rfl)
      have e111_ := px16_
      have row111_ : ∀ r_, p_nd b_ n_ 9 p_ = .inr r_ → rwc b_ n_ T_ K_ f_ Sx13_ := fun r_ hr_ => rwc_fr (S_ := (sm_pI Sx6_ 13 0 80 0)) (rwc_fr (w_ := ([(13, 80)], [], [])) (row102_ r_ hr_) (ai_fr_pI rfl) rfl rfl rfl rfl) hFx15_ rfl rfl rfl rfl
      have h111_ : y_w b_ n_ T_ (y_3 b_ n_ K_ f_ p_) Sx13_ ∨ y_i b_ n_ T_ (y_3 b_ n_ K_ f_ p_) Sx13_ := by cases hy_ : (y_2 b_ n_ K_ f_ p_) with | inl e_ => (left; rw [hy_] at e111_; exact ⟨e_, by unfold y_3; rw [hy_]; rfl, e111_.1⟩) | inr a_ => (rw [hy_] at e111_; exact yi_nn (x_ := .inr a_.2) (q_ := a_.1) (by decide) e111_.1 e111_.2 (by unfold y_3; rw [hy_]; rfl))
      refine sm_T_go 0 (c1 := (114, [some (.inr (.inr (some (13, 0)))), some (.inl t_), none], [], Sx13_)) rfl ?_
      refine ih_.2.2.2.1 t_ Sx13_ hIx14_ hFx17_ ⟨?_, ?_, ?_, ?_, trivial⟩ ?_
      · exact h111_
      · omega
      · exact tk_
      · exact row111_
      · exact Nat.lt_of_le_of_lt (rm4_b hIx14_).2 (by omega)
    · rintro t_ S_ hI_ hF_ ⟨h1_, tb_, tk_, row_, -⟩ hm_
      have le0_ := rg_le ht_ hx_
      have hn1_ := ht_.1
      have tt_ := rtab_fr ht_ hF_ rfl rfl rfl rfl rfl
      refine sm_T_go 1 (c1 := (115, [some (.inr (.inr (some (13, 0)))), some (.inl t_), none], [.inr (.inr (some (13, 0)))], S_)) rfl ?_
      refine sm_T_cal (d1 := 0) (Q1 := vq_292  S_) rfl rfl (by decide) (vc_292  S_ hI_ ) (fun u_ Sx1_ px4_ => ?_)
      obtain ⟨rfl, vx6_, rfl, px4_⟩ := px4_
      have e115_ := px4_
      refine sm_T_b0 (a := 0) (z := 23) rfl (fun cx7_ => ?_) (fun cx7_ => ?_)
      · have cx7_ : vx6_ = 0 := of_decide_eq_true cx7_
        have hz_ := wr_if e115_ (by omega)
        have hw_ : y_w b_ n_ T_ (y_3 b_ n_ K_ f_ p_) S_ := by rcases h1_ with z_ | ⟨q_, K1_, f1_, r_, z1_, z2_⟩; exact z_; (exact absurd z1_.1 hz_)
        refine sm_T_go 0 (c1 := (141, [some (.inr (.inr (some (13, 0)))), some (.inl t_), none], [], S_)) rfl ?_
        refine ih_.2.2.2.2 t_ S_ hI_ hF_ ⟨?_, ?_, ?_, ?_, ?_, trivial⟩ ?_
        · first | (obtain ⟨e9_, z1_, z2_⟩ := hw_; rw [z1_]; exact z2_) | (rw [hZ1_]; exact g1_)
        · first | (obtain ⟨e9_, z1_, z2_⟩ := hw_; intro a_ ha_; rw [z1_] at ha_; cases ha_; done) | (intro a_ ha_; rw [hZ1_] at ha_; cases ha_; exact in1_)
        · omega
        · exact tk_
        · exact row_
        · (have z_ := (rm4_b hI_).1); omega
      · have cx7_ : ¬ (vx6_ = 0) := of_decide_eq_false cx7_
        have hz_ := rt_if e115_ (by omega)
        obtain ⟨q1_, K1_, f1_, r1_, g1_, in1_, hK1_, hZ1_⟩ : y_i b_ n_ T_ (y_3 b_ n_ K_ f_ p_) S_ := by rcases h1_ with ⟨e_, z1_, z2_⟩ | z_; (exact absurd (z2_.1.symm.trans hz_) z2_.2.2); exact z_
        have in1a := in1_.1
        have in1b := in1_.2.1
        have le1_ := rg_le tt_ g1_
        refine sm_T_go 2 (c1 := (124, [some (.inr (.inr (some (13, 0)))), some (.inl t_), none], [.inl 44, .inr (.inr (some (13, 0)))], S_)) rfl ?_
        refine sm_T_cal (d1 := 0) (Q1 := vq_295 44 b_ n_ T_ (.inr r1_) S_) rfl rfl (by decide) (vc_295 44 b_ n_ T_ (.inr r1_) S_ hI_ (by exact tt_) (by exact g1_) (by decide)) (fun u_ Sx8_ px11_ => ?_)
        obtain ⟨rfl, vx13_, rfl, px11_⟩ := px11_
        have e124_ := px11_.2 r1_ rfl
        have r124_ := px11_.1.1
        refine sm_T_b0 (a := 0) (z := 14) rfl (fun cx14_ => ?_) (fun cx14_ => ?_)
        · have cx14_ : vx13_ = 0 := of_decide_eq_true cx14_
          have n44_ : lx_kd b_ n_ r1_ ≠ 44 := fun z_ => by have := e124_.mpr z_; omega
          rw [if_neg n44_] at hZ1_
          refine sm_T_go 0 (c1 := (141, [some (.inr (.inr (some (13, 0)))), some (.inl t_), none], [], S_)) rfl ?_
          refine ih_.2.2.2.2 t_ S_ hI_ hF_ ⟨?_, ?_, ?_, ?_, ?_, trivial⟩ ?_
          · first | (obtain ⟨e9_, z1_, z2_⟩ := hw_; rw [z1_]; exact z2_) | (rw [hZ1_]; exact g1_)
          · first | (obtain ⟨e9_, z1_, z2_⟩ := hw_; intro a_ ha_; rw [z1_] at ha_; cases ha_; done) | (intro a_ ha_; rw [hZ1_] at ha_; cases ha_; exact in1_)
          · omega
          · exact tk_
          · exact row_
          · (have z_ := (rm4_b hI_).1); omega
        · have cx14_ : ¬ (vx13_ = 0) := of_decide_eq_false cx14_
          have k44_ : lx_kd b_ n_ r1_ = 44 := e124_.mp (by omega)
          rw [if_pos k44_] at hZ1_
          refine sm_T_go 1 (c1 := (131, [some (.inr (.inr (some (13, 0)))), some (.inl t_), none], [.inr (.inr (some (13, 0)))], S_)) rfl ?_
          refine sm_T_cal (d1 := 2) (Q1 := vq_297 b_ n_ T_ (.inr r1_) S_) rfl rfl (by decide) (vc_297 b_ n_ T_ (.inr r1_) S_ hI_ (by exact tt_) (by exact g1_) (by (intro z_ e_; cases e_; rw [k44_]; decide))) (fun u_ Sx15_ px18_ => ?_)
          obtain ⟨rfl, hIx16_, hFx17_, px18_⟩ := px18_
          have hFx19_ : ai_fr (sx_W vw_366) S0_ Sx15_ := ai_fr_tr hF_ (fr_le hFx17_ rfl)
          have g131_ : rg b_ n_ T_ (p_ad b_ n_ r1_) Sx15_ := px18_.1
          have t131_ := rtab_fr tt_ hFx17_ rfl rfl rfl rfl rfl
          have in131_ := inr_fr in1_ hFx17_ rfl rfl
          have row131_ : ∀ r_, p_nd b_ n_ 9 p_ = .inr r_ → rwc b_ n_ T_ K_ f_ Sx15_ := fun r_ hr_ => rwc_fr (row_ r_ hr_) hFx17_ rfl rfl rfl rfl
          have ci131_ := hFx17_.1 13 0 80 rfl
          refine sm_T_go 1 (c1 := (135, [some (.inr (.inr (some (13, 0)))), some (.inl t_), none], [.inr (.inr (some (13, 0)))], Sx15_)) rfl ?_
          refine sm_T_cal (d1 := 3) (Q1 := vq_364 b_ n_ T_ (p_ad b_ n_ r1_) K1_ f1_ Sx15_) rfl rfl (by decide) (vc_364 b_ n_ T_ (p_ad b_ n_ r1_) K1_ f1_ Sx15_ hIx16_ (by exact t131_) (by exact g131_) (by exact fun _ _ => in131_)) (fun u_ Sx20_ px23_ => ?_)
          obtain ⟨rfl, hIx21_, hFx22_, px23_⟩ := px23_
          have hFx24_ : ai_fr (sx_W vw_366) S0_ Sx20_ := ai_fr_tr hFx19_ (fr_le hFx22_ rfl)
          have e135_ := px23_
          have row135_ : ∀ r_, p_nd b_ n_ 9 p_ = .inr r_ → rwc b_ n_ T_ K_ f_ Sx20_ := fun r_ hr_ => rwc_fr (row131_ r_ hr_) hFx22_ rfl rfl rfl rfl
          have h135_ : y_w b_ n_ T_ (y_3 b_ n_ K_ f_ p_) Sx20_ ∨ y_i b_ n_ T_ (y_3 b_ n_ K_ f_ p_) Sx20_ := yi_nn in1b e135_.1 e135_.2 hZ1_
          have in135_ : Sx20_.1 13 0 10 = 0 → Sx20_.1 13 0 80 = (K1_ : Int) + 1 := fun z_ => by obtain ⟨r9_, i9_, hr9_, -⟩ := rg_r e135_.1 z_; obtain ⟨p9_, hp9_, hn9_⟩ := pb_inr hr9_; have w9_ := (e135_.2 p9_ r9_ hp9_ hn9_).1; rw [w9_]; push_cast; rfl
          refine sm_T_go 1 (c1 := (114, [some (.inr (.inr (some (13, 0)))), some (.inl t_), none], [], Sx20_)) rfl ?_
          refine ih_.2.2.2.1 t_ Sx20_ hIx21_ hFx24_ ⟨?_, ?_, ?_, ?_, trivial⟩ ?_
          · exact h135_
          · omega
          · exact tk_
          · exact row135_
          · (have z_ : r_m4 S_ = (12 - S_.1 13 0 80).toNat := if_neg (by rw [hz_]; exact fun y_ => y_ rfl)); unfold r_m4; split; omega; (rename_i gg_; have w_ := in135_ (Decidable.byContradiction gg_); omega)
    · rintro t_ S_ hI_ hF_ ⟨g141_, in141_, tb_, tk_, row_, -⟩ hm_
      have le0_ := rg_le ht_ hx_
      have hn1_ := ht_.1
      have tt_ := rtab_fr ht_ hF_ rfl rfl rfl rfl rfl
      refine sm_T_go 2 (c1 := (144, [some (.inr (.inr (some (13, 0)))), some (.inl t_), none], [.inl 41, .inr (.inr (some (13, 0)))], S_)) rfl ?_
      refine sm_T_cal (d1 := 3) (Q1 := vq_300 41 b_ n_ T_ (pb (y_3 b_ n_ K_ f_ p_) fun a_ => .inr a_.2.2.2) S_) rfl rfl (by decide) (vc_300 41 b_ n_ T_ (pb (y_3 b_ n_ K_ f_ p_) fun a_ => .inr a_.2.2.2) S_ hI_ (by exact tt_) (by exact g141_) (by decide)) (fun u_ Sx1_ px4_ => ?_)
      obtain ⟨rfl, hIx2_, hFx3_, px4_⟩ := px4_
      have hFx5_ : ai_fr (sx_W vw_366) S0_ Sx1_ := ai_fr_tr hF_ (fr_le hFx3_ rfl)
      have t144_ := rtab_fr tt_ hFx3_ rfl rfl rfl rfl rfl
      have g144_ : rg b_ n_ T_ (pb (y_4 b_ n_ K_ f_ p_) fun a_ => .inr a_.2) Sx1_ := rg_pb px4_ (fun a_ _ => by rw [pb_as]; exact pb_id.symm)
      have in144_ : ∀ a_, (y_3 b_ n_ K_ f_ p_) = .inr a_ → inr_ b_ n_ T_ a_.2.1 a_.2.2.1 Sx1_ := fun a_ ha_ => inr_fr (in141_ a_ ha_) hFx3_ rfl rfl
      have row144_ : ∀ r_, p_nd b_ n_ 9 p_ = .inr r_ → rwc b_ n_ T_ K_ f_ Sx1_ := fun r_ hr_ => rwc_fr (row_ r_ hr_) hFx3_ rfl rfl rfl rfl
      refine sm_T_go 2 (c1 := (150, [some (.inr (.inr (some (13, 0)))), some (.inl t_), none], [.inl 61, .inr (.inr (some (13, 0)))], Sx1_)) rfl ?_
      refine sm_T_cal (d1 := 3) (Q1 := vq_300 61 b_ n_ T_ (pb (y_4 b_ n_ K_ f_ p_) fun a_ => .inr a_.2) Sx1_) rfl rfl (by decide) (vc_300 61 b_ n_ T_ (pb (y_4 b_ n_ K_ f_ p_) fun a_ => .inr a_.2) Sx1_ hIx2_ (by exact t144_) (by exact g144_) (by decide)) (fun u_ Sx6_ px9_ => ?_)
      obtain ⟨rfl, hIx7_, hFx8_, px9_⟩ := px9_
      have hFx10_ : ai_fr (sx_W vw_366) S0_ Sx6_ := ai_fr_tr hFx5_ (fr_le hFx8_ rfl)
      have t150_ := rtab_fr t144_ hFx8_ rfl rfl rfl rfl rfl
      have g150_ : rg b_ n_ T_ (pb (y_5 b_ n_ K_ f_ p_) fun a_ => .inr a_.2) Sx6_ := rg_pb px9_ (fun a_ _ => by rw [pb_as]; exact pb_id.symm)
      have in150_ : ∀ a_, (y_3 b_ n_ K_ f_ p_) = .inr a_ → inr_ b_ n_ T_ a_.2.1 a_.2.2.1 Sx6_ := fun a_ ha_ => inr_fr (in144_ a_ ha_) hFx8_ rfl rfl
      have row150_ : ∀ r_, p_nd b_ n_ 9 p_ = .inr r_ → rwc b_ n_ T_ K_ f_ Sx6_ := fun r_ hr_ => rwc_fr (row144_ r_ hr_) hFx8_ rfl rfl rfl rfl
      have mo150_ : Sx6_.1 13 0 27 = 2 := (hFx10_.1 13 0 27 rfl).trans hmo_
      refine sm_T_go 1 (c1 := (154, [some (.inr (.inr (some (13, 0)))), some (.inl t_), none], [.inr (.inr (some (13, 0)))], Sx6_)) rfl ?_
      refine sm_T_cal (d1 := 7) (Q1 := vq_321 b_ n_ T_ 2 (pb (y_5 b_ n_ K_ f_ p_) fun a_ => .inr a_.2) [] A_0 0 (g_d (y_5 b_ n_ K_ f_ p_) ((0, (0, f_0, 0)), 0)).1.2.1 (g_d (y_5 b_ n_ K_ f_ p_) ((0, (0, f_0, 0)), 0)).1.2.2.1 Sx6_) rfl rfl (by decide) (vc_321 b_ n_ T_ 2 (pb (y_5 b_ n_ K_ f_ p_) fun a_ => .inr a_.2) [] A_0 0 (g_d (y_5 b_ n_ K_ f_ p_) ((0, (0, f_0, 0)), 0)).1.2.1 (g_d (y_5 b_ n_ K_ f_ p_) ((0, (0, f_0, 0)), 0)).1.2.2.1 Sx6_ hIx7_ (by exact t150_) (by exact g150_) (by exact Or.inr rfl) (by exact mo150_) (by (intro q_ hq_; obtain ⟨a_, h1_, h2_⟩ := pb_inr hq_; refine ⟨Nat.zero_le _, fun z_ => absurd z_ (by decide), fun _ => ?_⟩; rw [h1_]; exact in150_ a_.1 (y5_1 h1_))) (by exact pm_2)) (fun u_ Sx11_ px14_ => ?_)
      obtain ⟨rfl, hIx12_, hFx13_, px14_⟩ := px14_
      have hFx15_ : ai_fr (sx_W vw_366) S0_ Sx11_ := ai_fr_tr hFx10_ (fr_le hFx13_ rfl)
      have t154_ := rtab_fr t150_ hFx13_ rfl rfl rfl rfl rfl
      have g154_ : rg b_ n_ T_ (pb (y_6 b_ n_ K_ f_ p_) fun a_ => .inr a_.2.1) Sx11_ := by have z_ := px14_.1; simp only [ex_2] at z_; unfold y_6; cases hy_ : (y_5 b_ n_ K_ f_ p_) with | inl e_ => (rw [hy_] at z_; exact z_) | inr a_ => (rw [hy_] at z_; rw [pb_ir, pb_as]; exact z_)
      have row154_ : ∀ r_, p_nd b_ n_ 9 p_ = .inr r_ → rwc b_ n_ T_ K_ f_ Sx11_ := fun r_ hr_ => rwc_fr (row150_ r_ hr_) hFx13_ rfl rfl rfl rfl
      have cb154_ : 0 ≤ Sx11_.1 13 0 80 ∧ Sx11_.1 13 0 80 ≤ 3 := hIx12_.1 13 0 80 rfl
      have nb154_ : 0 ≤ Sx11_.1 13 0 83 ∧ Sx11_.1 13 0 83 ≤ 12 := hIx12_.1 13 0 83 rfl
      have shb_ := sh_b cb154_
      obtain ⟨nc, hnc_⟩ : ∃ nc, Sx11_.1 13 0 83 = nc := ⟨_, rfl⟩
      have bx16_ : 0 ≤ Sx11_.1 13 0 83 ∧ Sx11_.1 13 0 83 ≤ 12 := hIx12_.1 13 0 83 rfl
      refine sm_T_go 3 (c1 := (163, [some (.inr (.inr (some (13, 0)))), some (.inl t_), none], [.inl 12, .inl (Sx11_.1 13 0 83)], Sx11_)) rfl ?_
      refine sm_T_bin (w := ((Sx11_.1 13 0 83) % 12)) rfl (bi_rem (by omega) (by omega) (by omega) (by omega)) ?_
      refine sm_T_go 7 (c1 := (175, [some (.inr (.inr (some (13, 0)))), some (.inl t_), some (.inl ((Sx11_.1 13 0 83) % 12))], [.inl 0, .inr (.inr (some (139, 0))), .inl ((Sx11_.1 13 0 83) % 12), .inr (.inr (some (180, 0)))], Sx11_)) rfl ?_
      refine sm_T_iald (n := 8192) rfl rfl (by omega) (by omega) ?_
      have bx17_ : 0 ≤ Sx11_.2.2.1 139 0 (0 : Int).toNat ∧ Sx11_.2.2.1 139 0 (0 : Int).toNat ≤ 2047 := hIx12_.2 139 0 _
      have bx18_ : 0 ≤ Sx11_.1 13 0 80 ∧ Sx11_.1 13 0 80 ≤ 3 := hIx12_.1 13 0 80 rfl
      refine sm_T_go 4 (c1 := (182, [some (.inr (.inr (some (13, 0)))), some (.inl t_), some (.inl ((Sx11_.1 13 0 83) % 12))], [.inl (Sx11_.1 13 0 80), .inl 1, .inl 1, .inl (Sx11_.2.2.1 139 0 (0 : Int).toNat), .inl ((Sx11_.1 13 0 83) % 12), .inr (.inr (some (180, 0)))], Sx11_)) rfl ?_
      refine sm_T_bin (w := (i_shl 1 (Sx11_.1 13 0 80))) rfl rfl ?_
      refine sm_T_bin (w := (i_shl 1 (i_shl 1 (Sx11_.1 13 0 80)))) rfl rfl ?_
      refine sm_T_go 1 (c1 := (185, [some (.inr (.inr (some (13, 0)))), some (.inl t_), some (.inl ((Sx11_.1 13 0 83) % 12))], [.inl 1, .inl (i_shl 1 (i_shl 1 (Sx11_.1 13 0 80))), .inl (Sx11_.2.2.1 139 0 (0 : Int).toNat), .inl ((Sx11_.1 13 0 83) % 12), .inr (.inr (some (180, 0)))], Sx11_)) rfl ?_
      refine sm_T_bin (w := (i_shl 1 (i_shl 1 (Sx11_.1 13 0 80))) - 1) rfl (bi_sub (by omega) (by omega) (by omega)) ?_
      refine sm_T_bin (w := (i_and (Sx11_.2.2.1 139 0 (0 : Int).toNat) ((i_shl 1 (i_shl 1 (Sx11_.1 13 0 80))) - 1))) rfl rfl ?_
      have bx19_ := i_and_m (x_ := (Sx11_.2.2.1 139 0 (0 : Int).toNat)) (y_ := ((i_shl 1 (i_shl 1 (Sx11_.1 13 0 80))) - 1)) (by omega) (by omega)
      refine sm_T_iast (n := 12) rfl rfl (by omega) (by omega) ?_
      have hIx20_ : gi (sm_aI Sx11_ 180 0 ((Sx11_.1 13 0 83) % 12).toNat (i_and (Sx11_.2.2.1 139 0 (0 : Int).toNat) ((i_shl 1 (i_shl 1 (Sx11_.1 13 0 80))) - 1))) := gi_aI hIx12_ (show 0 ≤ (i_and (Sx11_.2.2.1 139 0 (0 : Int).toNat) ((i_shl 1 (i_shl 1 (Sx11_.1 13 0 80))) - 1)) ∧ (i_and (Sx11_.2.2.1 139 0 (0 : Int).toNat) ((i_shl 1 (i_shl 1 (Sx11_.1 13 0 80))) - 1)) ≤ 255 from ⟨by omega, by omega⟩)
      have hFx21_ : ai_fr (sx_W vw_366) S0_ (sm_aI Sx11_ 180 0 ((Sx11_.1 13 0 83) % 12).toNat (i_and (Sx11_.2.2.1 139 0 (0 : Int).toNat) ((i_shl 1 (i_shl 1 (Sx11_.1 13 0 80))) - 1))) := ai_fr_tr hFx15_ (ai_fr_aI rfl)
      refine sm_T_go 5 (c1 := (197, [some (.inr (.inr (some (13, 0)))), some (.inl t_), some (.inl ((Sx11_.1 13 0 83) % 12))], [.inl (Sx11_.1 13 0 80), .inl ((Sx11_.1 13 0 83) % 12), .inr (.inr (some (179, 0)))], sm_aI Sx11_ 180 0 ((Sx11_.1 13 0 83) % 12).toNat (i_and (Sx11_.2.2.1 139 0 (0 : Int).toNat) ((i_shl 1 (i_shl 1 (Sx11_.1 13 0 80))) - 1)))) rfl ?_
      refine sm_T_iast (n := 12) rfl rfl (by omega) (by omega) ?_
      have hIx22_ : gi (sm_aI (sm_aI Sx11_ 180 0 ((Sx11_.1 13 0 83) % 12).toNat (i_and (Sx11_.2.2.1 139 0 (0 : Int).toNat) ((i_shl 1 (i_shl 1 (Sx11_.1 13 0 80))) - 1))) 179 0 ((Sx11_.1 13 0 83) % 12).toNat (Sx11_.1 13 0 80)) := gi_aI hIx20_ (show 0 ≤ (Sx11_.1 13 0 80) ∧ (Sx11_.1 13 0 80) ≤ 3 from ⟨by omega, by omega⟩)
      have hFx23_ : ai_fr (sx_W vw_366) S0_ (sm_aI (sm_aI Sx11_ 180 0 ((Sx11_.1 13 0 83) % 12).toNat (i_and (Sx11_.2.2.1 139 0 (0 : Int).toNat) ((i_shl 1 (i_shl 1 (Sx11_.1 13 0 80))) - 1))) 179 0 ((Sx11_.1 13 0 83) % 12).toNat (Sx11_.1 13 0 80)) := ai_fr_tr hFx21_ (ai_fr_aI rfl)
      refine sm_T_go 5 (c1 := (207, [some (.inr (.inr (some (13, 0)))), some (.inl t_), some (.inl ((Sx11_.1 13 0 83) % 12))], [.inl 1000, .inr (.inr (some (13, 0))), .inl ((Sx11_.1 13 0 83) % 12), .inr (.inr (some (181, 0)))], sm_aI (sm_aI Sx11_ 180 0 ((Sx11_.1 13 0 83) % 12).toNat (i_and (Sx11_.2.2.1 139 0 (0 : Int).toNat) ((i_shl 1 (i_shl 1 (Sx11_.1 13 0 80))) - 1))) 179 0 ((Sx11_.1 13 0 83) % 12).toNat (Sx11_.1 13 0 80))) rfl ?_
      refine sm_T_cal (d1 := 4) (Q1 := vq_365 1000 b_ n_ T_ (pb (y_6 b_ n_ K_ f_ p_) fun a_ => .inr a_.2.1) (sm_aI (sm_aI Sx11_ 180 0 ((Sx11_.1 13 0 83) % 12).toNat (i_and (Sx11_.2.2.1 139 0 (0 : Int).toNat) ((i_shl 1 (i_shl 1 (Sx11_.1 13 0 80))) - 1))) 179 0 ((Sx11_.1 13 0 83) % 12).toNat (Sx11_.1 13 0 80))) rfl rfl (by decide) (vc_365 1000 b_ n_ T_ (pb (y_6 b_ n_ K_ f_ p_) fun a_ => .inr a_.2.1) (sm_aI (sm_aI Sx11_ 180 0 ((Sx11_.1 13 0 83) % 12).toNat (i_and (Sx11_.2.2.1 139 0 (0 : Int).toNat) ((i_shl 1 (i_shl 1 (Sx11_.1 13 0 80))) - 1))) 179 0 ((Sx11_.1 13 0 83) % 12).toNat (Sx11_.1 13 0 80)) hIx22_ (by exact rtab_fr (w_ := ([], [179, 180], [])) t154_ (ai_fr_tr (ai_fr_aI rfl) (ai_fr_aI rfl)) rfl rfl rfl rfl rfl) (by exact rg_fr (w_ := ([], [179, 180], [])) g154_ (ai_fr_tr (ai_fr_aI rfl) (ai_fr_aI rfl)) rfl rfl rfl)) (fun u_ Sx24_ px27_ => ?_)
      obtain ⟨vx29_, rfl, hIx25_, hFx26_, px27_⟩ := px27_
      have hFx28_ : ai_fr (sx_W vw_366) S0_ Sx24_ := ai_fr_tr hFx23_ (fr_le hFx26_ rfl)
      have t207_ := rtab_fr (S_ := (sm_aI (sm_aI Sx11_ 180 0 ((Sx11_.1 13 0 83) % 12).toNat (i_and (Sx11_.2.2.1 139 0 (0 : Int).toNat) ((i_shl 1 (i_shl 1 (Sx11_.1 13 0 80))) - 1))) 179 0 ((Sx11_.1 13 0 83) % 12).toNat (Sx11_.1 13 0 80))) (rtab_fr (w_ := ([], [179, 180], [])) t154_ (ai_fr_tr (ai_fr_aI rfl) (ai_fr_aI rfl)) rfl rfl rfl rfl rfl) hFx26_ rfl rfl rfl rfl rfl
      have g207_ : rg b_ n_ T_ (pb (y_7 b_ n_ K_ f_ p_) fun a_ => .inr a_.2.1) Sx24_ := by have z_ := px27_.1; unfold y_7; cases hy_ : (y_6 b_ n_ K_ f_ p_) with | inl e_ => (rw [hy_] at z_; exact z_) | inr a_ => (rw [hy_] at z_; rw [pb_ir, pb_as]; exact z_)
      have row207_ : ∀ r_, p_nd b_ n_ 9 p_ = .inr r_ → rw_ b_ n_ T_ 178 83 K_ f_ Sx24_ := fun r_ hr_ => rw_fr (S_ := (sm_aI (sm_aI Sx11_ 180 0 ((Sx11_.1 13 0 83) % 12).toNat (i_and (Sx11_.2.2.1 139 0 (0 : Int).toNat) ((i_shl 1 (i_shl 1 (Sx11_.1 13 0 80))) - 1))) 179 0 ((Sx11_.1 13 0 83) % 12).toNat (Sx11_.1 13 0 80))) (rw_fr (w_ := ([], [179, 180], [])) (row154_ r_ hr_).1 (ai_fr_tr (ai_fr_aI rfl) (ai_fr_aI rfl)) rfl rfl) hFx26_ rfl rfl
      have v207_ := px27_.2.2
      have ar207_ := fr_arr (t := 181) (i := 0) hFx26_ rfl
      have dl207_ := fr_arr (t := 182) (i := 0) hFx26_ rfl
      have vv207_ : ∀ a_, (y_7 b_ n_ K_ f_ p_) = .inr a_ → vx29_ = a_.2.2 ∧ 1 ≤ a_.2.2 ∧ a_.2.2 ≤ 1000 := fun a_ ha_ => by obtain ⟨a6_, h1_, h2_⟩ := pb_inr ha_; obtain ⟨r_, h3_, h4_⟩ := pb_inr h2_; cases h4_; exact ⟨px27_.2.1 r_ (by rw [h1_]; exact h3_), ms_b (p_ := 0) h3_⟩
      have hnc207_ : Sx24_.1 13 0 83 = nc := (hFx26_.1 13 0 83 rfl).trans hnc_
      refine sm_T_iast (n := 12) rfl rfl (by omega) (by omega) ?_
      have hIx30_ : gi (sm_aI Sx24_ 181 0 ((Sx11_.1 13 0 83) % 12).toNat vx29_) := gi_aI hIx25_ (show (-2147483648) ≤ vx29_ ∧ vx29_ ≤ 2147483647 from ⟨by omega, by omega⟩)
      have hFx31_ : ai_fr (sx_W vw_366) S0_ (sm_aI Sx24_ 181 0 ((Sx11_.1 13 0 83) % 12).toNat vx29_) := ai_fr_tr hFx28_ (ai_fr_aI rfl)
      refine sm_T_go 5 (c1 := (219, [some (.inr (.inr (some (13, 0)))), some (.inl t_), some (.inl ((Sx11_.1 13 0 83) % 12))], [.inl 100, .inr (.inr (some (13, 0))), .inl ((Sx11_.1 13 0 83) % 12), .inr (.inr (some (182, 0)))], sm_aI Sx24_ 181 0 ((Sx11_.1 13 0 83) % 12).toNat vx29_)) rfl ?_
      refine sm_T_cal (d1 := 4) (Q1 := vq_365 100 b_ n_ T_ (pb (y_7 b_ n_ K_ f_ p_) fun a_ => .inr a_.2.1) (sm_aI Sx24_ 181 0 ((Sx11_.1 13 0 83) % 12).toNat vx29_)) rfl rfl (by decide) (vc_365 100 b_ n_ T_ (pb (y_7 b_ n_ K_ f_ p_) fun a_ => .inr a_.2.1) (sm_aI Sx24_ 181 0 ((Sx11_.1 13 0 83) % 12).toNat vx29_) hIx30_ (by exact rtab_fr (w_ := ([], [181], [])) t207_ (ai_fr_aI rfl) rfl rfl rfl rfl rfl) (by exact rg_fr (w_ := ([], [181], [])) g207_ (ai_fr_aI rfl) rfl rfl rfl)) (fun u_ Sx32_ px35_ => ?_)
      obtain ⟨vx37_, rfl, hIx33_, hFx34_, px35_⟩ := px35_
      have hFx36_ : ai_fr (sx_W vw_366) S0_ Sx32_ := ai_fr_tr hFx31_ (fr_le hFx34_ rfl)
      have t219_ := rtab_fr (S_ := (sm_aI Sx24_ 181 0 ((Sx11_.1 13 0 83) % 12).toNat vx29_)) (rtab_fr (w_ := ([], [181], [])) t207_ (ai_fr_aI rfl) rfl rfl rfl rfl rfl) hFx34_ rfl rfl rfl rfl rfl
      have g219_ : rg b_ n_ T_ (pb (y_8 b_ n_ K_ f_ p_) fun a_ => .inr a_.2.1) Sx32_ := by have z_ := px35_.1; unfold y_8; cases hy_ : (y_7 b_ n_ K_ f_ p_) with | inl e_ => (rw [hy_] at z_; exact z_) | inr a_ => (rw [hy_] at z_; rw [pb_ir, pb_as]; exact z_)
      have row219_ : ∀ r_, p_nd b_ n_ 9 p_ = .inr r_ → rw_ b_ n_ T_ 178 83 K_ f_ Sx32_ := fun r_ hr_ => rw_fr (S_ := (sm_aI Sx24_ 181 0 ((Sx11_.1 13 0 83) % 12).toNat vx29_)) (rw_fr (w_ := ([], [181], [])) (row207_ r_ hr_) (ai_fr_aI rfl) rfl rfl) hFx34_ rfl rfl
      have v219_ := px35_.2.2
      have ar219_ := fr_arr (t := 181) (i := 0) hFx34_ rfl
      have dl219_ := fr_arr (t := 182) (i := 0) hFx34_ rfl
      have vv219_ : ∀ a_, (y_8 b_ n_ K_ f_ p_) = .inr a_ → vx37_ = a_.2.2 ∧ 1 ≤ a_.2.2 ∧ a_.2.2 ≤ 100 := fun a_ ha_ => by obtain ⟨a6_, h1_, h2_⟩ := pb_inr ha_; obtain ⟨r_, h3_, h4_⟩ := pb_inr h2_; cases h4_; exact ⟨px35_.2.1 r_ (by rw [h1_]; exact h3_), ms_b (p_ := 0) h3_⟩
      have hnc219_ : Sx32_.1 13 0 83 = nc := (hFx34_.1 13 0 83 rfl).trans hnc207_
      refine sm_T_iast (n := 12) rfl rfl (by omega) (by omega) ?_
      have hIx38_ : gi (sm_aI Sx32_ 182 0 ((Sx11_.1 13 0 83) % 12).toNat vx37_) := gi_aI hIx33_ (show (-2147483648) ≤ vx37_ ∧ vx37_ ≤ 2147483647 from ⟨by omega, by omega⟩)
      have hFx39_ : ai_fr (sx_W vw_366) S0_ (sm_aI Sx32_ 182 0 ((Sx11_.1 13 0 83) % 12).toNat vx37_) := ai_fr_tr hFx36_ (ai_fr_aI rfl)
      refine sm_T_go 2 (c1 := (226, [some (.inr (.inr (some (13, 0)))), some (.inl t_), some (.inl ((Sx11_.1 13 0 83) % 12))], [.inl 59, .inr (.inr (some (13, 0)))], sm_aI Sx32_ 182 0 ((Sx11_.1 13 0 83) % 12).toNat vx37_)) rfl ?_
      refine sm_T_cal (d1 := 3) (Q1 := vq_300 59 b_ n_ T_ (pb (y_8 b_ n_ K_ f_ p_) fun a_ => .inr a_.2.1) (sm_aI Sx32_ 182 0 ((Sx11_.1 13 0 83) % 12).toNat vx37_)) rfl rfl (by decide) (vc_300 59 b_ n_ T_ (pb (y_8 b_ n_ K_ f_ p_) fun a_ => .inr a_.2.1) (sm_aI Sx32_ 182 0 ((Sx11_.1 13 0 83) % 12).toNat vx37_) hIx38_ (by exact rtab_fr (w_ := ([], [182], [])) t219_ (ai_fr_aI rfl) rfl rfl rfl rfl rfl) (by exact rg_fr (w_ := ([], [182], [])) g219_ (ai_fr_aI rfl) rfl rfl rfl) (by decide)) (fun u_ Sx40_ px43_ => ?_)
      obtain ⟨rfl, hIx41_, hFx42_, px43_⟩ := px43_
      have hFx44_ : ai_fr (sx_W vw_366) S0_ Sx40_ := ai_fr_tr hFx39_ (fr_le hFx42_ rfl)
      have g226_ : rg b_ n_ T_ (pb (y_9 b_ n_ K_ f_ p_) fun a_ => .inr a_.2) Sx40_ := rg_pb px43_ (fun a_ _ => by rw [pb_as]; exact pb_id.symm)
      have row226_ : ∀ r_, p_nd b_ n_ 9 p_ = .inr r_ → rw_ b_ n_ T_ 178 83 K_ f_ Sx40_ := fun r_ hr_ => rw_fr (S_ := (sm_aI Sx32_ 182 0 ((Sx11_.1 13 0 83) % 12).toNat vx37_)) (rw_fr (w_ := ([], [182], [])) (row219_ r_ hr_) (ai_fr_aI rfl) rfl rfl) hFx42_ rfl rfl
      have ar226_ := fr_arr (t := 181) (i := 0) hFx42_ rfl
      have dl226_ := fr_arr (t := 182) (i := 0) hFx42_ rfl
      have y98_ : ∀ a_, (y_9 b_ n_ K_ f_ p_) = .inr a_ → (y_8 b_ n_ K_ f_ p_) = .inr a_.1 ∧ (y_7 b_ n_ K_ f_ p_) = .inr a_.1.1 := fun a_ ha_ => by obtain ⟨a8_, i1_, j1_⟩ := pb_inr ha_; obtain ⟨z9_, j2_, j3_⟩ := pb_inr j1_; cases j3_; refine ⟨i1_, ?_⟩; obtain ⟨a7_, i2_, j4_⟩ := pb_inr i1_; obtain ⟨z8_, j5_, j6_⟩ := pb_inr j4_; cases j6_; exact i2_
      have hnc226_ : Sx40_.1 13 0 83 = nc := (hFx42_.1 13 0 83 rfl).trans hnc219_
      have nb226_ : 0 ≤ Sx40_.1 13 0 83 ∧ Sx40_.1 13 0 83 ≤ 12 := hIx41_.1 13 0 83 rfl
      have y91_ : ∀ a_, (y_9 b_ n_ K_ f_ p_) = .inr a_ → ∃ q_, p_nd b_ n_ 9 p_ = .inr q_ ∧ q_ = a_.1.1.1.1.1 ∧ ∃ r_, p_nn b_ n_ K_ f_ 12 q_ = .inr r_ := fun a_ ha_ => by obtain ⟨a8_, i1_, j1_⟩ := pb_inr ha_; obtain ⟨z9_, j2_, j3_⟩ := pb_inr j1_; cases j3_; obtain ⟨a7_, i2_, j4_⟩ := pb_inr i1_; obtain ⟨z8_, j5_, j6_⟩ := pb_inr j4_; cases j6_; obtain ⟨a6_, i3_, j7_⟩ := pb_inr i2_; obtain ⟨z7_, j8_, j9_⟩ := pb_inr j7_; cases j9_; obtain ⟨a5_, i4_, j10_⟩ := pb_inr i3_; obtain ⟨z6_, j11_, j12_⟩ := pb_inr j10_; cases j12_; obtain ⟨u_, h4_⟩ := y3_1 (y5_1 i4_); obtain ⟨h5_, r_, h6_⟩ := y2_1 h4_; exact ⟨_, h5_, rfl, r_, h6_⟩
      refine sm_T_go 4 (c1 := (235, [some (.inr (.inr (some (13, 0)))), some (.inl t_), some (.inl ((Sx11_.1 13 0 83) % 12))], [.inl t_, .inl ((Sx11_.1 13 0 83) % 12), .inr (.inr (some (178, 0)))], Sx40_)) rfl ?_
      refine sm_T_iast (n := 12) rfl rfl (by omega) (by omega) ?_
      have hIx45_ : gi (sm_aI Sx40_ 178 0 ((Sx11_.1 13 0 83) % 12).toNat t_) := gi_aI hIx41_ (show 0 ≤ t_ ∧ t_ ≤ 1280 from ⟨by omega, by omega⟩)
      have hFx46_ : ai_fr (sx_W vw_366) S0_ (sm_aI Sx40_ 178 0 ((Sx11_.1 13 0 83) % 12).toNat t_) := ai_fr_tr hFx44_ (ai_fr_aI rfl)
      have bx47_ : 0 ≤ Sx40_.1 13 0 83 ∧ Sx40_.1 13 0 83 ≤ 12 := hIx41_.1 13 0 83 rfl
      refine sm_T_go 4 (c1 := (242, [some (.inr (.inr (some (13, 0)))), some (.inl t_), some (.inl ((Sx11_.1 13 0 83) % 12))], [.inr (.inr (some (13, 0))), .inl (Sx40_.1 13 0 83), .inr (.inr (some (13, 0)))], sm_aI Sx40_ 178 0 ((Sx11_.1 13 0 83) % 12).toNat t_)) rfl ?_
      refine sm_T_cal (d1 := 0) (Q1 := vq_292  (sm_aI Sx40_ 178 0 ((Sx11_.1 13 0 83) % 12).toNat t_)) rfl rfl (by decide) (vc_292  (sm_aI Sx40_ 178 0 ((Sx11_.1 13 0 83) % 12).toNat t_) hIx45_ ) (fun u_ Sx48_ px51_ => ?_)
      obtain ⟨rfl, vx53_, rfl, px51_⟩ := px51_
      have e242_ := px51_
      refine sm_T_b0 (a := 0) (z := 7) rfl (fun cx54_ => ?_) (fun cx54_ => ?_)
      · have cx54_ : vx53_ = 0 := of_decide_eq_true cx54_
        have hz9_ := wr_if e242_ (by omega)
        refine sm_T_go 1 (c1 := (253, [some (.inr (.inr (some (13, 0)))), some (.inl t_), some (.inl ((Sx11_.1 13 0 83) % 12))], [.inl 0, .inl (Sx40_.1 13 0 83), .inr (.inr (some (13, 0)))], sm_aI Sx40_ 178 0 ((Sx11_.1 13 0 83) % 12).toNat t_)) rfl ?_
        refine sm_T_bin (w := (Sx40_.1 13 0 83)) rfl (bi_add (by omega) (by omega) (by omega)) ?_
        have hIx55_ : gi (sm_pI (sm_aI Sx40_ 178 0 ((Sx11_.1 13 0 83) % 12).toNat t_) 13 0 83 (Sx40_.1 13 0 83)) := gi_pI hIx45_ (show 0 ≤ (Sx40_.1 13 0 83) ∧ (Sx40_.1 13 0 83) ≤ 12 from ⟨by omega, by omega⟩)
        have hFx56_ : ai_fr (sx_W vw_366) S0_ (sm_pI (sm_aI Sx40_ 178 0 ((Sx11_.1 13 0 83) % 12).toNat t_) 13 0 83 (Sx40_.1 13 0 83)) := ai_fr_tr hFx46_ (ai_fr_pI rfl)
        refine sm_T_go 1 (c1 := (257, [some (.inr (.inr (some (13, 0)))), some (.inl t_), some (.inl ((Sx11_.1 13 0 83) % 12))], [], sm_pI (sm_aI Sx40_ 178 0 ((Sx11_.1 13 0 83) % 12).toNat t_) 13 0 83 (Sx40_.1 13 0 83))) rfl ?_
        refine sm_T_rv rfl ⟨_, _, rfl, rfl, hIx55_, hFx56_, ?_⟩
        refine ⟨?_, fun c_ hc_ => ?_⟩
        · rw [ce_y, pb_as]; exact rg_fr (w_ := ([(13, 83)], [178], [])) g226_ (ai_fr_tr (ai_fr_aI rfl) (ai_fr_pI rfl)) rfl rfl rfl
        · rw [ce_y] at hc_; obtain ⟨a8_, h8_, hc_⟩ := pb_inr hc_; cases hc_; first | (exfalso; rw [h8_] at g226_; exact hz9_ g226_.1) | (rw [ha9_] at h8_; cases h8_; refine ⟨⟨by rw [rf_eq]; push_cast; show _ = (K_ : Int) + 1; omega, fun j_ hj_ => ?_⟩, ?_⟩; (rw [rd_fa, rd_eq]; unfold n_up; by_cases z_ : j_ = K_; (rw [if_pos (by omega), if_pos z_]; show rtk b_ n_ T_ t_ a9_.1.1.1.1.1; rw [← hqe_]; exact tk9_); (rw [if_neg (by omega), if_neg z_]; exact row9_.2 j_ (by omega))); (exact cdt_up cd9_ (by omega) (by omega) (by omega) ar207_ dl207_ ar219_ dl219_ ar226_ dl226_ rfl rfl))
      · have cx54_ : ¬ (vx53_ = 0) := of_decide_eq_false cx54_
        have hz9_ := rt_if e242_ (by omega)
        obtain ⟨a9_, ha9_⟩ := rg_rt g226_ hz9_
        obtain ⟨q9_, hq9_, hqe_, r9_, hr9_⟩ := y91_ a9_ ha9_
        have row9_ := row226_ q9_ hq9_
        have cd9_ := (row154_ q9_ hq9_).2
        obtain ⟨y98a, y98b⟩ := y98_ a9_ ha9_
        have vv7_ := vv207_ _ y98b
        have vv8_ := vv219_ _ y98a
        have nn9_ := (p_nn_ok hr9_).1
        have nc9_ := row9_.1
        have tk9_ := tk_ q9_ (by rw [hq9_]; show p_du b_ n_ 1 q9_ = _; unfold p_du; rw [if_pos (p_nn_ok hr9_).2.1])
        refine sm_T_go 2 (c1 := (253, [some (.inr (.inr (some (13, 0)))), some (.inl t_), some (.inl ((Sx11_.1 13 0 83) % 12))], [.inl 1, .inl (Sx40_.1 13 0 83), .inr (.inr (some (13, 0)))], sm_aI Sx40_ 178 0 ((Sx11_.1 13 0 83) % 12).toNat t_)) rfl ?_
        refine sm_T_bin (w := (Sx40_.1 13 0 83) + 1) rfl (bi_add (by omega) (by omega) (by omega)) ?_
        have hIx57_ : gi (sm_pI (sm_aI Sx40_ 178 0 ((Sx11_.1 13 0 83) % 12).toNat t_) 13 0 83 ((Sx40_.1 13 0 83) + 1)) := gi_pI hIx45_ (show 0 ≤ (Sx40_.1 13 0 83) + 1 ∧ (Sx40_.1 13 0 83) + 1 ≤ 12 from ⟨by omega, by omega⟩)
        have hFx58_ : ai_fr (sx_W vw_366) S0_ (sm_pI (sm_aI Sx40_ 178 0 ((Sx11_.1 13 0 83) % 12).toNat t_) 13 0 83 ((Sx40_.1 13 0 83) + 1)) := ai_fr_tr hFx46_ (ai_fr_pI rfl)
        refine sm_T_go 1 (c1 := (257, [some (.inr (.inr (some (13, 0)))), some (.inl t_), some (.inl ((Sx11_.1 13 0 83) % 12))], [], sm_pI (sm_aI Sx40_ 178 0 ((Sx11_.1 13 0 83) % 12).toNat t_) 13 0 83 ((Sx40_.1 13 0 83) + 1))) rfl ?_
        refine sm_T_rv rfl ⟨_, _, rfl, rfl, hIx57_, hFx58_, ?_⟩
        refine ⟨?_, fun c_ hc_ => ?_⟩
        · rw [ce_y, pb_as]; exact rg_fr (w_ := ([(13, 83)], [178], [])) g226_ (ai_fr_tr (ai_fr_aI rfl) (ai_fr_pI rfl)) rfl rfl rfl
        · rw [ce_y] at hc_; obtain ⟨a8_, h8_, hc_⟩ := pb_inr hc_; cases hc_; first | (exfalso; rw [h8_] at g226_; exact hz9_ g226_.1) | (rw [ha9_] at h8_; cases h8_; refine ⟨⟨by rw [rf_eq]; push_cast; show _ = (K_ : Int) + 1; omega, fun j_ hj_ => ?_⟩, ?_⟩; (rw [rd_fa, rd_eq]; unfold n_up; by_cases z_ : j_ = K_; (rw [if_pos (by omega), if_pos z_]; show rtk b_ n_ T_ t_ a9_.1.1.1.1.1; rw [← hqe_]; exact tk9_); (rw [if_neg (by omega), if_neg z_]; exact row9_.2 j_ (by omega))); (exact cdt_up cd9_ (by omega) (by omega) (by omega) ar207_ dl207_ ar219_ dl219_ ar226_ dl226_ rfl rfl))
set_option maxHeartbeats 2000000 in
set_option maxRecDepth 20000 in
theorem vc_366 {sc_ : Nat × (Nat → Int)} (b_ : Nat → Int) (n_ : Nat) (T_ : Nat) (p_ : Nat) (K_ : Nat) (f_ : Nat → Nat) (S0_ : sm_S) (hI_ : gi S0_) (ht_ : rtab b_ n_ T_ S0_) (hx_ : rg b_ n_ T_ (.inr p_) S0_) (hmo_ : (S0_.1 13 0 27) = 2) (hrow : rwc b_ n_ T_ K_ f_ S0_) : sm_T (mt_P sc_) 8 366 (0, [some (.inr (.inr (some (13, 0)))), none, none], [], S0_) (fun r_ => ∃ u_ S1_, r_ = (.inl u_, S1_, 0) ∧ vq_366 b_ n_ T_ p_ K_ f_ S0_ u_ S1_) := by
  have hF_ : ai_fr (sx_W vw_366) S0_ S0_ := ai_fr_rf
  have le0_ := rg_le ht_ hx_
  have hn1_ := ht_.1
  refine sm_T_go 2 (c1 := (3, [some (.inr (.inr (some (13, 0)))), none, none], [.inl 7, .inr (.inr (some (13, 0)))], S0_)) rfl ?_
  refine sm_T_cal (d1 := 0) (Q1 := vq_296 7 b_ n_ T_ (.inr p_) S0_) rfl rfl (by decide) (vc_296 7 b_ n_ T_ (.inr p_) S0_ hI_ (by exact ht_) (by exact hx_) (by decide)) (fun u_ Sx1_ px4_ => ?_)
  obtain ⟨rfl, vx6_, rfl, px4_⟩ := px4_
  have e3_ := px4_.2 p_ rfl
  have r3_ := px4_.1
  obtain ⟨i0_, hi01_, hi02_⟩ := id hx_.2
  have ra0_ := rp_at ht_ hi02_
  have rk0_ := r_st_3 (lx_kd_r hi02_.2.2.1)
  refine sm_T_b0 (a := 1) (z := 12) rfl (fun cx7_ => ?_) (fun cx7_ => ?_)
  · have cx7_ : vx6_ ≠ 0 := of_decide_eq_true cx7_
    have k9_ : lx_kd b_ n_ p_ = 9 := by have := e3_.mp (by omega); omega
    have nd9_ : p_nd b_ n_ 9 p_ = p_ad b_ n_ p_ := if_pos k9_
    obtain ⟨x7_, hx7_, hx7b⟩ : ∃ x7_ : pE Nat, rg b_ n_ T_ x7_ _ ∧ x7_ = .inr p_ := ⟨_, hx_, rfl⟩
    have t7_ := ht_
    have row7_ := hrow
    refine sm_T_go 1 (c1 := (19, [some (.inr (.inr (some (13, 0)))), none, none], [.inr (.inr (some (13, 0)))], S0_)) rfl ?_
    refine sm_T_cal (d1 := 2) (Q1 := vq_297 b_ n_ T_ x7_ S0_) rfl rfl (by decide) (vc_297 b_ n_ T_ x7_ S0_ hI_ (by exact t7_) (by exact hx7_) (by (intro z_ e_; rw [hx7b] at e_; first | (cases e_; done) | (cases e_; rw [k9_]; decide)))) (fun u_ Sx8_ px11_ => ?_)
    obtain ⟨rfl, hIx9_, hFx10_, px11_⟩ := px11_
    have hFx12_ : ai_fr (sx_W vw_366) S0_ Sx8_ := ai_fr_tr hF_ (fr_le hFx10_ rfl)
    have z19_ := px11_.1
    rw [hx7b] at z19_
    have g19_ : rg b_ n_ T_ (p_nd b_ n_ 9 p_) Sx8_ := by rw [nd9_]; exact z19_
    have t19_ := rtab_fr t7_ hFx10_ rfl rfl rfl rfl rfl
    have row19_ : ∀ r_, p_nd b_ n_ 9 p_ = .inr r_ → rwc b_ n_ T_ K_ f_ Sx8_ := fun _ _ => rwc_fr row7_ hFx10_ rfl rfl rfl rfl
    refine sm_T_go 2 (c1 := (24, [some (.inr (.inr (some (13, 0)))), none, none], [.inl 1, .inr (.inr (some (13, 0)))], Sx8_)) rfl ?_
    refine sm_T_cal (d1 := 1) (Q1 := vq_299 1 b_ n_ T_ (p_nd b_ n_ 9 p_) Sx8_) rfl rfl (by decide) (vc_299 1 b_ n_ T_ (p_nd b_ n_ 9 p_) Sx8_ hIx9_ (by exact t19_) (by exact g19_) (by decide)) (fun u_ Sx13_ px16_ => ?_)
    obtain ⟨vx18_, rfl, hIx14_, hFx15_, px16_⟩ := px16_
    have hFx17_ : ai_fr (sx_W vw_366) S0_ Sx13_ := ai_fr_tr hFx12_ (fr_le hFx15_ rfl)
    have a23_ := px16_.1
    have g23_ : rg b_ n_ T_ (pb (p_nd b_ n_ 9 p_) (p_du b_ n_ 1)) Sx13_ := px16_.2
    have t23_ := rtab_fr t19_ hFx15_ rfl rfl rfl rfl rfl
    have at23_ := hFx15_.1 13 0 9 rfl
    have v23b : 0 ≤ vx18_ ∧ vx18_ ≤ 1280 := by rw [a23_, ← at23_]; exact hIx14_.1 13 0 9 rfl
    have rt23_ : ∀ r_, (pb (p_nd b_ n_ 9 p_) (p_du b_ n_ 1)) = .inr r_ → rtk b_ n_ T_ vx18_ r_ := by intro r_ hr_; rw [hr_] at g23_; obtain ⟨i3_, q1_, q2_⟩ := g23_.2; rw [show vx18_ = (i3_ : Int) by omega]; exact (rp_rtk t23_ q2_ (du_r hr_).2).1
    have row23_ : ∀ pq_, (p_nd b_ n_ 9 p_) = .inr pq_ → rwc b_ n_ T_ K_ f_ Sx13_ := fun pq_ hp_ => rwc_fr (row19_ pq_ hp_) hFx15_ rfl rfl rfl rfl
    refine sm_T_go 3 (c1 := (30, [some (.inr (.inr (some (13, 0)))), some (.inl vx18_), some (.inl 0)], [], Sx13_)) rfl ?_
    refine (vl_366 b_ n_ T_ p_ K_ f_ S0_ ht_ hx_ hmo_ hrow _).1 vx18_ 0 Sx13_ hIx14_ hFx17_ ⟨?_, ?_, ?_, ?_, ?_, trivial⟩ (Nat.lt_succ_self _)
    · omega
    · cases hq_ : (pb (p_nd b_ n_ 9 p_) (p_du b_ n_ 1)) with
      | inl e_ => left; rw [hq_] at g23_; exact ⟨e_, by unfold zn2; rw [hq_]; rfl, g23_⟩
      | inr q0_ => right; rw [hq_] at g23_; exact ⟨q0_, rfl, g23_, rfl, by omega⟩
    · omega
    · exact rt23_
    · exact row23_
  · have cx7_ : ¬ (vx6_ ≠ 0) := of_decide_eq_false cx7_
    have k9_ : lx_kd b_ n_ p_ ≠ 9 := fun z_ => by have := e3_.mpr (by omega); omega
    have nd9_ : p_nd b_ n_ 9 p_ = .inl (2, p_) := if_neg k9_
    have bx19_ : 0 ≤ S0_.1 13 0 9 ∧ S0_.1 13 0 9 ≤ 1280 := hI_.1 13 0 9 rfl
    refine sm_T_go 4 (c1 := (15, [some (.inr (.inr (some (13, 0)))), none, none], [.inl (S0_.1 13 0 9), .inl 2, .inr (.inr (some (13, 0)))], S0_)) rfl ?_
    refine sm_T_cal (d1 := 0) (Q1 := vq_293 2 (S0_.1 13 0 9) S0_) rfl rfl (by decide) (vc_293 2 (S0_.1 13 0 9) S0_ hI_ (by decide) (by omega)) (fun u_ Sx20_ px23_ => ?_)
    obtain ⟨rfl, hIx21_, hFx22_, px23_⟩ := px23_
    have hFx24_ : ai_fr (sx_W vw_366) S0_ Sx20_ := ai_fr_tr hF_ (fr_le hFx22_ rfl)
    have ex25_ : Sx20_.1 13 0 9 = S0_.1 13 0 9 := hFx22_.1 13 0 9 rfl
    have g14_ : rg b_ n_ T_ (.inl (2, p_)) Sx20_ := by rcases px23_ with z_ | z_; (exact absurd hx_.1 z_.1); (refine ⟨z_.2.1.trans (if_neg ?_), z_.2.2.trans ?_, by show (2 : Int) ≠ 0; decide⟩; (rw [hi01_, Int.toNat_natCast, ra0_.1]; exact rk0_.2.2.2.2.2); (rw [hi01_, Int.toNat_natCast]; exact ra0_.2.1))
    obtain ⟨x7_, hx7_, hx7b⟩ : ∃ x7_ : pE Nat, rg b_ n_ T_ x7_ Sx20_ ∧ x7_ = .inl (2, p_) := ⟨_, g14_, rfl⟩
    have t7_ := rtab_fr ht_ hFx22_ rfl rfl rfl rfl rfl
    have row7_ := rwc_fr hrow hFx22_ rfl rfl rfl rfl
    refine sm_T_go 1 (c1 := (19, [some (.inr (.inr (some (13, 0)))), none, none], [.inr (.inr (some (13, 0)))], Sx20_)) rfl ?_
    refine sm_T_cal (d1 := 2) (Q1 := vq_297 b_ n_ T_ x7_ Sx20_) rfl rfl (by decide) (vc_297 b_ n_ T_ x7_ Sx20_ hIx21_ (by exact t7_) (by exact hx7_) (by (intro z_ e_; rw [hx7b] at e_; first | (cases e_; done) | (cases e_; rw [k9_]; decide)))) (fun u_ Sx26_ px29_ => ?_)
    obtain ⟨rfl, hIx27_, hFx28_, px29_⟩ := px29_
    have hFx30_ : ai_fr (sx_W vw_366) S0_ Sx26_ := ai_fr_tr hFx24_ (fr_le hFx28_ rfl)
    have z19_ := px29_.1
    rw [hx7b] at z19_
    have g19_ : rg b_ n_ T_ (p_nd b_ n_ 9 p_) Sx26_ := by rw [nd9_]; exact z19_
    have t19_ := rtab_fr t7_ hFx28_ rfl rfl rfl rfl rfl
    have row19_ : ∀ r_, p_nd b_ n_ 9 p_ = .inr r_ → rwc b_ n_ T_ K_ f_ Sx26_ := fun _ _ => rwc_fr row7_ hFx28_ rfl rfl rfl rfl
    refine sm_T_go 2 (c1 := (24, [some (.inr (.inr (some (13, 0)))), none, none], [.inl 1, .inr (.inr (some (13, 0)))], Sx26_)) rfl ?_
    refine sm_T_cal (d1 := 1) (Q1 := vq_299 1 b_ n_ T_ (p_nd b_ n_ 9 p_) Sx26_) rfl rfl (by decide) (vc_299 1 b_ n_ T_ (p_nd b_ n_ 9 p_) Sx26_ hIx27_ (by exact t19_) (by exact g19_) (by decide)) (fun u_ Sx31_ px34_ => ?_)
    obtain ⟨vx36_, rfl, hIx32_, hFx33_, px34_⟩ := px34_
    have hFx35_ : ai_fr (sx_W vw_366) S0_ Sx31_ := ai_fr_tr hFx30_ (fr_le hFx33_ rfl)
    have a23_ := px34_.1
    have g23_ : rg b_ n_ T_ (pb (p_nd b_ n_ 9 p_) (p_du b_ n_ 1)) Sx31_ := px34_.2
    have t23_ := rtab_fr t19_ hFx33_ rfl rfl rfl rfl rfl
    have at23_ := hFx33_.1 13 0 9 rfl
    have v23b : 0 ≤ vx36_ ∧ vx36_ ≤ 1280 := by rw [a23_, ← at23_]; exact hIx32_.1 13 0 9 rfl
    have rt23_ : ∀ r_, (pb (p_nd b_ n_ 9 p_) (p_du b_ n_ 1)) = .inr r_ → rtk b_ n_ T_ vx36_ r_ := by intro r_ hr_; rw [hr_] at g23_; obtain ⟨i3_, q1_, q2_⟩ := g23_.2; rw [show vx36_ = (i3_ : Int) by omega]; exact (rp_rtk t23_ q2_ (du_r hr_).2).1
    have row23_ : ∀ pq_, (p_nd b_ n_ 9 p_) = .inr pq_ → rwc b_ n_ T_ K_ f_ Sx31_ := fun pq_ hp_ => rwc_fr (row19_ pq_ hp_) hFx33_ rfl rfl rfl rfl
    refine sm_T_go 3 (c1 := (30, [some (.inr (.inr (some (13, 0)))), some (.inl vx36_), some (.inl 0)], [], Sx31_)) rfl ?_
    refine (vl_366 b_ n_ T_ p_ K_ f_ S0_ ht_ hx_ hmo_ hrow _).1 vx36_ 0 Sx31_ hIx32_ hFx35_ ⟨?_, ?_, ?_, ?_, ?_, trivial⟩ (Nat.lt_succ_self _)
    · omega
    · cases hq_ : (pb (p_nd b_ n_ 9 p_) (p_du b_ n_ 1)) with
      | inl e_ => left; rw [hq_] at g23_; exact ⟨e_, by unfold zn2; rw [hq_]; rfl, g23_⟩
      | inr q0_ => right; rw [hq_] at g23_; exact ⟨q0_, rfl, g23_, rfl, by omega⟩
    · omega
    · exact rt23_
    · exact row23_
