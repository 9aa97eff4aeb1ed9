/-! the class reader: expressions; written by wip/p55/gen/vg -/

theorem ms_lt {a_ b_ : Int} {k_ : Nat} (h_ : a_ < b_) (hb_ : b_ ≤ 1280) (hm_ : (1300 - a_).toNat < k_ + 1) : (1300 - b_).toNat < k_ := by omega
def p_pm (b_ : Nat → Int) (n_ : Nat) (md_ : Bool) (A_ : pA) (M_ K_ : Nat) (f_ : Nat → Nat) : pPr := if md_ = true then p_pl b_ n_ K_ f_ else p_pd b_ n_ A_ M_
/-! Reader.expression -/
def vw_134 : sx_Wl := ([(7, 2), (7, 14), (7, 16), (7, 17), (10, 2), (10, 3), (10, 4), (10, 5), (10, 6), (10, 7), (10, 8)], [74, 82, 83, 84], [])
def vq_134 (b_ : Nat → Int) (n_ : Nat) (md_ : Bool) (A_ : pA) (M_ : Nat) (K_ : Nat) (f_ : Nat → Nat) (R_ : pE pR) (c_ : List Int) (p_ : Nat) (S0_ : sm_S) (u_ : Option sm_V) (S1_ : sm_S) : Prop := ∃ v_ : Int, u_ = some (.inl v_) ∧ gi S1_ ∧ ai_fr (sx_W vw_134) S0_ S1_ ∧ (∃ r_ w_, R_ = .inr r_ ∧ r_.2.1 = [w_] ∧ v_ = w_ ∧ (0 ≤ v_ ∧ v_ ≤ 255) ∧ ct b_ n_ r_.1 S1_ ∧ p_ < r_.1 ∧ (md_ = false → S1_.1 7 0 2 = (r_.2.2.length : Int) ∧ stk (S1_.2.2.1 74 0) r_.2.2) ∧ r_.2.2.length ≤ 3 * r_.1)
def vx_134 (b_ : Nat → Int) (n_ : Nat) (md_ : Bool) (A_ : pA) (M_ : Nat) (K_ : Nat) (f_ : Nat → Nat) (R_ : pE pR) (c_ : List Int) (p_ : Nat) (S0_ : sm_S) (S1_ : sm_S) : Prop := gi S1_ ∧ ai_fr (sx_W vw_134) S0_ S1_ ∧ (∃ e_, R_ = .inl e_ ∧ ter S1_ e_)
set_option maxHeartbeats 1000000 in
theorem vl_134 {sc_ : Nat × (Nat → Int)} (b_ : Nat → Int) (n_ : Nat) (md_ : Bool) (A_ : pA) (M_ : Nat) (K_ : Nat) (f_ : Nat → Nat) (R_ : pE pR) (c_ : List Int) (p_ : Nat) (S0_ : sm_S) (hc_ : ct b_ n_ p_ S0_) (hlb_ : S0_.2.1 7 0 11 = none ↔ md_ = false) (hcd_ : md_ = false → S0_.1 7 0 2 = (c_.length : Int) ∧ stk (S0_.2.2.1 74 0) c_) (hcl_ : c_.length ≤ 3 * p_) (her_ : md_ = false → er b_ n_ A_ M_ S0_) (hnr_ : md_ = true → nmr b_ n_ 1 K_ f_ S0_ ∧ K_ ≤ 3) (hR_ : p_xx b_ n_ md_ (p_pm b_ n_ md_ A_ M_ K_ f_) (0, false, p_, [], [], c_) R_) : ∀ nn_ : Nat, (∀ (m_ : Int) (i_ : Int) (S_ : sm_S), gi S_ → ai_fr (sx_W vw_134) S0_ S_ → ((0 ≤ i_ ∧ i_ ≤ (S_.1 10 0 3)) ∧ ((m_ = 1 ∧ ∃ o1_ g1_ c1_ q_, ct b_ n_ q_ S_ ∧ xr md_ o1_ g1_ c1_ S_ ∧ x_ok b_ n_ md_ (0, false, q_, o1_, g1_, c1_) ∧ p_xx b_ n_ md_ (p_pm b_ n_ md_ A_ M_ K_ f_) (0, false, q_, o1_, g1_, c1_) R_ ∧ p_ ≤ q_) ∨ (m_ = 0 ∧ ∃ g1_ c1_ q_, ct b_ n_ q_ S_ ∧ xr md_ [] g1_ c1_ S_ ∧ R_ = .inr (q_, g1_, c1_) ∧ g1_.length = 1 ∧ p_ < q_ ∧ c1_.length ≤ 3 * q_)) ∧ True) → ((1300 - (S_.1 10 0 3)).toNat) < nn_ → sm_T (mt_P sc_) 4 134 (19, [some (.inr (.inr (some (7, 0)))), some (.inl m_), some (.inl i_), none], [], S_) (fun r_ => (∃ u_ S1_, r_ = (.inl u_, S1_, 0) ∧ vq_134 b_ n_ md_ A_ M_ K_ f_ R_ c_ p_ S0_ u_ S1_) ∨ ∃ S1_, r_ = (.inr 2, S1_, 1) ∧ vx_134 b_ n_ md_ A_ M_ K_ f_ R_ c_ p_ S0_ S1_)) := by
  intro nn_
  induction nn_ with
  | zero => exact fun _ _ _ _ _ _ h_ => absurd h_ (Nat.not_lt_zero _)
  | succ nn_ ih_ =>
    rintro m_ i_ S_ hI_ hF_ ⟨h0_, h1_, -⟩ hm_
    have her1_ : md_ = false → er b_ n_ A_ M_ S_ := fun z_ => er_fr (her_ z_) hF_ rfl rfl rfl rfl rfl rfl
    have hnr1_ : md_ = true → nmr b_ n_ 1 K_ f_ S_ ∧ K_ ≤ 3 := fun z_ => ⟨nmr_fr (hnr_ z_).1 hF_ rfl rfl, (hnr_ z_).2⟩
    have hn1_ := hc_.2.2.1
    have cst_ : 0 ≤ S_.1 10 0 3 ∧ S_.1 10 0 3 ≤ 1280 := hI_.1 10 0 3 rfl
    have hpr_ : pr_ok b_ n_ (p_pm b_ n_ md_ A_ M_ K_ f_) := by unfold p_pm; by_cases z_ : md_ = true; (rw [if_pos z_]; exact pl_ok); (rw [if_neg z_]; exact pd_ok (her_ (by cases md_; rfl; exact absurd rfl z_)).2.1)
    refine sm_T_go 1 (c1 := (20, [some (.inr (.inr (some (7, 0)))), some (.inl m_), some (.inl i_), none], [.inl i_], S_)) rfl ?_
    refine sm_T_nt (u := some (.inl 65536)) (S1 := S_) rfl rfl rfl ?_
    refine sm_T_br (a := 3) (z := 103) rfl (fun cx1_ => ?_) (fun cx1_ => ?_)
    · have cx1_ : 65536 ≤ i_ := of_decide_eq_true cx1_
      exfalso; omega
    · have cx1_ : ¬ (65536 ≤ i_) := of_decide_eq_false cx1_
      refine sm_T_go 1 (c1 := (26, [some (.inr (.inr (some (7, 0)))), some (.inl m_), some (.inl i_), none], [.inl m_], S_)) rfl ?_
      refine sm_T_b0 (a := 0) (z := 99) rfl (fun cx2_ => ?_) (fun cx2_ => ?_)
      · have cx2_ : m_ = 0 := of_decide_eq_true cx2_
        refine sm_T_go 3 (c1 := (130, [some (.inr (.inr (some (7, 0)))), some (.inl m_), some (.inl i_), none], [.inl 0, .inr (.inr (some (84, 0)))], S_)) rfl ?_
        refine sm_T_iald (n := 488) rfl rfl (by omega) (by omega) ?_
        have bx3_ : 0 ≤ S_.2.2.1 84 0 (0 : Int).toNat ∧ S_.2.2.1 84 0 (0 : Int).toNat ≤ 255 := hI_.2 84 0 _
        refine sm_T_ri rfl (Or.inl ⟨_, _, rfl, _, rfl, hI_, hF_, ?_⟩)
        obtain ⟨g1_, c1_, q_, z1_, z2_, z3_, z4_, z5_, z6_⟩ : ∃ g1_ c1_ q_, ct b_ n_ q_ S_ ∧ xr md_ [] g1_ c1_ S_ ∧ R_ = .inr (q_, g1_, c1_) ∧ g1_.length = 1 ∧ p_ < q_ ∧ c1_.length ≤ 3 * q_ := by rcases h1_ with z_ | z_; (exfalso; omega); (exact z_.2)
        obtain ⟨w_, rfl⟩ : ∃ w_, g1_ = [w_] := by cases g1_ with | nil => (simp at z4_) | cons a_ l_ => (cases l_ with | nil => exact ⟨a_, rfl⟩ | cons a2_ l2_ => simp at z4_)
        refine ⟨(q_, [w_], c1_), w_, z3_, rfl, z2_.1.2.2.2.2.1.1, by omega, z1_, z5_, z2_.1.2.2.2.2.2.2, z6_⟩
      · have cx2_ : ¬ (m_ = 0) := of_decide_eq_false cx2_
        obtain ⟨o1_, g1_, c1_, q_, y1_, y2_, y3_, y4_, y5_⟩ : ∃ o1_ g1_ c1_ q_, ct b_ n_ q_ S_ ∧ xr md_ o1_ g1_ c1_ S_ ∧ x_ok b_ n_ md_ (0, false, q_, o1_, g1_, c1_) ∧ p_xx b_ n_ md_ (p_pm b_ n_ md_ A_ M_ K_ f_) (0, false, q_, o1_, g1_, c1_) R_ ∧ p_ ≤ q_ := by rcases h1_ with z_ | z_; (exact z_.2); (exfalso; omega)
        have st1_ := y1_.2.2.2.2.2.1
        refine sm_T_go 1 (c1 := (30, [some (.inr (.inr (some (7, 0)))), some (.inl m_), some (.inl i_), none], [.inr (.inr (some (7, 0)))], S_)) rfl ?_
        refine sm_T_calx (d1 := 2) (Q1 := vq_135 b_ n_ md_ (p_pm b_ n_ md_ A_ M_ K_ f_) R_ o1_ g1_ c1_ q_ S_) (Q2 := vx_135 b_ n_ md_ (p_pm b_ n_ md_ A_ M_ K_ f_) R_ o1_ g1_ c1_ q_ S_) rfl rfl (by decide) (vc_135 b_ n_ md_ (p_pm b_ n_ md_ A_ M_ K_ f_) R_ o1_ g1_ c1_ q_ S_ hI_ (by exact y2_) (by exact y1_) (by exact hpr_) (by exact y3_) (by exact y4_)) rfl (fun Sx4_ px7_ => ?_) (fun u_ Sx4_ px7_ => ?_)
        · obtain ⟨hIx5_, hFx6_, px7_⟩ := px7_
          refine Or.inr ⟨_, rfl, hIx5_, ai_fr_tr hF_ (fr_le hFx6_ rfl), ?_⟩
          exact px7_
        obtain ⟨vx9_, rfl, hIx5_, hFx6_, px7_⟩ := px7_
        have hFx8_ : ai_fr (sx_W vw_134) S0_ Sx4_ := ai_fr_tr hF_ (fr_le hFx6_ rfl)
        obtain ⟨tb_, o2_, q2_, t30_, x30_, c30_, ok30_, R30_, k33_, k40_, le30_⟩ := px7_
        have kd30_ := c30_.2.2.2.2.2.2.2.1
        have st30_ := c30_.2.2.2.2.2.1
        have hp30_ := c30_.2.2.2.1
        have her2_ := fun z_ => er_fr (her1_ z_) hFx6_ rfl rfl rfl rfl rfl rfl
        have hnr2_ : md_ = true → nmr b_ n_ 1 K_ f_ Sx4_ ∧ K_ ≤ 3 := fun z_ => ⟨nmr_fr (hnr1_ z_).1 hFx6_ rfl rfl, (hnr1_ z_).2⟩
        have lim2_ := o_lim ok30_.2.1.1 ok30_.2.1.2.1
        have gl2_ : g1_.length = o_hl o2_ + 0 := ok30_.2.1.2.2.1
        have gl3_ : o_hl o2_ ≤ 425 := lim2_.2
        have cl2_ : c1_.length + o2_.length ≤ 3 * q2_ := Nat.le_trans (Nat.le_add_right _ _) ok30_.2.2.2.2
        have her3_ := her2_
        refine sm_T_go 2 (c1 := (35, [some (.inr (.inr (some (7, 0)))), some (.inl m_), some (.inl i_), some (.inl vx9_)], [.inr (.inr (some (7, 0)))], Sx4_)) rfl ?_
        cases qx10_ : Sx4_.2.1 7 0 11 with
        | none =>
          refine sm_T_gr rfl rfl qx10_ ?_
          have hmd_ : md_ = false := xs_n x30_.1 qx10_
          have bx12_ : (-128) ≤ Sx4_.1 10 0 2 ∧ Sx4_.1 10 0 2 ≤ 257 := hIx5_.1 10 0 2 rfl
          refine sm_T_go 5 (c1 := (49, [some (.inr (.inr (some (7, 0)))), some (.inl m_), some (.inl i_), some (.inl vx9_)], [.inl 2, .inl (Sx4_.1 10 0 2)], Sx4_)) rfl ?_
          refine sm_T_br (a := 1) (z := 10) rfl (fun cx13_ => ?_) (fun cx13_ => ?_)
          · have cx13_ : (Sx4_.1 10 0 2) ≠ 2 := of_decide_eq_true cx13_
            refine sm_T_go 4 (c1 := (67, [some (.inr (.inr (some (7, 0)))), some (.inl m_), some (.inl i_), some (.inl vx9_)], [.inl 1, .inl (Sx4_.1 10 0 2)], Sx4_)) rfl ?_
            refine sm_T_br (a := 0) (z := 21) rfl (fun cx14_ => ?_) (fun cx14_ => ?_)
            · have cx14_ : (Sx4_.1 10 0 2) = 1 := of_decide_eq_true cx14_
              refine sm_T_go 1 (c1 := (89, [some (.inr (.inr (some (7, 0)))), some (.inl m_), some (.inl i_), some (.inl vx9_)], [.inr (.inr (some (7, 0)))], Sx4_)) rfl ?_
              refine sm_T_gr rfl rfl qx10_ ?_
              refine sm_T_go 2 (c1 := (96, [some (.inr (.inr (some (7, 0)))), some (.inl m_), some (.inl i_), some (.inl vx9_)], [.inr (.inr (some (7, 0)))], Sx4_)) rfl ?_
              refine sm_T_calx (d1 := 2) (Q1 := vq_143 o2_ g1_ c1_ b_ n_ q2_ A_ M_ Sx4_) (Q2 := vx_143 o2_ g1_ c1_ b_ n_ q2_ A_ M_ Sx4_) rfl rfl (by decide) (vc_143 o2_ g1_ c1_ b_ n_ q2_ A_ M_ Sx4_ hIx5_ (by rw [hmd_] at x30_; exact x30_) (by exact c30_) (by omega) (by exact her2_ hmd_) (by omega) (by omega)) rfl (fun Sx15_ px18_ => ?_) (fun u_ Sx15_ px18_ => ?_)
              · obtain ⟨hIx16_, hFx17_, px18_⟩ := px18_
                refine Or.inr ⟨_, rfl, hIx16_, ai_fr_tr hFx8_ (fr_le hFx17_ rfl), ?_⟩
                obtain ⟨e9_, w1_, w2_⟩ := px18_
                refine ⟨e9_, p_er R30_ ?_, w2_⟩
                rw [pA_p k33_ k40_]; unfold p_pm; rw [if_neg (by rw [hmd_]; decide)]; unfold p_pd; rw [if_neg (by omega), if_pos (by omega)]; rw [w1_]; rfl
              obtain ⟨rfl, hIx16_, hFx17_, px18_⟩ := px18_
              have hFx19_ : ai_fr (sx_W vw_134) S0_ Sx15_ := ai_fr_tr hFx8_ (fr_le hFx17_ rfl)
              obtain ⟨r9_, pr9_, x9_, c9_⟩ := px18_
              have pq9_ : (p_pm b_ n_ md_ A_ M_ K_ f_) q2_ = .inr r9_ := by unfold p_pm; rw [if_neg (by rw [hmd_]; decide)]; unfold p_pd; rw [if_neg (by omega), if_pos (by omega)]; exact pr9_
              have hs9_ := p_go hn1_ hpr_ ok30_ R30_ (by rw [pA_p k33_ k40_, pq9_]; rfl)
              have hlt9_ := hpr_ q2_ r9_ ok30_.2.2.1 ok30_.2.2.2.1 pq9_
              have x99_ : xr md_ o2_ (r9_.2.1 :: g1_) (r9_.2.2 ++ c1_) Sx15_ := by rw [hmd_]; exact x9_
              refine sm_T_go 2 (c1 := (107, [some (.inr (.inr (some (7, 0)))), some (.inl m_), some (.inl i_), some (.inl vx9_)], [.inl vx9_], Sx15_)) rfl ?_
              refine sm_T_b0 (a := 0) (z := 7) rfl (fun cx20_ => ?_) (fun cx20_ => ?_)
              · have cx20_ : vx9_ = 0 := of_decide_eq_true cx20_
                have ht_ : tb_ = false := by cases tb_; rfl; (rw [if_pos rfl] at t30_; omega)
                refine sm_T_go 1 (c1 := (115, [some (.inr (.inr (some (7, 0)))), some (.inl m_), some (.inl i_), some (.inl vx9_)], [.inr (.inr (some (7, 0)))], Sx15_)) rfl ?_
                refine sm_T_calx (d1 := 3) (Q1 := vq_145 b_ n_ md_ (p_pm b_ n_ md_ A_ M_ K_ f_) R_ o2_ (p_ti md_ tb_ (r9_.2.1 :: g1_) (r9_.2.2 ++ c1_)).1 (p_ti md_ tb_ (r9_.2.1 :: g1_) (r9_.2.2 ++ c1_)).2 r9_.1 Sx15_) (Q2 := vx_145 b_ n_ md_ (p_pm b_ n_ md_ A_ M_ K_ f_) R_ o2_ (p_ti md_ tb_ (r9_.2.1 :: g1_) (r9_.2.2 ++ c1_)).1 (p_ti md_ tb_ (r9_.2.1 :: g1_) (r9_.2.2 ++ c1_)).2 r9_.1 Sx15_) rfl rfl (by decide) (vc_145 b_ n_ md_ (p_pm b_ n_ md_ A_ M_ K_ f_) R_ o2_ (p_ti md_ tb_ (r9_.2.1 :: g1_) (r9_.2.2 ++ c1_)).1 (p_ti md_ tb_ (r9_.2.1 :: g1_) (r9_.2.2 ++ c1_)).2 r9_.1 Sx15_ hIx16_ (by rw [ht_]; first | exact x111_ | exact x99_) (by first | exact c111_ | exact c9_) (by exact hpr_) (by exact hs9_.1) (by exact hs9_.2)) rfl (fun Sx21_ px24_ => ?_) (fun u_ Sx21_ px24_ => ?_)
                · obtain ⟨hIx22_, hFx23_, px24_⟩ := px24_
                  refine Or.inr ⟨_, rfl, hIx22_, ai_fr_tr hFx19_ (fr_le hFx23_ rfl), ?_⟩
                  exact px24_
                obtain ⟨vx26_, rfl, hIx22_, hFx23_, px24_⟩ := px24_
                have hFx25_ : ai_fr (sx_W vw_134) S0_ Sx21_ := ai_fr_tr hFx19_ (fr_le hFx23_ rfl)
                have e115_ := px24_
                refine sm_T_go 1 (c1 := (119, [some (.inr (.inr (some (7, 0)))), some (.inl vx26_), some (.inl i_), some (.inl vx9_)], [], Sx21_)) rfl ?_
                refine sm_T_inc (a := 2) (z := 1) (v := i_) (w := i_ + 1) rfl rfl (by omega) (by omega) (by omega) ?_
                refine sm_T_go 1 (c1 := (19, [some (.inr (.inr (some (7, 0)))), some (.inl vx26_), some (.inl (i_ + 1)), some (.inl vx9_)], [], Sx21_)) rfl ?_
                refine sm_T_wk [some (.inr (.inr (some (7, 0)))), some (.inl vx26_), some (.inl (i_ + 1)), none] (by exact ⟨rfl, rfl, rfl, trivial⟩) ?_
                refine ih_ vx26_ (i_ + 1) Sx21_ hIx22_ hFx25_ ⟨?_, ?_, trivial⟩ ?_
                · rcases e115_ with ⟨z1_, o3_, g3_, c3_, q3_, z2_, z3_, z4_, z5_, z6_⟩ | ⟨z1_, g3_, c3_, q3_, z2_, z3_, z4_, z5_, z6_, z7_⟩
                  · have st3_ := z2_.2.2.2.2.2.1
                    have := hlt9_.1
                    omega
                  · have st3_ := z2_.2.2.2.2.2.1
                    have := hlt9_.1
                    omega
                · have := hlt9_.1
                  rcases e115_ with ⟨z1_, o3_, g3_, c3_, q3_, z2_, z3_, z4_, z5_, z6_⟩ | ⟨z1_, g3_, c3_, q3_, z2_, z3_, z4_, z5_, z6_, z7_⟩
                  · left; exact ⟨z1_, o3_, g3_, c3_, q3_, z2_, z3_, z4_, z5_, by omega⟩
                  · right; exact ⟨z1_, g3_, c3_, q3_, z2_, z3_, z4_, z5_, by omega, z7_⟩
                · (refine ms_lt ?_ ?_ hm_); (have := hlt9_.1; rcases e115_ with ⟨z1_, o3_, g3_, c3_, q3_, z2_, z3_, z4_, z5_, z6_⟩ | ⟨z1_, g3_, c3_, q3_, z2_, z3_, z4_, z5_, z6_, z7_⟩ <;> (have st3_ := z2_.2.2.2.2.2.1; omega)); (rcases e115_ with ⟨z1_, o3_, g3_, c3_, q3_, z2_, z3_, z4_, z5_, z6_⟩ | ⟨z1_, g3_, c3_, q3_, z2_, z3_, z4_, z5_, z6_, z7_⟩ <;> (have st3_ := z2_.2.2.2.2.2.1; have hp3_ := z2_.2.2.2.1; omega))
              · have cx20_ : ¬ (vx9_ = 0) := of_decide_eq_false cx20_
                have ht_ : tb_ = true := by cases tb_; (rw [if_neg (by decide)] at t30_; omega); rfl
                refine sm_T_go 1 (c1 := (111, [some (.inr (.inr (some (7, 0)))), some (.inl m_), some (.inl i_), some (.inl vx9_)], [.inr (.inr (some (7, 0)))], Sx15_)) rfl ?_
                refine sm_T_cal (d1 := 1) (Q1 := vq_139 md_ o2_ g1_ (r9_.2.2 ++ c1_) r9_.2.1 Sx15_) rfl rfl (by decide) (vc_139 md_ o2_ g1_ (r9_.2.2 ++ c1_) r9_.2.1 Sx15_ hIx16_ (by exact x99_.1) (by (rw [List.length_append]; have := hlt9_.2.2.2.2; have := hlt9_.2.1; omega))) (fun u_ Sx27_ px30_ => ?_)
                obtain ⟨rfl, hIx28_, hFx29_, px30_⟩ := px30_
                have hFx31_ : ai_fr (sx_W vw_134) S0_ Sx27_ := ai_fr_tr hFx19_ (fr_le hFx29_ rfl)
                have x111_ : xr md_ o2_ _ _ Sx27_ := ⟨px30_, (hFx29_.1 7 0 17 rfl).trans x99_.2⟩
                have c111_ := ct_fr c9_ hFx29_ rfl rfl rfl rfl rfl rfl rfl
                refine sm_T_go 1 (c1 := (115, [some (.inr (.inr (some (7, 0)))), some (.inl m_), some (.inl i_), some (.inl vx9_)], [.inr (.inr (some (7, 0)))], Sx27_)) rfl ?_
                refine sm_T_calx (d1 := 3) (Q1 := vq_145 b_ n_ md_ (p_pm b_ n_ md_ A_ M_ K_ f_) R_ o2_ (p_ti md_ tb_ (r9_.2.1 :: g1_) (r9_.2.2 ++ c1_)).1 (p_ti md_ tb_ (r9_.2.1 :: g1_) (r9_.2.2 ++ c1_)).2 r9_.1 Sx27_) (Q2 := vx_145 b_ n_ md_ (p_pm b_ n_ md_ A_ M_ K_ f_) R_ o2_ (p_ti md_ tb_ (r9_.2.1 :: g1_) (r9_.2.2 ++ c1_)).1 (p_ti md_ tb_ (r9_.2.1 :: g1_) (r9_.2.2 ++ c1_)).2 r9_.1 Sx27_) rfl rfl (by decide) (vc_145 b_ n_ md_ (p_pm b_ n_ md_ A_ M_ K_ f_) R_ o2_ (p_ti md_ tb_ (r9_.2.1 :: g1_) (r9_.2.2 ++ c1_)).1 (p_ti md_ tb_ (r9_.2.1 :: g1_) (r9_.2.2 ++ c1_)).2 r9_.1 Sx27_ hIx28_ (by rw [ht_]; first | exact x111_ | exact x99_) (by first | exact c111_ | exact c9_) (by exact hpr_) (by exact hs9_.1) (by exact hs9_.2)) rfl (fun Sx32_ px35_ => ?_) (fun u_ Sx32_ px35_ => ?_)
                · obtain ⟨hIx33_, hFx34_, px35_⟩ := px35_
                  refine Or.inr ⟨_, rfl, hIx33_, ai_fr_tr hFx31_ (fr_le hFx34_ rfl), ?_⟩
                  exact px35_
                obtain ⟨vx37_, rfl, hIx33_, hFx34_, px35_⟩ := px35_
                have hFx36_ : ai_fr (sx_W vw_134) S0_ Sx32_ := ai_fr_tr hFx31_ (fr_le hFx34_ rfl)
                have e115_ := px35_
                refine sm_T_go 1 (c1 := (119, [some (.inr (.inr (some (7, 0)))), some (.inl vx37_), some (.inl i_), some (.inl vx9_)], [], Sx32_)) rfl ?_
                refine sm_T_inc (a := 2) (z := 1) (v := i_) (w := i_ + 1) rfl rfl (by omega) (by omega) (by omega) ?_
                refine sm_T_go 1 (c1 := (19, [some (.inr (.inr (some (7, 0)))), some (.inl vx37_), some (.inl (i_ + 1)), some (.inl vx9_)], [], Sx32_)) rfl ?_
                refine sm_T_wk [some (.inr (.inr (some (7, 0)))), some (.inl vx37_), some (.inl (i_ + 1)), none] (by exact ⟨rfl, rfl, rfl, trivial⟩) ?_
                refine ih_ vx37_ (i_ + 1) Sx32_ hIx33_ hFx36_ ⟨?_, ?_, trivial⟩ ?_
                · rcases e115_ with ⟨z1_, o3_, g3_, c3_, q3_, z2_, z3_, z4_, z5_, z6_⟩ | ⟨z1_, g3_, c3_, q3_, z2_, z3_, z4_, z5_, z6_, z7_⟩
                  · have st3_ := z2_.2.2.2.2.2.1
                    have := hlt9_.1
                    omega
                  · have st3_ := z2_.2.2.2.2.2.1
                    have := hlt9_.1
                    omega
                · have := hlt9_.1
                  rcases e115_ with ⟨z1_, o3_, g3_, c3_, q3_, z2_, z3_, z4_, z5_, z6_⟩ | ⟨z1_, g3_, c3_, q3_, z2_, z3_, z4_, z5_, z6_, z7_⟩
                  · left; exact ⟨z1_, o3_, g3_, c3_, q3_, z2_, z3_, z4_, z5_, by omega⟩
                  · right; exact ⟨z1_, g3_, c3_, q3_, z2_, z3_, z4_, z5_, by omega, z7_⟩
                · (refine ms_lt ?_ ?_ hm_); (have := hlt9_.1; rcases e115_ with ⟨z1_, o3_, g3_, c3_, q3_, z2_, z3_, z4_, z5_, z6_⟩ | ⟨z1_, g3_, c3_, q3_, z2_, z3_, z4_, z5_, z6_, z7_⟩ <;> (have st3_ := z2_.2.2.2.2.2.1; omega)); (rcases e115_ with ⟨z1_, o3_, g3_, c3_, q3_, z2_, z3_, z4_, z5_, z6_⟩ | ⟨z1_, g3_, c3_, q3_, z2_, z3_, z4_, z5_, z6_, z7_⟩ <;> (have st3_ := z2_.2.2.2.2.2.1; have hp3_ := z2_.2.2.2.1; omega))
            · have cx14_ : ¬ ((Sx4_.1 10 0 2) = 1) := of_decide_eq_false cx14_
              have bx38_ : 0 ≤ Sx4_.1 10 0 3 ∧ Sx4_.1 10 0 3 ≤ 1280 := hIx5_.1 10 0 3 rfl
              refine sm_T_go 6 (c1 := (82, [some (.inr (.inr (some (7, 0)))), some (.inl m_), some (.inl i_), some (.inl vx9_)], [.inl (Sx4_.1 10 0 3), .inl 2, .inr (.inr (some (10, 0)))], Sx4_)) rfl ?_
              refine sm_T_calx (d1 := 0) (Q1 := vq_187 2 (Sx4_.1 10 0 3) Sx4_) (Q2 := vx_187 2 (Sx4_.1 10 0 3) Sx4_) rfl rfl (by decide) (vc_187 2 (Sx4_.1 10 0 3) Sx4_ hIx5_ (by decide) (by omega)) rfl (fun Sx39_ px42_ => ?_) (fun u_ Sx39_ px42_ => ?_)
              · obtain ⟨hIx40_, hFx41_, px42_⟩ := px42_
                refine Or.inr ⟨_, rfl, hIx40_, ai_fr_tr hFx8_ (fr_le hFx41_ rfl), ?_⟩
                refine ⟨(2, q2_), p_er R30_ ?_, px42_.1, px42_.2.trans st30_⟩
                rw [pA_p k33_ k40_]; unfold p_pm; first | (rw [if_neg (by rw [hmd_]; decide)]; unfold p_pd; rw [if_neg (by omega), if_neg (by omega)]; rfl) | (rw [if_pos hmd_]; unfold p_pl; rw [if_neg (by omega)]; rfl)
              · exact (px42_.2.2.2).elim
          · have cx13_ : ¬ ((Sx4_.1 10 0 2) ≠ 2) := of_decide_eq_false cx13_
            refine sm_T_go 1 (c1 := (53, [some (.inr (.inr (some (7, 0)))), some (.inl m_), some (.inl i_), some (.inl vx9_)], [.inr (.inr (some (7, 0)))], Sx4_)) rfl ?_
            refine sm_T_calx (d1 := 2) (Q1 := vq_142 o2_ g1_ c1_ b_ n_ q2_ Sx4_) (Q2 := vx_142 o2_ g1_ c1_ b_ n_ q2_ Sx4_) rfl rfl (by decide) (vc_142 o2_ g1_ c1_ b_ n_ q2_ Sx4_ hIx5_ (by rw [hmd_] at x30_; exact x30_) (by exact c30_) (by omega) (by omega) (by omega)) rfl (fun Sx44_ px47_ => ?_) (fun u_ Sx44_ px47_ => ?_)
            · obtain ⟨hIx45_, hFx46_, px47_⟩ := px47_
              refine Or.inr ⟨_, rfl, hIx45_, ai_fr_tr hFx8_ (fr_le hFx46_ rfl), ?_⟩
              obtain ⟨e9_, w1_, w2_⟩ := px47_
              refine ⟨e9_, p_er R30_ ?_, w2_⟩
              rw [pA_p k33_ k40_]; unfold p_pm; rw [if_neg (by rw [hmd_]; decide)]; unfold p_pd; rw [if_pos (by omega)]; rw [w1_]; rfl
            obtain ⟨rfl, hIx45_, hFx46_, px47_⟩ := px47_
            have hFx48_ : ai_fr (sx_W vw_134) S0_ Sx44_ := ai_fr_tr hFx8_ (fr_le hFx46_ rfl)
            obtain ⟨r9_, pr9_, x9_, c9_⟩ := px47_
            have pq9_ : (p_pm b_ n_ md_ A_ M_ K_ f_) q2_ = .inr r9_ := by unfold p_pm; rw [if_neg (by rw [hmd_]; decide)]; unfold p_pd; rw [if_pos (by omega)]; exact pr9_
            have hs9_ := p_go hn1_ hpr_ ok30_ R30_ (by rw [pA_p k33_ k40_, pq9_]; rfl)
            have hlt9_ := hpr_ q2_ r9_ ok30_.2.2.1 ok30_.2.2.2.1 pq9_
            have x99_ : xr md_ o2_ (r9_.2.1 :: g1_) (r9_.2.2 ++ c1_) Sx44_ := by rw [hmd_]; exact x9_
            refine sm_T_go 2 (c1 := (107, [some (.inr (.inr (some (7, 0)))), some (.inl m_), some (.inl i_), some (.inl vx9_)], [.inl vx9_], Sx44_)) rfl ?_
            refine sm_T_b0 (a := 0) (z := 7) rfl (fun cx49_ => ?_) (fun cx49_ => ?_)
            · have cx49_ : vx9_ = 0 := of_decide_eq_true cx49_
              have ht_ : tb_ = false := by cases tb_; rfl; (rw [if_pos rfl] at t30_; omega)
              refine sm_T_go 1 (c1 := (115, [some (.inr (.inr (some (7, 0)))), some (.inl m_), some (.inl i_), some (.inl vx9_)], [.inr (.inr (some (7, 0)))], Sx44_)) rfl ?_
              refine sm_T_calx (d1 := 3) (Q1 := vq_145 b_ n_ md_ (p_pm b_ n_ md_ A_ M_ K_ f_) R_ o2_ (p_ti md_ tb_ (r9_.2.1 :: g1_) (r9_.2.2 ++ c1_)).1 (p_ti md_ tb_ (r9_.2.1 :: g1_) (r9_.2.2 ++ c1_)).2 r9_.1 Sx44_) (Q2 := vx_145 b_ n_ md_ (p_pm b_ n_ md_ A_ M_ K_ f_) R_ o2_ (p_ti md_ tb_ (r9_.2.1 :: g1_) (r9_.2.2 ++ c1_)).1 (p_ti md_ tb_ (r9_.2.1 :: g1_) (r9_.2.2 ++ c1_)).2 r9_.1 Sx44_) rfl rfl (by decide) (vc_145 b_ n_ md_ (p_pm b_ n_ md_ A_ M_ K_ f_) R_ o2_ (p_ti md_ tb_ (r9_.2.1 :: g1_) (r9_.2.2 ++ c1_)).1 (p_ti md_ tb_ (r9_.2.1 :: g1_) (r9_.2.2 ++ c1_)).2 r9_.1 Sx44_ hIx45_ (by rw [ht_]; first | exact x111_ | exact x99_) (by first | exact c111_ | exact c9_) (by exact hpr_) (by exact hs9_.1) (by exact hs9_.2)) rfl (fun Sx50_ px53_ => ?_) (fun u_ Sx50_ px53_ => ?_)
              · obtain ⟨hIx51_, hFx52_, px53_⟩ := px53_
                refine Or.inr ⟨_, rfl, hIx51_, ai_fr_tr hFx48_ (fr_le hFx52_ rfl), ?_⟩
                exact px53_
              obtain ⟨vx55_, rfl, hIx51_, hFx52_, px53_⟩ := px53_
              have hFx54_ : ai_fr (sx_W vw_134) S0_ Sx50_ := ai_fr_tr hFx48_ (fr_le hFx52_ rfl)
              have e115_ := px53_
              refine sm_T_go 1 (c1 := (119, [some (.inr (.inr (some (7, 0)))), some (.inl vx55_), some (.inl i_), some (.inl vx9_)], [], Sx50_)) rfl ?_
              refine sm_T_inc (a := 2) (z := 1) (v := i_) (w := i_ + 1) rfl rfl (by omega) (by omega) (by omega) ?_
              refine sm_T_go 1 (c1 := (19, [some (.inr (.inr (some (7, 0)))), some (.inl vx55_), some (.inl (i_ + 1)), some (.inl vx9_)], [], Sx50_)) rfl ?_
              refine sm_T_wk [some (.inr (.inr (some (7, 0)))), some (.inl vx55_), some (.inl (i_ + 1)), none] (by exact ⟨rfl, rfl, rfl, trivial⟩) ?_
              refine ih_ vx55_ (i_ + 1) Sx50_ hIx51_ hFx54_ ⟨?_, ?_, trivial⟩ ?_
              · rcases e115_ with ⟨z1_, o3_, g3_, c3_, q3_, z2_, z3_, z4_, z5_, z6_⟩ | ⟨z1_, g3_, c3_, q3_, z2_, z3_, z4_, z5_, z6_, z7_⟩
                · have st3_ := z2_.2.2.2.2.2.1
                  have := hlt9_.1
                  omega
                · have st3_ := z2_.2.2.2.2.2.1
                  have := hlt9_.1
                  omega
              · have := hlt9_.1
                rcases e115_ with ⟨z1_, o3_, g3_, c3_, q3_, z2_, z3_, z4_, z5_, z6_⟩ | ⟨z1_, g3_, c3_, q3_, z2_, z3_, z4_, z5_, z6_, z7_⟩
                · left; exact ⟨z1_, o3_, g3_, c3_, q3_, z2_, z3_, z4_, z5_, by omega⟩
                · right; exact ⟨z1_, g3_, c3_, q3_, z2_, z3_, z4_, z5_, by omega, z7_⟩
              · (refine ms_lt ?_ ?_ hm_); (have := hlt9_.1; rcases e115_ with ⟨z1_, o3_, g3_, c3_, q3_, z2_, z3_, z4_, z5_, z6_⟩ | ⟨z1_, g3_, c3_, q3_, z2_, z3_, z4_, z5_, z6_, z7_⟩ <;> (have st3_ := z2_.2.2.2.2.2.1; omega)); (rcases e115_ with ⟨z1_, o3_, g3_, c3_, q3_, z2_, z3_, z4_, z5_, z6_⟩ | ⟨z1_, g3_, c3_, q3_, z2_, z3_, z4_, z5_, z6_, z7_⟩ <;> (have st3_ := z2_.2.2.2.2.2.1; have hp3_ := z2_.2.2.2.1; omega))
            · have cx49_ : ¬ (vx9_ = 0) := of_decide_eq_false cx49_
              have ht_ : tb_ = true := by cases tb_; (rw [if_neg (by decide)] at t30_; omega); rfl
              refine sm_T_go 1 (c1 := (111, [some (.inr (.inr (some (7, 0)))), some (.inl m_), some (.inl i_), some (.inl vx9_)], [.inr (.inr (some (7, 0)))], Sx44_)) rfl ?_
              refine sm_T_cal (d1 := 1) (Q1 := vq_139 md_ o2_ g1_ (r9_.2.2 ++ c1_) r9_.2.1 Sx44_) rfl rfl (by decide) (vc_139 md_ o2_ g1_ (r9_.2.2 ++ c1_) r9_.2.1 Sx44_ hIx45_ (by exact x99_.1) (by (rw [List.length_append]; have := hlt9_.2.2.2.2; have := hlt9_.2.1; omega))) (fun u_ Sx56_ px59_ => ?_)
              obtain ⟨rfl, hIx57_, hFx58_, px59_⟩ := px59_
              have hFx60_ : ai_fr (sx_W vw_134) S0_ Sx56_ := ai_fr_tr hFx48_ (fr_le hFx58_ rfl)
              have x111_ : xr md_ o2_ _ _ Sx56_ := ⟨px59_, (hFx58_.1 7 0 17 rfl).trans x99_.2⟩
              have c111_ := ct_fr c9_ hFx58_ rfl rfl rfl rfl rfl rfl rfl
              refine sm_T_go 1 (c1 := (115, [some (.inr (.inr (some (7, 0)))), some (.inl m_), some (.inl i_), some (.inl vx9_)], [.inr (.inr (some (7, 0)))], Sx56_)) rfl ?_
              refine sm_T_calx (d1 := 3) (Q1 := vq_145 b_ n_ md_ (p_pm b_ n_ md_ A_ M_ K_ f_) R_ o2_ (p_ti md_ tb_ (r9_.2.1 :: g1_) (r9_.2.2 ++ c1_)).1 (p_ti md_ tb_ (r9_.2.1 :: g1_) (r9_.2.2 ++ c1_)).2 r9_.1 Sx56_) (Q2 := vx_145 b_ n_ md_ (p_pm b_ n_ md_ A_ M_ K_ f_) R_ o2_ (p_ti md_ tb_ (r9_.2.1 :: g1_) (r9_.2.2 ++ c1_)).1 (p_ti md_ tb_ (r9_.2.1 :: g1_) (r9_.2.2 ++ c1_)).2 r9_.1 Sx56_) rfl rfl (by decide) (vc_145 b_ n_ md_ (p_pm b_ n_ md_ A_ M_ K_ f_) R_ o2_ (p_ti md_ tb_ (r9_.2.1 :: g1_) (r9_.2.2 ++ c1_)).1 (p_ti md_ tb_ (r9_.2.1 :: g1_) (r9_.2.2 ++ c1_)).2 r9_.1 Sx56_ hIx57_ (by rw [ht_]; first | exact x111_ | exact x99_) (by first | exact c111_ | exact c9_) (by exact hpr_) (by exact hs9_.1) (by exact hs9_.2)) rfl (fun Sx61_ px64_ => ?_) (fun u_ Sx61_ px64_ => ?_)
              · obtain ⟨hIx62_, hFx63_, px64_⟩ := px64_
                refine Or.inr ⟨_, rfl, hIx62_, ai_fr_tr hFx60_ (fr_le hFx63_ rfl), ?_⟩
                exact px64_
              obtain ⟨vx66_, rfl, hIx62_, hFx63_, px64_⟩ := px64_
              have hFx65_ : ai_fr (sx_W vw_134) S0_ Sx61_ := ai_fr_tr hFx60_ (fr_le hFx63_ rfl)
              have e115_ := px64_
              refine sm_T_go 1 (c1 := (119, [some (.inr (.inr (some (7, 0)))), some (.inl vx66_), some (.inl i_), some (.inl vx9_)], [], Sx61_)) rfl ?_
              refine sm_T_inc (a := 2) (z := 1) (v := i_) (w := i_ + 1) rfl rfl (by omega) (by omega) (by omega) ?_
              refine sm_T_go 1 (c1 := (19, [some (.inr (.inr (some (7, 0)))), some (.inl vx66_), some (.inl (i_ + 1)), some (.inl vx9_)], [], Sx61_)) rfl ?_
              refine sm_T_wk [some (.inr (.inr (some (7, 0)))), some (.inl vx66_), some (.inl (i_ + 1)), none] (by exact ⟨rfl, rfl, rfl, trivial⟩) ?_
              refine ih_ vx66_ (i_ + 1) Sx61_ hIx62_ hFx65_ ⟨?_, ?_, trivial⟩ ?_
              · rcases e115_ with ⟨z1_, o3_, g3_, c3_, q3_, z2_, z3_, z4_, z5_, z6_⟩ | ⟨z1_, g3_, c3_, q3_, z2_, z3_, z4_, z5_, z6_, z7_⟩
                · have st3_ := z2_.2.2.2.2.2.1
                  have := hlt9_.1
                  omega
                · have st3_ := z2_.2.2.2.2.2.1
                  have := hlt9_.1
                  omega
              · have := hlt9_.1
                rcases e115_ with ⟨z1_, o3_, g3_, c3_, q3_, z2_, z3_, z4_, z5_, z6_⟩ | ⟨z1_, g3_, c3_, q3_, z2_, z3_, z4_, z5_, z6_, z7_⟩
                · left; exact ⟨z1_, o3_, g3_, c3_, q3_, z2_, z3_, z4_, z5_, by omega⟩
                · right; exact ⟨z1_, g3_, c3_, q3_, z2_, z3_, z4_, z5_, by omega, z7_⟩
              · (refine ms_lt ?_ ?_ hm_); (have := hlt9_.1; rcases e115_ with ⟨z1_, o3_, g3_, c3_, q3_, z2_, z3_, z4_, z5_, z6_⟩ | ⟨z1_, g3_, c3_, q3_, z2_, z3_, z4_, z5_, z6_, z7_⟩ <;> (have st3_ := z2_.2.2.2.2.2.1; omega)); (rcases e115_ with ⟨z1_, o3_, g3_, c3_, q3_, z2_, z3_, z4_, z5_, z6_⟩ | ⟨z1_, g3_, c3_, q3_, z2_, z3_, z4_, z5_, z6_, z7_⟩ <;> (have st3_ := z2_.2.2.2.2.2.1; have hp3_ := z2_.2.2.2.1; omega))
        | some jx11_ =>
          refine sm_T_gr rfl rfl qx10_ ?_
          have hmd_ : md_ = true := xs_s x30_.1 qx10_
          have bx67_ : (-128) ≤ Sx4_.1 10 0 2 ∧ Sx4_.1 10 0 2 ≤ 257 := hIx5_.1 10 0 2 rfl
          refine sm_T_go 5 (c1 := (67, [some (.inr (.inr (some (7, 0)))), some (.inl m_), some (.inl i_), some (.inl vx9_)], [.inl 1, .inl (Sx4_.1 10 0 2)], Sx4_)) rfl ?_
          refine sm_T_br (a := 0) (z := 21) rfl (fun cx68_ => ?_) (fun cx68_ => ?_)
          · have cx68_ : (Sx4_.1 10 0 2) = 1 := of_decide_eq_true cx68_
            refine sm_T_go 1 (c1 := (89, [some (.inr (.inr (some (7, 0)))), some (.inl m_), some (.inl i_), some (.inl vx9_)], [.inr (.inr (some (7, 0)))], Sx4_)) rfl ?_
            refine sm_T_gr rfl rfl qx10_ ?_
            refine sm_T_go 2 (c1 := (103, [some (.inr (.inr (some (7, 0)))), some (.inl m_), some (.inl i_), some (.inl vx9_)], [.inr (.inr (some (7, 0)))], Sx4_)) rfl ?_
            refine sm_T_calx (d1 := 2) (Q1 := vq_141 o2_ g1_ c1_ b_ n_ q2_ K_ f_ Sx4_) (Q2 := vx_141 o2_ g1_ c1_ b_ n_ q2_ K_ f_ Sx4_) rfl rfl (by decide) (vc_141 o2_ g1_ c1_ b_ n_ q2_ K_ f_ Sx4_ hIx5_ (by rw [hmd_] at x30_; exact x30_) (by exact c30_) (by omega) (by exact (hnr2_ hmd_).1) (by exact (hnr2_ hmd_).2) (by omega)) rfl (fun Sx69_ px72_ => ?_) (fun u_ Sx69_ px72_ => ?_)
            · obtain ⟨hIx70_, hFx71_, px72_⟩ := px72_
              refine Or.inr ⟨_, rfl, hIx70_, ai_fr_tr hFx8_ (fr_le hFx71_ rfl), ?_⟩
              obtain ⟨e9_, w1_, w2_⟩ := px72_
              refine ⟨e9_, p_er R30_ ?_, w2_⟩
              rw [pA_p k33_ k40_]; unfold p_pm; rw [if_pos hmd_, w1_]; rfl
            obtain ⟨rfl, hIx70_, hFx71_, px72_⟩ := px72_
            have hFx73_ : ai_fr (sx_W vw_134) S0_ Sx69_ := ai_fr_tr hFx8_ (fr_le hFx71_ rfl)
            obtain ⟨r9_, pr9_, x9_, c9_⟩ := px72_
            have pq9_ : (p_pm b_ n_ md_ A_ M_ K_ f_) q2_ = .inr r9_ := by unfold p_pm; rw [if_pos hmd_]; exact pr9_
            have hs9_ := p_go hn1_ hpr_ ok30_ R30_ (by rw [pA_p k33_ k40_, pq9_]; rfl)
            have hlt9_ := hpr_ q2_ r9_ ok30_.2.2.1 ok30_.2.2.2.1 pq9_
            have x99_ : xr md_ o2_ (r9_.2.1 :: g1_) (r9_.2.2 ++ c1_) Sx69_ := by rw [hmd_]; exact x9_
            refine sm_T_go 1 (c1 := (107, [some (.inr (.inr (some (7, 0)))), some (.inl m_), some (.inl i_), some (.inl vx9_)], [.inl vx9_], Sx69_)) rfl ?_
            refine sm_T_b0 (a := 0) (z := 7) rfl (fun cx74_ => ?_) (fun cx74_ => ?_)
            · have cx74_ : vx9_ = 0 := of_decide_eq_true cx74_
              have ht_ : tb_ = false := by cases tb_; rfl; (rw [if_pos rfl] at t30_; omega)
              refine sm_T_go 1 (c1 := (115, [some (.inr (.inr (some (7, 0)))), some (.inl m_), some (.inl i_), some (.inl vx9_)], [.inr (.inr (some (7, 0)))], Sx69_)) rfl ?_
              refine sm_T_calx (d1 := 3) (Q1 := vq_145 b_ n_ md_ (p_pm b_ n_ md_ A_ M_ K_ f_) R_ o2_ (p_ti md_ tb_ (r9_.2.1 :: g1_) (r9_.2.2 ++ c1_)).1 (p_ti md_ tb_ (r9_.2.1 :: g1_) (r9_.2.2 ++ c1_)).2 r9_.1 Sx69_) (Q2 := vx_145 b_ n_ md_ (p_pm b_ n_ md_ A_ M_ K_ f_) R_ o2_ (p_ti md_ tb_ (r9_.2.1 :: g1_) (r9_.2.2 ++ c1_)).1 (p_ti md_ tb_ (r9_.2.1 :: g1_) (r9_.2.2 ++ c1_)).2 r9_.1 Sx69_) rfl rfl (by decide) (vc_145 b_ n_ md_ (p_pm b_ n_ md_ A_ M_ K_ f_) R_ o2_ (p_ti md_ tb_ (r9_.2.1 :: g1_) (r9_.2.2 ++ c1_)).1 (p_ti md_ tb_ (r9_.2.1 :: g1_) (r9_.2.2 ++ c1_)).2 r9_.1 Sx69_ hIx70_ (by rw [ht_]; first | exact x111_ | exact x99_) (by first | exact c111_ | exact c9_) (by exact hpr_) (by exact hs9_.1) (by exact hs9_.2)) rfl (fun Sx75_ px78_ => ?_) (fun u_ Sx75_ px78_ => ?_)
              · obtain ⟨hIx76_, hFx77_, px78_⟩ := px78_
                refine Or.inr ⟨_, rfl, hIx76_, ai_fr_tr hFx73_ (fr_le hFx77_ rfl), ?_⟩
                exact px78_
              obtain ⟨vx80_, rfl, hIx76_, hFx77_, px78_⟩ := px78_
              have hFx79_ : ai_fr (sx_W vw_134) S0_ Sx75_ := ai_fr_tr hFx73_ (fr_le hFx77_ rfl)
              have e115_ := px78_
              refine sm_T_go 1 (c1 := (119, [some (.inr (.inr (some (7, 0)))), some (.inl vx80_), some (.inl i_), some (.inl vx9_)], [], Sx75_)) rfl ?_
              refine sm_T_inc (a := 2) (z := 1) (v := i_) (w := i_ + 1) rfl rfl (by omega) (by omega) (by omega) ?_
              refine sm_T_go 1 (c1 := (19, [some (.inr (.inr (some (7, 0)))), some (.inl vx80_), some (.inl (i_ + 1)), some (.inl vx9_)], [], Sx75_)) rfl ?_
              refine sm_T_wk [some (.inr (.inr (some (7, 0)))), some (.inl vx80_), some (.inl (i_ + 1)), none] (by exact ⟨rfl, rfl, rfl, trivial⟩) ?_
              refine ih_ vx80_ (i_ + 1) Sx75_ hIx76_ hFx79_ ⟨?_, ?_, trivial⟩ ?_
              · rcases e115_ with ⟨z1_, o3_, g3_, c3_, q3_, z2_, z3_, z4_, z5_, z6_⟩ | ⟨z1_, g3_, c3_, q3_, z2_, z3_, z4_, z5_, z6_, z7_⟩
                · have st3_ := z2_.2.2.2.2.2.1
                  have := hlt9_.1
                  omega
                · have st3_ := z2_.2.2.2.2.2.1
                  have := hlt9_.1
                  omega
              · have := hlt9_.1
                rcases e115_ with ⟨z1_, o3_, g3_, c3_, q3_, z2_, z3_, z4_, z5_, z6_⟩ | ⟨z1_, g3_, c3_, q3_, z2_, z3_, z4_, z5_, z6_, z7_⟩
                · left; exact ⟨z1_, o3_, g3_, c3_, q3_, z2_, z3_, z4_, z5_, by omega⟩
                · right; exact ⟨z1_, g3_, c3_, q3_, z2_, z3_, z4_, z5_, by omega, z7_⟩
              · (refine ms_lt ?_ ?_ hm_); (have := hlt9_.1; rcases e115_ with ⟨z1_, o3_, g3_, c3_, q3_, z2_, z3_, z4_, z5_, z6_⟩ | ⟨z1_, g3_, c3_, q3_, z2_, z3_, z4_, z5_, z6_, z7_⟩ <;> (have st3_ := z2_.2.2.2.2.2.1; omega)); (rcases e115_ with ⟨z1_, o3_, g3_, c3_, q3_, z2_, z3_, z4_, z5_, z6_⟩ | ⟨z1_, g3_, c3_, q3_, z2_, z3_, z4_, z5_, z6_, z7_⟩ <;> (have st3_ := z2_.2.2.2.2.2.1; have hp3_ := z2_.2.2.2.1; omega))
            · have cx74_ : ¬ (vx9_ = 0) := of_decide_eq_false cx74_
              have ht_ : tb_ = true := by cases tb_; (rw [if_neg (by decide)] at t30_; omega); rfl
              refine sm_T_go 1 (c1 := (111, [some (.inr (.inr (some (7, 0)))), some (.inl m_), some (.inl i_), some (.inl vx9_)], [.inr (.inr (some (7, 0)))], Sx69_)) rfl ?_
              refine sm_T_cal (d1 := 1) (Q1 := vq_139 md_ o2_ g1_ (r9_.2.2 ++ c1_) r9_.2.1 Sx69_) rfl rfl (by decide) (vc_139 md_ o2_ g1_ (r9_.2.2 ++ c1_) r9_.2.1 Sx69_ hIx70_ (by exact x99_.1) (by (rw [List.length_append]; have := hlt9_.2.2.2.2; have := hlt9_.2.1; omega))) (fun u_ Sx81_ px84_ => ?_)
              obtain ⟨rfl, hIx82_, hFx83_, px84_⟩ := px84_
              have hFx85_ : ai_fr (sx_W vw_134) S0_ Sx81_ := ai_fr_tr hFx73_ (fr_le hFx83_ rfl)
              have x111_ : xr md_ o2_ _ _ Sx81_ := ⟨px84_, (hFx83_.1 7 0 17 rfl).trans x99_.2⟩
              have c111_ := ct_fr c9_ hFx83_ rfl rfl rfl rfl rfl rfl rfl
              refine sm_T_go 1 (c1 := (115, [some (.inr (.inr (some (7, 0)))), some (.inl m_), some (.inl i_), some (.inl vx9_)], [.inr (.inr (some (7, 0)))], Sx81_)) rfl ?_
              refine sm_T_calx (d1 := 3) (Q1 := vq_145 b_ n_ md_ (p_pm b_ n_ md_ A_ M_ K_ f_) R_ o2_ (p_ti md_ tb_ (r9_.2.1 :: g1_) (r9_.2.2 ++ c1_)).1 (p_ti md_ tb_ (r9_.2.1 :: g1_) (r9_.2.2 ++ c1_)).2 r9_.1 Sx81_) (Q2 := vx_145 b_ n_ md_ (p_pm b_ n_ md_ A_ M_ K_ f_) R_ o2_ (p_ti md_ tb_ (r9_.2.1 :: g1_) (r9_.2.2 ++ c1_)).1 (p_ti md_ tb_ (r9_.2.1 :: g1_) (r9_.2.2 ++ c1_)).2 r9_.1 Sx81_) rfl rfl (by decide) (vc_145 b_ n_ md_ (p_pm b_ n_ md_ A_ M_ K_ f_) R_ o2_ (p_ti md_ tb_ (r9_.2.1 :: g1_) (r9_.2.2 ++ c1_)).1 (p_ti md_ tb_ (r9_.2.1 :: g1_) (r9_.2.2 ++ c1_)).2 r9_.1 Sx81_ hIx82_ (by rw [ht_]; first | exact x111_ | exact x99_) (by first | exact c111_ | exact c9_) (by exact hpr_) (by exact hs9_.1) (by exact hs9_.2)) rfl (fun Sx86_ px89_ => ?_) (fun u_ Sx86_ px89_ => ?_)
              · obtain ⟨hIx87_, hFx88_, px89_⟩ := px89_
                refine Or.inr ⟨_, rfl, hIx87_, ai_fr_tr hFx85_ (fr_le hFx88_ rfl), ?_⟩
                exact px89_
              obtain ⟨vx91_, rfl, hIx87_, hFx88_, px89_⟩ := px89_
              have hFx90_ : ai_fr (sx_W vw_134) S0_ Sx86_ := ai_fr_tr hFx85_ (fr_le hFx88_ rfl)
              have e115_ := px89_
              refine sm_T_go 1 (c1 := (119, [some (.inr (.inr (some (7, 0)))), some (.inl vx91_), some (.inl i_), some (.inl vx9_)], [], Sx86_)) rfl ?_
              refine sm_T_inc (a := 2) (z := 1) (v := i_) (w := i_ + 1) rfl rfl (by omega) (by omega) (by omega) ?_
              refine sm_T_go 1 (c1 := (19, [some (.inr (.inr (some (7, 0)))), some (.inl vx91_), some (.inl (i_ + 1)), some (.inl vx9_)], [], Sx86_)) rfl ?_
              refine sm_T_wk [some (.inr (.inr (some (7, 0)))), some (.inl vx91_), some (.inl (i_ + 1)), none] (by exact ⟨rfl, rfl, rfl, trivial⟩) ?_
              refine ih_ vx91_ (i_ + 1) Sx86_ hIx87_ hFx90_ ⟨?_, ?_, trivial⟩ ?_
              · rcases e115_ with ⟨z1_, o3_, g3_, c3_, q3_, z2_, z3_, z4_, z5_, z6_⟩ | ⟨z1_, g3_, c3_, q3_, z2_, z3_, z4_, z5_, z6_, z7_⟩
                · have st3_ := z2_.2.2.2.2.2.1
                  have := hlt9_.1
                  omega
                · have st3_ := z2_.2.2.2.2.2.1
                  have := hlt9_.1
                  omega
              · have := hlt9_.1
                rcases e115_ with ⟨z1_, o3_, g3_, c3_, q3_, z2_, z3_, z4_, z5_, z6_⟩ | ⟨z1_, g3_, c3_, q3_, z2_, z3_, z4_, z5_, z6_, z7_⟩
                · left; exact ⟨z1_, o3_, g3_, c3_, q3_, z2_, z3_, z4_, z5_, by omega⟩
                · right; exact ⟨z1_, g3_, c3_, q3_, z2_, z3_, z4_, z5_, by omega, z7_⟩
              · (refine ms_lt ?_ ?_ hm_); (have := hlt9_.1; rcases e115_ with ⟨z1_, o3_, g3_, c3_, q3_, z2_, z3_, z4_, z5_, z6_⟩ | ⟨z1_, g3_, c3_, q3_, z2_, z3_, z4_, z5_, z6_, z7_⟩ <;> (have st3_ := z2_.2.2.2.2.2.1; omega)); (rcases e115_ with ⟨z1_, o3_, g3_, c3_, q3_, z2_, z3_, z4_, z5_, z6_⟩ | ⟨z1_, g3_, c3_, q3_, z2_, z3_, z4_, z5_, z6_, z7_⟩ <;> (have st3_ := z2_.2.2.2.2.2.1; have hp3_ := z2_.2.2.2.1; omega))
          · have cx68_ : ¬ ((Sx4_.1 10 0 2) = 1) := of_decide_eq_false cx68_
            have bx92_ : 0 ≤ Sx4_.1 10 0 3 ∧ Sx4_.1 10 0 3 ≤ 1280 := hIx5_.1 10 0 3 rfl
            refine sm_T_go 6 (c1 := (82, [some (.inr (.inr (some (7, 0)))), some (.inl m_), some (.inl i_), some (.inl vx9_)], [.inl (Sx4_.1 10 0 3), .inl 2, .inr (.inr (some (10, 0)))], Sx4_)) rfl ?_
            refine sm_T_calx (d1 := 0) (Q1 := vq_187 2 (Sx4_.1 10 0 3) Sx4_) (Q2 := vx_187 2 (Sx4_.1 10 0 3) Sx4_) rfl rfl (by decide) (vc_187 2 (Sx4_.1 10 0 3) Sx4_ hIx5_ (by decide) (by omega)) rfl (fun Sx93_ px96_ => ?_) (fun u_ Sx93_ px96_ => ?_)
            · obtain ⟨hIx94_, hFx95_, px96_⟩ := px96_
              refine Or.inr ⟨_, rfl, hIx94_, ai_fr_tr hFx8_ (fr_le hFx95_ rfl), ?_⟩
              refine ⟨(2, q2_), p_er R30_ ?_, px96_.1, px96_.2.trans st30_⟩
              rw [pA_p k33_ k40_]; unfold p_pm; first | (rw [if_neg (by rw [hmd_]; decide)]; unfold p_pd; rw [if_neg (by omega), if_neg (by omega)]; rfl) | (rw [if_pos hmd_]; unfold p_pl; rw [if_neg (by omega)]; rfl)
            · exact (px96_.2.2.2).elim
set_option maxHeartbeats 1000000 in
theorem vc_134 {sc_ : Nat × (Nat → Int)} (b_ : Nat → Int) (n_ : Nat) (md_ : Bool) (A_ : pA) (M_ : Nat) (K_ : Nat) (f_ : Nat → Nat) (R_ : pE pR) (c_ : List Int) (p_ : Nat) (S0_ : sm_S) (hI_ : gi S0_) (hc_ : ct b_ n_ p_ S0_) (hlb_ : S0_.2.1 7 0 11 = none ↔ md_ = false) (hcd_ : md_ = false → S0_.1 7 0 2 = (c_.length : Int) ∧ stk (S0_.2.2.1 74 0) c_) (hcl_ : c_.length ≤ 3 * p_) (her_ : md_ = false → er b_ n_ A_ M_ S0_) (hnr_ : md_ = true → nmr b_ n_ 1 K_ f_ S0_ ∧ K_ ≤ 3) (hR_ : p_xx b_ n_ md_ (p_pm b_ n_ md_ A_ M_ K_ f_) (0, false, p_, [], [], c_) R_) : sm_T (mt_P sc_) 4 134 (0, [some (.inr (.inr (some (7, 0)))), none, none, none], [], S0_) (fun r_ => (∃ u_ S1_, r_ = (.inl u_, S1_, 0) ∧ vq_134 b_ n_ md_ A_ M_ K_ f_ R_ c_ p_ S0_ u_ S1_) ∨ ∃ S1_, r_ = (.inr 2, S1_, 1) ∧ vx_134 b_ n_ md_ A_ M_ K_ f_ R_ c_ p_ S0_ S1_) := by
  have hF_ : ai_fr (sx_W vw_134) S0_ S0_ := ai_fr_rf
  have hIx1_ : gi (sm_pI S0_ 7 0 14 0) := gi_pI hI_ (show 0 ≤ 0 ∧ 0 ≤ 488 from ⟨by omega, by omega⟩)
  have hFx2_ : ai_fr (sx_W vw_134) S0_ (sm_pI S0_ 7 0 14 0) := ai_fr_tr hF_ (ai_fr_pI rfl)
  have hIx3_ : gi (sm_pI (sm_pI S0_ 7 0 14 0) 7 0 16 0) := gi_pI hIx1_ (show 0 ≤ 0 ∧ 0 ≤ 488 from ⟨by omega, by omega⟩)
  have hFx4_ : ai_fr (sx_W vw_134) S0_ (sm_pI (sm_pI S0_ 7 0 14 0) 7 0 16 0) := ai_fr_tr hFx2_ (ai_fr_pI rfl)
  have hIx5_ : gi (sm_pI (sm_pI (sm_pI S0_ 7 0 14 0) 7 0 16 0) 7 0 17 0) := gi_pI hIx3_ (show 0 ≤ 0 ∧ 0 ≤ 60 from ⟨by omega, by omega⟩)
  have hFx6_ : ai_fr (sx_W vw_134) S0_ (sm_pI (sm_pI (sm_pI S0_ 7 0 14 0) 7 0 16 0) 7 0 17 0) := ai_fr_tr hFx4_ (ai_fr_pI rfl)
  refine sm_T_go 13 (c1 := (19, [some (.inr (.inr (some (7, 0)))), some (.inl 1), some (.inl 0), none], [], sm_pI (sm_pI (sm_pI S0_ 7 0 14 0) 7 0 16 0) 7 0 17 0)) rfl ?_
  refine (vl_134 b_ n_ md_ A_ M_ K_ f_ R_ c_ p_ S0_ hc_ hlb_ hcd_ hcl_ her_ hnr_ hR_ _) 1 0 (sm_pI (sm_pI (sm_pI S0_ 7 0 14 0) 7 0 16 0) 7 0 17 0) hIx5_ hFx6_ ⟨?_, ?_, trivial⟩ (Nat.lt_succ_self _)
  · have cst_ : 0 ≤ S0_.1 10 0 3 ∧ S0_.1 10 0 3 ≤ 1280 := hI_.1 10 0 3 rfl
    show 0 ≤ (0 : Int) ∧ (0 : Int) ≤ S0_.1 10 0 3
    omega
  · left
    exact ⟨rfl, [], [], c_, p_, hc_, ⟨⟨rfl, rfl, trivial, trivial, trivial, hlb_, hcd_⟩, rfl⟩, ⟨Nat.zero_le _, ⟨trivial, Nat.zero_le _, rfl, fun x_ hx_ => by cases hx_⟩, hc_.2.2.2.1, hc_.2.2.2.2.1, by show c_.length + 0 + 0 ≤ 3 * p_; exact hcl_⟩, hR_, Nat.le_refl _⟩
