/-! Reader.readOpenings -/
def vw_135 : sx_Wl := ([(7, 14), (7, 17), (10, 2), (10, 3), (10, 4), (10, 5), (10, 6), (10, 7), (10, 8)], [82, 83], [])
def vq_135 (b_ : Nat → Int) (n_ : Nat) (md_ : Bool) (pr_ : pPr) (R_ : pE pR) (o_ : List (Int × Nat)) (g_ : List Int) (c_ : List Int) (p_ : Nat) (S0_ : sm_S) (u_ : Option sm_V) (S1_ : sm_S) : Prop := ∃ v_ : Int, u_ = some (.inl v_) ∧ gi S1_ ∧ ai_fr (sx_W vw_135) S0_ S1_ ∧ (∃ (t_ : Bool) (o1_ : List (Int × Nat)) (q_ : Nat), v_ = (if t_ = true then 1 else 0) ∧ xr md_ o1_ g_ c_ S1_ ∧ ct b_ n_ q_ S1_ ∧ x_ok b_ n_ md_ (0, t_, q_, o1_, g_, c_) ∧ p_xx b_ n_ md_ pr_ (0, t_, q_, o1_, g_, c_) R_ ∧ lx_kd b_ n_ q_ ≠ 33 ∧ lx_kd b_ n_ q_ ≠ 40 ∧ p_ ≤ q_)
def vx_135 (b_ : Nat → Int) (n_ : Nat) (md_ : Bool) (pr_ : pPr) (R_ : pE pR) (o_ : List (Int × Nat)) (g_ : List Int) (c_ : List Int) (p_ : Nat) (S0_ : sm_S) (S1_ : sm_S) : Prop := gi S1_ ∧ ai_fr (sx_W vw_135) S0_ S1_ ∧ (∃ e_, R_ = .inl e_ ∧ ter S1_ e_)
set_option maxHeartbeats 400000 in
theorem vl_135 {sc_ : Nat × (Nat → Int)} (b_ : Nat → Int) (n_ : Nat) (md_ : Bool) (pr_ : pPr) (R_ : pE pR) (o_ : List (Int × Nat)) (g_ : List Int) (c_ : List Int) (p_ : Nat) (S0_ : sm_S) (hx_ : xr md_ o_ g_ c_ S0_) (hc_ : ct b_ n_ p_ S0_) (hpr_ : pr_ok b_ n_ pr_) (hok_ : x_ok b_ n_ md_ (0, false, p_, o_, g_, c_)) (hR_ : p_xx b_ n_ md_ pr_ (0, false, p_, o_, g_, c_) R_) : ∀ nn_ : Nat, (∀ (t_ : Int) (i_ : Int) (S_ : sm_S), gi S_ → ai_fr (sx_W vw_135) S0_ S_ → ((0 ≤ i_ ∧ i_ ≤ (S_.1 10 0 3)) ∧ (∃ (tb_ : Bool) (o1_ : List (Int × Nat)) (q_ : Nat), t_ = (if tb_ = true then 1 else 0) ∧ xr md_ o1_ g_ c_ S_ ∧ ct b_ n_ q_ S_ ∧ x_ok b_ n_ md_ (0, tb_, q_, o1_, g_, c_) ∧ p_xx b_ n_ md_ pr_ (0, tb_, q_, o1_, g_, c_) R_ ∧ p_ ≤ q_) ∧ True) → ((1300 - (S_.1 10 0 3)).toNat) < nn_ → sm_T (mt_P sc_) 2 135 (4, [some (.inr (.inr (some (7, 0)))), some (.inl t_), some (.inl i_)], [], S_) (fun r_ => (∃ u_ S1_, r_ = (.inl u_, S1_, 0) ∧ vq_135 b_ n_ md_ pr_ R_ o_ g_ c_ p_ S0_ u_ S1_) ∨ ∃ S1_, r_ = (.inr 2, S1_, 1) ∧ vx_135 b_ n_ md_ pr_ R_ o_ g_ c_ p_ S0_ S1_)) := by
  intro nn_
  induction nn_ with
  | zero => exact fun _ _ _ _ _ _ h_ => absurd h_ (Nat.not_lt_zero _)
  | succ nn_ ih_ =>
    rintro t_ i_ S_ hI_ hF_ ⟨h0_, h1_, -⟩ hm_
    obtain ⟨tb_, o1_, q_, y1_, y2_, y3_, y4_, y5_, y6_⟩ := h1_
    have e3_ := y3_.2.2.2.2.2.1
    have e2_ := y3_.2.2.2.2.2.2.2.1
    have hn1_ := y3_.2.2.1
    have hp1_ := y3_.2.2.2.1
    have hol_ := o_lim y4_.2.1.1 y4_.2.1.2.1
    have hol1_ : o1_.length ≤ 365 := hol_.1
    refine sm_T_go 1 (c1 := (5, [some (.inr (.inr (some (7, 0)))), some (.inl t_), some (.inl i_)], [.inl i_], S_)) rfl ?_
    refine sm_T_nt (u := some (.inl 65536)) (S1 := S_) rfl rfl rfl ?_
    refine sm_T_br (a := 3) (z := 74) rfl (fun cx1_ => ?_) (fun cx1_ => ?_)
    · have cx1_ : 65536 ≤ i_ := of_decide_eq_true cx1_
      exfalso; omega
    · have cx1_ : ¬ (65536 ≤ i_) := of_decide_eq_false cx1_
      have bx2_ : (-128) ≤ S_.1 10 0 2 ∧ S_.1 10 0 2 ≤ 257 := hI_.1 10 0 2 rfl
      refine sm_T_go 4 (c1 := (19, [some (.inr (.inr (some (7, 0)))), some (.inl t_), some (.inl i_)], [.inl 33, .inl (S_.1 10 0 2)], S_)) rfl ?_
      refine sm_T_br (a := 1) (z := 16) rfl (fun cx3_ => ?_) (fun cx3_ => ?_)
      · have cx3_ : (S_.1 10 0 2) ≠ 33 := of_decide_eq_true cx3_
        refine sm_T_go 4 (c1 := (44, [some (.inr (.inr (some (7, 0)))), some (.inl t_), some (.inl i_)], [.inl 40, .inl (S_.1 10 0 2)], S_)) rfl ?_
        refine sm_T_br (a := 1) (z := 22) rfl (fun cx4_ => ?_) (fun cx4_ => ?_)
        · have cx4_ : (S_.1 10 0 2) ≠ 40 := of_decide_eq_true cx4_
          refine sm_T_go 1 (c1 := (67, [some (.inr (.inr (some (7, 0)))), some (.inl t_), some (.inl i_)], [.inl t_], S_)) rfl ?_
          refine sm_T_rz rfl (by omega) (Or.inl ⟨_, _, rfl, _, rfl, hI_, hF_, ?_⟩)
          refine ⟨tb_, o1_, q_, y1_, y2_, y3_, y4_, y5_, by omega, by omega, y6_⟩
        · have cx4_ : ¬ ((S_.1 10 0 2) ≠ 40) := of_decide_eq_false cx4_
          refine sm_T_go 2 (c1 := (49, [some (.inr (.inr (some (7, 0)))), some (.inl t_), some (.inl i_)], [.inl t_, .inr (.inr (some (7, 0)))], S_)) rfl ?_
          refine sm_T_b0 (a := 0) (z := 8) rfl (fun cx5_ => ?_) (fun cx5_ => ?_)
          · have cx5_ : t_ = 0 := of_decide_eq_true cx5_
            have ht_ : tb_ = false := by cases tb_; rfl; (rw [if_pos rfl] at y1_; omega)
            refine sm_T_go 1 (c1 := (58, [some (.inr (.inr (some (7, 0)))), some (.inl t_), some (.inl i_)], [.inl (-1), .inr (.inr (some (7, 0)))], S_)) rfl ?_
            refine sm_T_calx (d1 := 1) (Q1 := vq_136 (-1) md_ o1_ g_ c_ b_ n_ q_ S_) (Q2 := vx_136 (-1) md_ o1_ g_ c_ b_ n_ q_ S_) rfl rfl (by decide) (vc_136 (-1) md_ o1_ g_ c_ b_ n_ q_ S_ hI_ (by exact y2_) (by exact y3_) (by decide) (by omega)) rfl (fun Sx6_ px9_ => ?_) (fun u_ Sx6_ px9_ => ?_)
            · obtain ⟨hIx7_, hFx8_, px9_⟩ := px9_
              refine Or.inr ⟨_, rfl, hIx7_, ai_fr_tr hF_ (fr_le hFx8_ rfl), ?_⟩
              exact ⟨(3, q_), p_er y5_ (pA_x (by omega) px9_.1), px9_.2⟩
            obtain ⟨rfl, hIx7_, hFx8_, px9_⟩ := px9_
            have hFx10_ : ai_fr (sx_W vw_135) S0_ Sx6_ := ai_fr_tr hF_ (fr_le hFx8_ rfl)
            have ex11_ : Sx6_.1 10 0 2 = S_.1 10 0 2 := hFx8_.1 10 0 2 rfl
            have e58_ := px9_
            have y9_ := ct_fr y3_ hFx8_ rfl rfl rfl rfl rfl rfl rfl
            have e3_ := y9_.2.2.2.2.2.1
            refine sm_T_go 5 (c1 := (72, [some (.inr (.inr (some (7, 0)))), some (.inl 0), some (.inl i_)], [.inr (.inr (some (10, 0)))], Sx6_)) rfl ?_
            refine sm_T_calx (d1 := 1) (Q1 := vq_191 b_ n_ (lx_en b_ n_ q_) Sx6_) (Q2 := vx_191 b_ n_ (lx_en b_ n_ q_) Sx6_) rfl rfl (by decide) (vc_191 b_ n_ (lx_en b_ n_ q_) Sx6_ hIx7_ (by exact y9_.1) (by exact y9_.2.1) (by exact y9_.2.2.1) (by exact y9_.2.2.2.2.2.2.1) (by exact (lx_en_le (b := b_) y9_.2.2.2.1).2)) rfl (fun Sx12_ px15_ => ?_) (fun u_ Sx12_ px15_ => ?_)
            · obtain ⟨hIx13_, hFx14_, px15_⟩ := px15_
              refine Or.inr ⟨_, rfl, hIx13_, ai_fr_tr hFx10_ (fr_le hFx14_ rfl), ?_⟩
              refine ⟨(1, lx_nx b_ n_ q_), ?_, px15_.2⟩
              first | exact p_er y5_ (by rw [pA_b (by omega), p_ad_x px15_.1]; rfl) | exact p_er y5_ (by rw [pA_o (by omega) e58_.1, p_ad_x px15_.1]; rfl)
            obtain ⟨rfl, hIx13_, hFx14_, px15_⟩ := px15_
            have hFx16_ : ai_fr (sx_W vw_135) S0_ Sx12_ := ai_fr_tr hFx10_ (fr_le hFx14_ rfl)
            have e72_ := px15_
            have f72_ := hFx14_
            have s72_ := e72_.2.2.2.2.2.1
            refine sm_T_inc (a := 2) (z := 1) (v := i_) (w := i_ + 1) rfl rfl (by omega) (by omega) (by omega) ?_
            refine sm_T_go 1 (c1 := (4, [some (.inr (.inr (some (7, 0)))), some (.inl 0), some (.inl (i_ + 1))], [], Sx12_)) rfl ?_
            refine ih_ 0 (i_ + 1) Sx12_ hIx13_ hFx16_ ⟨?_, ?_, trivial⟩ ?_
            · have k1_ := p_ad_ok hp1_ (by omega) (p_ad_c e72_)
              have s73_ : _ = ((lx_nx b_ n_ q_ : Nat) : Int) := s72_
              omega
            · have k1_ := p_ad_ok hp1_ (by omega) (p_ad_c e72_)
              first | (have k2_ := p_go (y_ := (0, !tb_, lx_nx b_ n_ q_, o1_, g_, c_)) hn1_ hpr_ y4_ y5_ (by rw [pA_b (by omega), p_ad_c e72_]; rfl); exact ⟨!tb_, o1_, lx_nx b_ n_ q_, by rw [ht_]; rfl, xr_fr y2_ f72_ rfl rfl rfl rfl rfl rfl rfl rfl rfl, e72_, k2_.1, k2_.2, by omega⟩) | (have k2_ := p_go (y_ := (0, false, lx_nx b_ n_ q_, (if tb_ = true then -2 else -1, q_) :: o1_, g_, c_)) hn1_ hpr_ y4_ y5_ (by rw [pA_o (by omega) e58_.1, p_ad_c e72_]; rfl); refine ⟨false, _, lx_nx b_ n_ q_, rfl, xr_fr ?_ f72_ rfl rfl rfl rfl rfl rfl rfl rfl rfl, e72_, k2_.1, k2_.2, by omega⟩; rw [ht_]; exact e58_.2)
            · (have k1_ := p_ad_ok hp1_ (by omega) (p_ad_c e72_)); (have s73_ : _ = ((lx_nx b_ n_ q_ : Nat) : Int) := s72_); omega
          · have cx5_ : ¬ (t_ = 0) := of_decide_eq_false cx5_
            have ht_ : tb_ = true := by cases tb_; (rw [if_neg (by decide)] at y1_; omega); rfl
            refine sm_T_go 2 (c1 := (58, [some (.inr (.inr (some (7, 0)))), some (.inl t_), some (.inl i_)], [.inl (-2), .inr (.inr (some (7, 0)))], S_)) rfl ?_
            refine sm_T_calx (d1 := 1) (Q1 := vq_136 (-2) md_ o1_ g_ c_ b_ n_ q_ S_) (Q2 := vx_136 (-2) md_ o1_ g_ c_ b_ n_ q_ S_) rfl rfl (by decide) (vc_136 (-2) md_ o1_ g_ c_ b_ n_ q_ S_ hI_ (by exact y2_) (by exact y3_) (by decide) (by omega)) rfl (fun Sx17_ px20_ => ?_) (fun u_ Sx17_ px20_ => ?_)
            · obtain ⟨hIx18_, hFx19_, px20_⟩ := px20_
              refine Or.inr ⟨_, rfl, hIx18_, ai_fr_tr hF_ (fr_le hFx19_ rfl), ?_⟩
              exact ⟨(3, q_), p_er y5_ (pA_x (by omega) px20_.1), px20_.2⟩
            obtain ⟨rfl, hIx18_, hFx19_, px20_⟩ := px20_
            have hFx21_ : ai_fr (sx_W vw_135) S0_ Sx17_ := ai_fr_tr hF_ (fr_le hFx19_ rfl)
            have ex22_ : Sx17_.1 10 0 2 = S_.1 10 0 2 := hFx19_.1 10 0 2 rfl
            have e58_ := px20_
            have y9_ := ct_fr y3_ hFx19_ rfl rfl rfl rfl rfl rfl rfl
            have e3_ := y9_.2.2.2.2.2.1
            refine sm_T_go 5 (c1 := (72, [some (.inr (.inr (some (7, 0)))), some (.inl 0), some (.inl i_)], [.inr (.inr (some (10, 0)))], Sx17_)) rfl ?_
            refine sm_T_calx (d1 := 1) (Q1 := vq_191 b_ n_ (lx_en b_ n_ q_) Sx17_) (Q2 := vx_191 b_ n_ (lx_en b_ n_ q_) Sx17_) rfl rfl (by decide) (vc_191 b_ n_ (lx_en b_ n_ q_) Sx17_ hIx18_ (by exact y9_.1) (by exact y9_.2.1) (by exact y9_.2.2.1) (by exact y9_.2.2.2.2.2.2.1) (by exact (lx_en_le (b := b_) y9_.2.2.2.1).2)) rfl (fun Sx23_ px26_ => ?_) (fun u_ Sx23_ px26_ => ?_)
            · obtain ⟨hIx24_, hFx25_, px26_⟩ := px26_
              refine Or.inr ⟨_, rfl, hIx24_, ai_fr_tr hFx21_ (fr_le hFx25_ rfl), ?_⟩
              refine ⟨(1, lx_nx b_ n_ q_), ?_, px26_.2⟩
              first | exact p_er y5_ (by rw [pA_b (by omega), p_ad_x px26_.1]; rfl) | exact p_er y5_ (by rw [pA_o (by omega) e58_.1, p_ad_x px26_.1]; rfl)
            obtain ⟨rfl, hIx24_, hFx25_, px26_⟩ := px26_
            have hFx27_ : ai_fr (sx_W vw_135) S0_ Sx23_ := ai_fr_tr hFx21_ (fr_le hFx25_ rfl)
            have e72_ := px26_
            have f72_ := hFx25_
            have s72_ := e72_.2.2.2.2.2.1
            refine sm_T_inc (a := 2) (z := 1) (v := i_) (w := i_ + 1) rfl rfl (by omega) (by omega) (by omega) ?_
            refine sm_T_go 1 (c1 := (4, [some (.inr (.inr (some (7, 0)))), some (.inl 0), some (.inl (i_ + 1))], [], Sx23_)) rfl ?_
            refine ih_ 0 (i_ + 1) Sx23_ hIx24_ hFx27_ ⟨?_, ?_, trivial⟩ ?_
            · have k1_ := p_ad_ok hp1_ (by omega) (p_ad_c e72_)
              have s73_ : _ = ((lx_nx b_ n_ q_ : Nat) : Int) := s72_
              omega
            · have k1_ := p_ad_ok hp1_ (by omega) (p_ad_c e72_)
              first | (have k2_ := p_go (y_ := (0, !tb_, lx_nx b_ n_ q_, o1_, g_, c_)) hn1_ hpr_ y4_ y5_ (by rw [pA_b (by omega), p_ad_c e72_]; rfl); exact ⟨!tb_, o1_, lx_nx b_ n_ q_, by rw [ht_]; rfl, xr_fr y2_ f72_ rfl rfl rfl rfl rfl rfl rfl rfl rfl, e72_, k2_.1, k2_.2, by omega⟩) | (have k2_ := p_go (y_ := (0, false, lx_nx b_ n_ q_, (if tb_ = true then -2 else -1, q_) :: o1_, g_, c_)) hn1_ hpr_ y4_ y5_ (by rw [pA_o (by omega) e58_.1, p_ad_c e72_]; rfl); refine ⟨false, _, lx_nx b_ n_ q_, rfl, xr_fr ?_ f72_ rfl rfl rfl rfl rfl rfl rfl rfl rfl, e72_, k2_.1, k2_.2, by omega⟩; rw [ht_]; exact e58_.2)
            · (have k1_ := p_ad_ok hp1_ (by omega) (p_ad_c e72_)); (have s73_ : _ = ((lx_nx b_ n_ q_ : Nat) : Int) := s72_); omega
      · have cx3_ : ¬ ((S_.1 10 0 2) ≠ 33) := of_decide_eq_false cx3_
        have y9_ := y3_
        refine sm_T_go 1 (c1 := (23, [some (.inr (.inr (some (7, 0)))), some (.inl t_), some (.inl i_)], [.inl t_], S_)) rfl ?_
        refine sm_T_b0 (a := 1) (z := 7) rfl (fun cx28_ => ?_) (fun cx28_ => ?_)
        · have cx28_ : t_ ≠ 0 := of_decide_eq_true cx28_
          have ht_ : tb_ = true := by cases tb_; (rw [if_neg (by decide)] at y1_; omega); rfl
          refine sm_T_go 5 (c1 := (72, [some (.inr (.inr (some (7, 0)))), some (.inl 0), some (.inl i_)], [.inr (.inr (some (10, 0)))], S_)) rfl ?_
          refine sm_T_calx (d1 := 1) (Q1 := vq_191 b_ n_ (lx_en b_ n_ q_) S_) (Q2 := vx_191 b_ n_ (lx_en b_ n_ q_) S_) rfl rfl (by decide) (vc_191 b_ n_ (lx_en b_ n_ q_) S_ hI_ (by exact y9_.1) (by exact y9_.2.1) (by exact y9_.2.2.1) (by exact y9_.2.2.2.2.2.2.1) (by exact (lx_en_le (b := b_) y9_.2.2.2.1).2)) rfl (fun Sx29_ px32_ => ?_) (fun u_ Sx29_ px32_ => ?_)
          · obtain ⟨hIx30_, hFx31_, px32_⟩ := px32_
            refine Or.inr ⟨_, rfl, hIx30_, ai_fr_tr hF_ (fr_le hFx31_ rfl), ?_⟩
            refine ⟨(1, lx_nx b_ n_ q_), ?_, px32_.2⟩
            first | exact p_er y5_ (by rw [pA_b (by omega), p_ad_x px32_.1]; rfl) | exact p_er y5_ (by rw [pA_o (by omega) e58_.1, p_ad_x px32_.1]; rfl)
          obtain ⟨rfl, hIx30_, hFx31_, px32_⟩ := px32_
          have hFx33_ : ai_fr (sx_W vw_135) S0_ Sx29_ := ai_fr_tr hF_ (fr_le hFx31_ rfl)
          have e72_ := px32_
          have f72_ := hFx31_
          have s72_ := e72_.2.2.2.2.2.1
          refine sm_T_inc (a := 2) (z := 1) (v := i_) (w := i_ + 1) rfl rfl (by omega) (by omega) (by omega) ?_
          refine sm_T_go 1 (c1 := (4, [some (.inr (.inr (some (7, 0)))), some (.inl 0), some (.inl (i_ + 1))], [], Sx29_)) rfl ?_
          refine ih_ 0 (i_ + 1) Sx29_ hIx30_ hFx33_ ⟨?_, ?_, trivial⟩ ?_
          · have k1_ := p_ad_ok hp1_ (by omega) (p_ad_c e72_)
            have s73_ : _ = ((lx_nx b_ n_ q_ : Nat) : Int) := s72_
            omega
          · have k1_ := p_ad_ok hp1_ (by omega) (p_ad_c e72_)
            first | (have k2_ := p_go (y_ := (0, !tb_, lx_nx b_ n_ q_, o1_, g_, c_)) hn1_ hpr_ y4_ y5_ (by rw [pA_b (by omega), p_ad_c e72_]; rfl); exact ⟨!tb_, o1_, lx_nx b_ n_ q_, by rw [ht_]; rfl, xr_fr y2_ f72_ rfl rfl rfl rfl rfl rfl rfl rfl rfl, e72_, k2_.1, k2_.2, by omega⟩) | (have k2_ := p_go (y_ := (0, false, lx_nx b_ n_ q_, (if tb_ = true then -2 else -1, q_) :: o1_, g_, c_)) hn1_ hpr_ y4_ y5_ (by rw [pA_o (by omega) e58_.1, p_ad_c e72_]; rfl); refine ⟨false, _, lx_nx b_ n_ q_, rfl, xr_fr ?_ f72_ rfl rfl rfl rfl rfl rfl rfl rfl rfl, e72_, k2_.1, k2_.2, by omega⟩; rw [ht_]; exact e58_.2)
          · (have k1_ := p_ad_ok hp1_ (by omega) (p_ad_c e72_)); (have s73_ : _ = ((lx_nx b_ n_ q_ : Nat) : Int) := s72_); omega
        · have cx28_ : ¬ (t_ ≠ 0) := of_decide_eq_false cx28_
          have ht_ : tb_ = false := by cases tb_; rfl; (rw [if_pos rfl] at y1_; omega)
          refine sm_T_go 6 (c1 := (72, [some (.inr (.inr (some (7, 0)))), some (.inl 1), some (.inl i_)], [.inr (.inr (some (10, 0)))], S_)) rfl ?_
          refine sm_T_calx (d1 := 1) (Q1 := vq_191 b_ n_ (lx_en b_ n_ q_) S_) (Q2 := vx_191 b_ n_ (lx_en b_ n_ q_) S_) rfl rfl (by decide) (vc_191 b_ n_ (lx_en b_ n_ q_) S_ hI_ (by exact y9_.1) (by exact y9_.2.1) (by exact y9_.2.2.1) (by exact y9_.2.2.2.2.2.2.1) (by exact (lx_en_le (b := b_) y9_.2.2.2.1).2)) rfl (fun Sx34_ px37_ => ?_) (fun u_ Sx34_ px37_ => ?_)
          · obtain ⟨hIx35_, hFx36_, px37_⟩ := px37_
            refine Or.inr ⟨_, rfl, hIx35_, ai_fr_tr hF_ (fr_le hFx36_ rfl), ?_⟩
            refine ⟨(1, lx_nx b_ n_ q_), ?_, px37_.2⟩
            first | exact p_er y5_ (by rw [pA_b (by omega), p_ad_x px37_.1]; rfl) | exact p_er y5_ (by rw [pA_o (by omega) e58_.1, p_ad_x px37_.1]; rfl)
          obtain ⟨rfl, hIx35_, hFx36_, px37_⟩ := px37_
          have hFx38_ : ai_fr (sx_W vw_135) S0_ Sx34_ := ai_fr_tr hF_ (fr_le hFx36_ rfl)
          have e72_ := px37_
          have f72_ := hFx36_
          have s72_ := e72_.2.2.2.2.2.1
          refine sm_T_inc (a := 2) (z := 1) (v := i_) (w := i_ + 1) rfl rfl (by omega) (by omega) (by omega) ?_
          refine sm_T_go 1 (c1 := (4, [some (.inr (.inr (some (7, 0)))), some (.inl 1), some (.inl (i_ + 1))], [], Sx34_)) rfl ?_
          refine ih_ 1 (i_ + 1) Sx34_ hIx35_ hFx38_ ⟨?_, ?_, trivial⟩ ?_
          · have k1_ := p_ad_ok hp1_ (by omega) (p_ad_c e72_)
            have s73_ : _ = ((lx_nx b_ n_ q_ : Nat) : Int) := s72_
            omega
          · have k1_ := p_ad_ok hp1_ (by omega) (p_ad_c e72_)
            first | (have k2_ := p_go (y_ := (0, !tb_, lx_nx b_ n_ q_, o1_, g_, c_)) hn1_ hpr_ y4_ y5_ (by rw [pA_b (by omega), p_ad_c e72_]; rfl); exact ⟨!tb_, o1_, lx_nx b_ n_ q_, by rw [ht_]; rfl, xr_fr y2_ f72_ rfl rfl rfl rfl rfl rfl rfl rfl rfl, e72_, k2_.1, k2_.2, by omega⟩) | (have k2_ := p_go (y_ := (0, false, lx_nx b_ n_ q_, (if tb_ = true then -2 else -1, q_) :: o1_, g_, c_)) hn1_ hpr_ y4_ y5_ (by rw [pA_o (by omega) e58_.1, p_ad_c e72_]; rfl); refine ⟨false, _, lx_nx b_ n_ q_, rfl, xr_fr ?_ f72_ rfl rfl rfl rfl rfl rfl rfl rfl rfl, e72_, k2_.1, k2_.2, by omega⟩; rw [ht_]; exact e58_.2)
          · (have k1_ := p_ad_ok hp1_ (by omega) (p_ad_c e72_)); (have s73_ : _ = ((lx_nx b_ n_ q_ : Nat) : Int) := s72_); omega
set_option maxHeartbeats 400000 in
theorem vc_135 {sc_ : Nat × (Nat → Int)} (b_ : Nat → Int) (n_ : Nat) (md_ : Bool) (pr_ : pPr) (R_ : pE pR) (o_ : List (Int × Nat)) (g_ : List Int) (c_ : List Int) (p_ : Nat) (S0_ : sm_S) (hI_ : gi S0_) (hx_ : xr md_ o_ g_ c_ S0_) (hc_ : ct b_ n_ p_ S0_) (hpr_ : pr_ok b_ n_ pr_) (hok_ : x_ok b_ n_ md_ (0, false, p_, o_, g_, c_)) (hR_ : p_xx b_ n_ md_ pr_ (0, false, p_, o_, g_, c_) R_) : sm_T (mt_P sc_) 2 135 (0, [some (.inr (.inr (some (7, 0)))), none, none], [], S0_) (fun r_ => (∃ u_ S1_, r_ = (.inl u_, S1_, 0) ∧ vq_135 b_ n_ md_ pr_ R_ o_ g_ c_ p_ S0_ u_ S1_) ∨ ∃ S1_, r_ = (.inr 2, S1_, 1) ∧ vx_135 b_ n_ md_ pr_ R_ o_ g_ c_ p_ S0_ S1_) := by
  have hF_ : ai_fr (sx_W vw_135) S0_ S0_ := ai_fr_rf
  refine sm_T_go 4 (c1 := (4, [some (.inr (.inr (some (7, 0)))), some (.inl 0), some (.inl 0)], [], S0_)) rfl ?_
  refine (vl_135 b_ n_ md_ pr_ R_ o_ g_ c_ p_ S0_ hx_ hc_ hpr_ hok_ hR_ _) 0 0 S0_ hI_ hF_ ⟨?_, ?_, trivial⟩ (Nat.lt_succ_self _)
  · have := hc_.2.2.2.2.2.1
    omega
  · exact ⟨false, o_, p_, by decide, hx_, hc_, hok_, hR_, Nat.le_refl _⟩
