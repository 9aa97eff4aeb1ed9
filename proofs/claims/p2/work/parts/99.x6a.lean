/-! the class reader: behind operands; written by wip/p55/gen/vg -/
/-! Reader.readOperators -/
def vw_145 : sx_Wl := ([(7, 2), (7, 14), (7, 16), (7, 17), (10, 2), (10, 3), (10, 4), (10, 5), (10, 6), (10, 7), (10, 8)], [74, 82, 83, 84], [])
def vq_145 (b_ : Nat → Int) (n_ : Nat) (md_ : Bool) (pr_ : pPr) (R_ : pE pR) (o_ : List (Int × Nat)) (g_ : List Int) (c_ : List Int) (p_ : Nat) (S0_ : sm_S) (u_ : Option sm_V) (S1_ : sm_S) : Prop := ∃ v_ : Int, u_ = some (.inl v_) ∧ gi S1_ ∧ ai_fr (sx_W vw_145) S0_ S1_ ∧ ((v_ = 1 ∧ ∃ o1_ g1_ c1_ q_, ct b_ n_ q_ S1_ ∧ xr md_ o1_ g1_ c1_ S1_ ∧ x_ok b_ n_ md_ (0, false, q_, o1_, g1_, c1_) ∧ p_xx b_ n_ md_ pr_ (0, false, q_, o1_, g1_, c1_) R_ ∧ p_ < q_) ∨ (v_ = 0 ∧ ∃ g1_ c1_ q_, ct b_ n_ q_ S1_ ∧ xr md_ [] g1_ c1_ S1_ ∧ R_ = .inr (q_, g1_, c1_) ∧ g1_.length = 1 ∧ p_ ≤ q_ ∧ c1_.length ≤ 3 * q_))
def vx_145 (b_ : Nat → Int) (n_ : Nat) (md_ : Bool) (pr_ : pPr) (R_ : pE pR) (o_ : List (Int × Nat)) (g_ : List Int) (c_ : List Int) (p_ : Nat) (S0_ : sm_S) (S1_ : sm_S) : Prop := gi S1_ ∧ ai_fr (sx_W vw_145) S0_ S1_ ∧ (∃ e_, R_ = .inl e_ ∧ ter S1_ e_)
set_option maxHeartbeats 2000000 in
set_option maxRecDepth 20000 in
theorem vl_145 {sc_ : Nat × (Nat → Int)} (b_ : Nat → Int) (n_ : Nat) (md_ : Bool) (pr_ : pPr) (R_ : pE pR) (o_ : List (Int × Nat)) (g_ : List Int) (c_ : List Int) (p_ : Nat) (S0_ : sm_S) (hx_ : xr md_ o_ g_ c_ S0_) (hc_ : ct b_ n_ p_ S0_) (hpr_ : pr_ok b_ n_ pr_) (hok_ : x_ok b_ n_ md_ (1, false, p_, o_, g_, c_)) (hR_ : p_xx b_ n_ md_ pr_ (1, false, p_, o_, g_, c_) R_) : ∀ nn_ : Nat, (∀ (e_ : Int) (i_ : Int) (S_ : sm_S), gi S_ → ai_fr (sx_W vw_145) S0_ S_ → ((0 ≤ i_ ∧ i_ + (S_.1 7 0 14) ≤ 488) ∧ (∃ o1_ g1_ c1_ q_, ct b_ n_ q_ S_ ∧ xr md_ o1_ g1_ c1_ S_ ∧ s_ok md_ 1 (o1_, g1_, c1_) ∧ c1_.length + o1_.length ≤ 3 * q_ ∧ p_ ≤ q_ ∧ ((e_ = 0 ∧ p_xx b_ n_ md_ pr_  (1, false, q_, o1_, g1_, c1_) R_) ∨ (e_ = 1 ∧ ¬ (md_ = false ∧ lx_kd b_ n_ q_ = 63) ∧ p_yy b_ n_ md_ pr_ (pb (p_sa md_ o1_ g1_ c1_) (p_B3 b_ n_ md_ q_)) R_))) ∧ True) → ((2 * (S_.1 7 0 14) + 1).toNat) < nn_ → sm_T (mt_P sc_) 3 145 (4, [some (.inr (.inr (some (7, 0)))), some (.inl e_), some (.inl i_), none, none], [], S_) (fun r_ => (∃ u_ S1_, r_ = (.inl u_, S1_, 0) ∧ vq_145 b_ n_ md_ pr_ R_ o_ g_ c_ p_ S0_ u_ S1_) ∨ ∃ S1_, r_ = (.inr 2, S1_, 1) ∧ vx_145 b_ n_ md_ pr_ R_ o_ g_ c_ p_ S0_ S1_)) ∧ (∀ (i_ : Int) (S_ : sm_S), gi S_ → ai_fr (sx_W vw_145) S0_ S_ → ((0 ≤ i_ ∧ i_ + (S_.1 7 0 14) ≤ 488) ∧ (∃ o1_ g1_ c1_ q_, ct b_ n_ q_ S_ ∧ xr md_ o1_ g1_ c1_ S_ ∧ s_ok md_ 1 (o1_, g1_, c1_) ∧ c1_.length + o1_.length ≤ 3 * q_ ∧ p_ ≤ q_ ∧ ((md_ = false ∧ lx_kd b_ n_ q_ = 63) → p_yy b_ n_ md_ pr_ (p_B2 b_ n_ md_ q_ (o1_, g1_, c1_)) R_) ∧ (¬ (md_ = false ∧ lx_kd b_ n_ q_ = 63) → p_yy b_ n_ md_ pr_ (pb (p_sa md_ o1_ g1_ c1_) (p_B3 b_ n_ md_ q_)) R_)) ∧ True) → ((2 * (S_.1 7 0 14)).toNat) < nn_ → sm_T (mt_P sc_) 3 145 (75, [some (.inr (.inr (some (7, 0)))), none, some (.inl i_), none, none], [], S_) (fun r_ => (∃ u_ S1_, r_ = (.inl u_, S1_, 0) ∧ vq_145 b_ n_ md_ pr_ R_ o_ g_ c_ p_ S0_ u_ S1_) ∨ ∃ S1_, r_ = (.inr 2, S1_, 1) ∧ vx_145 b_ n_ md_ pr_ R_ o_ g_ c_ p_ S0_ S1_)) := by
  intro nn_
  induction nn_ with
  | zero => exact ⟨fun _ _ _ _ _ _ h_ => absurd h_ (Nat.not_lt_zero _), fun _ _ _ _ _ h_ => absurd h_ (Nat.not_lt_zero _)⟩
  | succ nn_ ih_ =>
    refine ⟨?_, ?_⟩
    · rintro e_ i_ S_ hI_ hF_ ⟨h0_, h1_, -⟩ hm_
      obtain ⟨o1_, g1_, c1_, q_, y1_, y2_, y3_, y4_, y5_, y6_⟩ := h1_
      have hn1_ := y1_.2.2.1
      have st1_ := y1_.2.2.2.2.2.1
      have kd1_ := y1_.2.2.2.2.2.2.2.1
      have hp1_ := y1_.2.2.2.1
      have hol_ := o_lim y3_.1 y3_.2.1
      have hol1_ : o1_.length ≤ 365 := hol_.1
      have x11_ : S_.1 7 0 14 = (o1_.length : Int) := y2_.1.1
      have hok1_ : x_ok b_ n_ md_ (1, false, q_, o1_, g1_, c1_) := ⟨Nat.le_refl _, y3_, y1_.2.2.2.1, y1_.2.2.2.2.1, by show _ + _ + 0 ≤ _; exact y4_⟩
      refine sm_T_go 1 (c1 := (5, [some (.inr (.inr (some (7, 0)))), some (.inl e_), some (.inl i_), none, none], [.inl i_], S_)) rfl ?_
      refine sm_T_nt (u := some (.inl 65536)) (S1 := S_) rfl rfl rfl ?_
      refine sm_T_br (a := 3) (z := 201) rfl (fun cx1_ => ?_) (fun cx1_ => ?_)
      · have cx1_ : 65536 ≤ i_ := of_decide_eq_true cx1_
        exfalso; omega
      · have cx1_ : ¬ (65536 ≤ i_) := of_decide_eq_false cx1_
        refine sm_T_go 1 (c1 := (11, [some (.inr (.inr (some (7, 0)))), some (.inl e_), some (.inl i_), none, none], [.inl e_], S_)) rfl ?_
        refine sm_T_b0 (a := 0) (z := 7) rfl (fun cx2_ => ?_) (fun cx2_ => ?_)
        · have cx2_ : e_ = 0 := of_decide_eq_true cx2_
          have y8_ : p_xx b_ n_ md_ pr_  (1, false, q_, o1_, g1_, c1_) R_ := by rcases y6_ with z_ | z_; (exact z_.2); omega
          have bx3_ : (-128) ≤ S_.1 10 0 2 ∧ S_.1 10 0 2 ≤ 257 := hI_.1 10 0 2 rfl
          refine sm_T_go 4 (c1 := (26, [some (.inr (.inr (some (7, 0)))), some (.inl e_), some (.inl i_), none, none], [.inl (S_.1 10 0 2), .inr (.inr (some (7, 0)))], S_)) rfl ?_
          refine sm_T_cal (d1 := 0) (Q1 := vq_146 (S_.1 10 0 2) md_ o1_ g1_ c1_ S_) rfl rfl (by decide) (vc_146 (S_.1 10 0 2) md_ o1_ g1_ c1_ S_ hI_ (by exact y2_.1)) (fun u_ Sx4_ px7_ => ?_)
          obtain ⟨rfl, vx9_, rfl, px7_⟩ := px7_
          have e26_ := px7_
          rw [kd1_] at e26_
          refine sm_T_go 2 (c1 := (31, [some (.inr (.inr (some (7, 0)))), some (.inl e_), some (.inl i_), some (.inl vx9_), none], [.inl vx9_], S_)) rfl ?_
          refine sm_T_b0 (a := 5) (z := 44) rfl (fun cx10_ => ?_) (fun cx10_ => ?_)
          · have cx10_ : vx9_ ≤ 0 := of_decide_eq_true cx10_
            refine sm_T_go 0 (c1 := (75, [some (.inr (.inr (some (7, 0)))), some (.inl e_), some (.inl i_), some (.inl vx9_), none], [], S_)) rfl ?_
            refine sm_T_wk [some (.inr (.inr (some (7, 0)))), none, some (.inl i_), none, none] (by exact ⟨rfl, rfl, trivial⟩) ?_
            refine ih_.2 i_ S_ hI_ hF_ ⟨?_, ?_, trivial⟩ ?_
            · omega
            · first | (rcases y6_ with z_ | z_; (exfalso; omega); (exact ⟨o1_, g1_, c1_, q_, y1_, y2_, y3_, y4_, y5_, fun w_ => absurd w_ z_.2.1, fun _ => z_.2.2⟩)) | (have w3_ := p_yo y8_ (pB_n (by omega)); exact ⟨o1_, g1_, c1_, q_, y1_, y2_, y3_, y4_, y5_, fun _ => w3_, fun z_ => by rw [pB2_n z_] at w3_; exact w3_⟩) | (have w3_ := p_yo y8_ hst_; rw [show p_B1 b_ n_ md_ q_ (p_lv md_ (lx_kd b_ n_ q_)) (so_, sg_, sc_) = p_B2 b_ n_ md_ q_ (so_, sg_, sc_) from if_neg (by rintro ⟨z1_, z2_⟩; rcases z2_ with z2_ | z2_; omega; (exact z2_ (by show o_tp so_ = 4; omega)))] at w3_; exact ⟨so_, sg_, sc_, q_, c45_, xr45_, k45_.1, by omega, y5_, fun _ => w3_, fun z_ => by rw [pB2_n z_] at w3_; exact w3_⟩)
            · omega
          · have cx10_ : ¬ (vx9_ ≤ 0) := of_decide_eq_false cx10_
            refine sm_T_go 3 (c1 := (37, [some (.inr (.inr (some (7, 0)))), some (.inl e_), some (.inl i_), some (.inl vx9_), none], [.inl 4, .inl vx9_, .inr (.inr (some (7, 0)))], S_)) rfl ?_
            refine sm_T_br (a := 1) (z := 7) rfl (fun cx11_ => ?_) (fun cx11_ => ?_)
            · have cx11_ : vx9_ ≠ 4 := of_decide_eq_true cx11_
              refine sm_T_go 1 (c1 := (45, [some (.inr (.inr (some (7, 0)))), some (.inl e_), some (.inl i_), some (.inl vx9_), none], [.inl vx9_, .inr (.inr (some (7, 0)))], S_)) rfl ?_
              refine sm_T_calx (d1 := 2) (Q1 := vq_148 vx9_ md_ o1_ g1_ c1_ S_) (Q2 := vx_148 vx9_ md_ o1_ g1_ c1_ S_) rfl rfl (by decide) (vc_148 vx9_ md_ o1_ g1_ c1_ S_ hI_ (by exact y2_.1) (by exact y3_) (by omega) (by omega)) rfl (fun Sx12_ px15_ => ?_) (fun u_ Sx12_ px15_ => ?_)
              · obtain ⟨hIx13_, hFx14_, px15_⟩ := px15_
                refine Or.inr ⟨_, rfl, hIx13_, ai_fr_tr hF_ (fr_le hFx14_ rfl), ?_⟩
                obtain ⟨e9_, w1_, w2_⟩ := px15_
                refine ⟨e9_, p_er y8_ ?_, w2_⟩
                rw [pB_l (by omega)]
                first | (rw [if_pos (by omega), w1_]; rfl) | (rw [if_neg (by omega), ← e26_, w1_]; rfl)
              obtain ⟨rfl, hIx13_, hFx14_, px15_⟩ := px15_
              have hFx16_ : ai_fr (sx_W vw_145) S0_ Sx12_ := ai_fr_tr hF_ (fr_le hFx14_ rfl)
              have ex17_ : Sx12_.1 10 0 2 = S_.1 10 0 2 := hFx14_.1 10 0 2 rfl
              obtain ⟨⟨so_, sg_, sc_⟩, e45_, x45_⟩ := px15_
              have k45_ := p_se_ok (by omega) o1_ g1_ c1_ _ y3_ e45_
              have c45_ := ct_fr y1_ hFx14_ rfl rfl rfl rfl rfl rfl rfl
              have xr45_ : xr md_ so_ sg_ sc_ Sx12_ := ⟨x45_, (hFx14_.1 7 0 17 rfl).trans (y2_.2.trans (by rw [← k45_.2.1]))⟩
              have hos_ := o_lim k45_.1.1 k45_.1.2.1
              have hos1_ : so_.length ≤ 365 := hos_.1
              have hls_ : sc_.length + so_.length ≤ c1_.length + o1_.length := k45_.2.2.1
              have hxl_ : Sx12_.1 7 0 14 = (so_.length : Int) := x45_.1
              have hol2_ := o_len k45_.1.1
              have hst_ : p_st b_ n_ md_ pr_ (1, false, q_, o1_, g1_, c1_) = p_B1 b_ n_ md_ q_ (p_lv md_ (lx_kd b_ n_ q_)) (so_, sg_, sc_) := by rw [pB_l (by omega)]; first | (rw [if_pos (by omega), e45_]; rfl) | (rw [if_neg (by omega), ← e26_, e45_, e26_]; rfl)
              have st45_ := c45_.2.2.2.2.2.1
              have hle45_ : so_.length ≤ o1_.length := p_se_le o1_ g1_ c1_ _ e45_
              refine sm_T_go 2 (c1 := (50, [some (.inr (.inr (some (7, 0)))), some (.inl e_), some (.inl i_), some (.inl vx9_), none], [.inl 4, .inl vx9_], Sx12_)) rfl ?_
              refine sm_T_br (a := 1) (z := 11) rfl (fun cx18_ => ?_) (fun cx18_ => ?_)
              · have cx18_ : vx9_ ≠ 4 := of_decide_eq_true cx18_
                refine sm_T_go 2 (c1 := (63, [some (.inr (.inr (some (7, 0)))), some (.inl e_), some (.inl i_), some (.inl vx9_), none], [.inl vx9_, .inr (.inr (some (7, 0)))], Sx12_)) rfl ?_
                refine sm_T_cal (d1 := 0) (Q1 := vq_137 vx9_ md_ so_ sg_ sc_ b_ n_ q_ Sx12_) rfl rfl (by decide) (vc_137 vx9_ md_ so_ sg_ sc_ b_ n_ q_ Sx12_ hIx13_ (by exact x45_) (by exact c45_) (by (have := (p_lv_b (md_ := md_) (k_ := lx_kd b_ n_ q_)).2.1); omega) (by omega)) (fun u_ Sx19_ px22_ => ?_)
                obtain ⟨rfl, hIx20_, hFx21_, px22_⟩ := px22_
                have hFx23_ : ai_fr (sx_W vw_145) S0_ Sx19_ := ai_fr_tr hFx16_ (fr_le hFx21_ rfl)
                have x63_ := px22_
                have c63_ := ct_fr c45_ hFx21_ rfl rfl rfl rfl rfl rfl rfl
                have xr63_ : xr md_ _ sg_ sc_ Sx19_ := ⟨x63_, (hFx21_.1 7 0 17 rfl).trans (xr45_.2.trans (by show _ = (((if _ < 0 then 1 else 0) + o_mk so_ : Nat) : Int); rw [if_neg (by omega)]; simp))⟩
                have hB1_ : p_B1 b_ n_ md_ q_ (p_lv md_ (lx_kd b_ n_ q_)) (so_, sg_, sc_) = pb (p_ad b_ n_ q_) fun r_ => .inr (.inl (0, false, r_, (p_lv md_ (lx_kd b_ n_ q_), q_) :: so_, sg_, sc_)) := if_pos ⟨by omega, by first | (left; omega) | (right; show o_tp so_ ≠ 4; omega)⟩
                refine sm_T_go 2 (c1 := (70, [some (.inr (.inr (some (7, 0)))), some (.inl e_), some (.inl i_), some (.inl vx9_), none], [.inr (.inr (some (10, 0)))], Sx19_)) rfl ?_
                refine sm_T_calx (d1 := 1) (Q1 := vq_191 b_ n_ (lx_en b_ n_ q_) Sx19_) (Q2 := vx_191 b_ n_ (lx_en b_ n_ q_) Sx19_) rfl rfl (by decide) (vc_191 b_ n_ (lx_en b_ n_ q_) Sx19_ hIx20_ (by exact c63_.1) (by exact c63_.2.1) (by exact c63_.2.2.1) (by exact c63_.2.2.2.2.2.2.1) (by exact (lx_en_le (b := b_) c63_.2.2.2.1).2)) rfl (fun Sx24_ px27_ => ?_) (fun u_ Sx24_ px27_ => ?_)
                · obtain ⟨hIx25_, hFx26_, px27_⟩ := px27_
                  refine Or.inr ⟨_, rfl, hIx25_, ai_fr_tr hFx23_ (fr_le hFx26_ rfl), ?_⟩
                  exact ⟨(1, (lx_nx b_ n_ q_)), p_er y8_ (by rw [hst_, hB1_, p_ad_x px27_.1]; rfl), px27_.2⟩
                obtain ⟨rfl, hIx25_, hFx26_, px27_⟩ := px27_
                have hFx28_ : ai_fr (sx_W vw_145) S0_ Sx24_ := ai_fr_tr hFx23_ (fr_le hFx26_ rfl)
                have e70_ := px27_
                have f70_ := hFx26_
                refine sm_T_go 1 (c1 := (74, [some (.inr (.inr (some (7, 0)))), some (.inl e_), some (.inl i_), some (.inl vx9_), none], [.inl 1], Sx24_)) rfl ?_
                refine sm_T_rz rfl (by omega) (Or.inl ⟨_, _, rfl, _, rfl, hIx25_, hFx28_, ?_⟩)
                have k1_ := p_ad_ok hp1_ (fun z_ => by rw [z_] at e26_; unfold p_lv at e26_; repeat' split at e26_ <;> omega) (p_ad_c e70_)
                have k2_ := p_go hn1_ hpr_ hok1_ y8_ (by rw [hst_, hB1_, p_ad_c e70_]; rfl)
                left
                rw [e26_] at xr63_
                exact ⟨rfl, _, _, _, lx_nx b_ n_ q_, e70_, xr_fr xr63_ f70_ rfl rfl rfl rfl rfl rfl rfl rfl rfl, k2_.1, k2_.2, by omega⟩
              · have cx18_ : ¬ (vx9_ ≠ 4) := of_decide_eq_false cx18_
                refine sm_T_go 1 (c1 := (54, [some (.inr (.inr (some (7, 0)))), some (.inl e_), some (.inl i_), some (.inl vx9_), none], [.inr (.inr (some (7, 0)))], Sx12_)) rfl ?_
                refine sm_T_cal (d1 := 0) (Q1 := vq_147 md_ so_ sg_ sc_ Sx12_) rfl rfl (by decide) (vc_147 md_ so_ sg_ sc_ Sx12_ hIx13_ (by exact x45_)) (fun u_ Sx29_ px32_ => ?_)
                obtain ⟨rfl, vx34_, rfl, px32_⟩ := px32_
                have e54_ := px32_
                refine sm_T_go 1 (c1 := (58, [some (.inr (.inr (some (7, 0)))), some (.inl e_), some (.inl i_), some (.inl vx9_), none], [.inl 4, .inl vx34_], Sx12_)) rfl ?_
                refine sm_T_br (a := 0) (z := 17) rfl (fun cx35_ => ?_) (fun cx35_ => ?_)
                · have cx35_ : vx34_ = 4 := of_decide_eq_true cx35_
                  refine sm_T_go 0 (c1 := (75, [some (.inr (.inr (some (7, 0)))), some (.inl e_), some (.inl i_), some (.inl vx9_), none], [], Sx12_)) rfl ?_
                  refine sm_T_wk [some (.inr (.inr (some (7, 0)))), none, some (.inl i_), none, none] (by exact ⟨rfl, rfl, trivial⟩) ?_
                  refine ih_.2 i_ Sx12_ hIx13_ hFx16_ ⟨?_, ?_, trivial⟩ ?_
                  · omega
                  · first | (rcases y6_ with z_ | z_; (exfalso; omega); (exact ⟨o1_, g1_, c1_, q_, y1_, y2_, y3_, y4_, y5_, fun w_ => absurd w_ z_.2.1, fun _ => z_.2.2⟩)) | (have w3_ := p_yo y8_ (pB_n (by omega)); exact ⟨o1_, g1_, c1_, q_, y1_, y2_, y3_, y4_, y5_, fun _ => w3_, fun z_ => by rw [pB2_n z_] at w3_; exact w3_⟩) | (have w3_ := p_yo y8_ hst_; rw [show p_B1 b_ n_ md_ q_ (p_lv md_ (lx_kd b_ n_ q_)) (so_, sg_, sc_) = p_B2 b_ n_ md_ q_ (so_, sg_, sc_) from if_neg (by rintro ⟨z1_, z2_⟩; rcases z2_ with z2_ | z2_; omega; (exact z2_ (by show o_tp so_ = 4; omega)))] at w3_; exact ⟨so_, sg_, sc_, q_, c45_, xr45_, k45_.1, by omega, y5_, fun _ => w3_, fun z_ => by rw [pB2_n z_] at w3_; exact w3_⟩)
                  · omega
                · have cx35_ : ¬ (vx34_ = 4) := of_decide_eq_false cx35_
                  refine sm_T_go 2 (c1 := (63, [some (.inr (.inr (some (7, 0)))), some (.inl e_), some (.inl i_), some (.inl vx9_), none], [.inl vx9_, .inr (.inr (some (7, 0)))], Sx12_)) rfl ?_
                  refine sm_T_cal (d1 := 0) (Q1 := vq_137 vx9_ md_ so_ sg_ sc_ b_ n_ q_ Sx12_) rfl rfl (by decide) (vc_137 vx9_ md_ so_ sg_ sc_ b_ n_ q_ Sx12_ hIx13_ (by exact x45_) (by exact c45_) (by (have := (p_lv_b (md_ := md_) (k_ := lx_kd b_ n_ q_)).2.1); omega) (by omega)) (fun u_ Sx36_ px39_ => ?_)
                  obtain ⟨rfl, hIx37_, hFx38_, px39_⟩ := px39_
                  have hFx40_ : ai_fr (sx_W vw_145) S0_ Sx36_ := ai_fr_tr hFx16_ (fr_le hFx38_ rfl)
                  have x63_ := px39_
                  have c63_ := ct_fr c45_ hFx38_ rfl rfl rfl rfl rfl rfl rfl
                  have xr63_ : xr md_ _ sg_ sc_ Sx36_ := ⟨x63_, (hFx38_.1 7 0 17 rfl).trans (xr45_.2.trans (by show _ = (((if _ < 0 then 1 else 0) + o_mk so_ : Nat) : Int); rw [if_neg (by omega)]; simp))⟩
                  have hB1_ : p_B1 b_ n_ md_ q_ (p_lv md_ (lx_kd b_ n_ q_)) (so_, sg_, sc_) = pb (p_ad b_ n_ q_) fun r_ => .inr (.inl (0, false, r_, (p_lv md_ (lx_kd b_ n_ q_), q_) :: so_, sg_, sc_)) := if_pos ⟨by omega, by first | (left; omega) | (right; show o_tp so_ ≠ 4; omega)⟩
                  refine sm_T_go 2 (c1 := (70, [some (.inr (.inr (some (7, 0)))), some (.inl e_), some (.inl i_), some (.inl vx9_), none], [.inr (.inr (some (10, 0)))], Sx36_)) rfl ?_
                  refine sm_T_calx (d1 := 1) (Q1 := vq_191 b_ n_ (lx_en b_ n_ q_) Sx36_) (Q2 := vx_191 b_ n_ (lx_en b_ n_ q_) Sx36_) rfl rfl (by decide) (vc_191 b_ n_ (lx_en b_ n_ q_) Sx36_ hIx37_ (by exact c63_.1) (by exact c63_.2.1) (by exact c63_.2.2.1) (by exact c63_.2.2.2.2.2.2.1) (by exact (lx_en_le (b := b_) c63_.2.2.2.1).2)) rfl (fun Sx41_ px44_ => ?_) (fun u_ Sx41_ px44_ => ?_)
                  · obtain ⟨hIx42_, hFx43_, px44_⟩ := px44_
                    refine Or.inr ⟨_, rfl, hIx42_, ai_fr_tr hFx40_ (fr_le hFx43_ rfl), ?_⟩
                    exact ⟨(1, (lx_nx b_ n_ q_)), p_er y8_ (by rw [hst_, hB1_, p_ad_x px44_.1]; rfl), px44_.2⟩
                  obtain ⟨rfl, hIx42_, hFx43_, px44_⟩ := px44_
                  have hFx45_ : ai_fr (sx_W vw_145) S0_ Sx41_ := ai_fr_tr hFx40_ (fr_le hFx43_ rfl)
                  have e70_ := px44_
                  have f70_ := hFx43_
                  refine sm_T_go 1 (c1 := (74, [some (.inr (.inr (some (7, 0)))), some (.inl e_), some (.inl i_), some (.inl vx9_), none], [.inl 1], Sx41_)) rfl ?_
                  refine sm_T_rz rfl (by omega) (Or.inl ⟨_, _, rfl, _, rfl, hIx42_, hFx45_, ?_⟩)
                  have k1_ := p_ad_ok hp1_ (fun z_ => by rw [z_] at e26_; unfold p_lv at e26_; repeat' split at e26_ <;> omega) (p_ad_c e70_)
                  have k2_ := p_go hn1_ hpr_ hok1_ y8_ (by rw [hst_, hB1_, p_ad_c e70_]; rfl)
                  left
                  rw [e26_] at xr63_
                  exact ⟨rfl, _, _, _, lx_nx b_ n_ q_, e70_, xr_fr xr63_ f70_ rfl rfl rfl rfl rfl rfl rfl rfl rfl, k2_.1, k2_.2, by omega⟩
            · have cx11_ : ¬ (vx9_ ≠ 4) := of_decide_eq_false cx11_
              refine sm_T_go 2 (c1 := (45, [some (.inr (.inr (some (7, 0)))), some (.inl e_), some (.inl i_), some (.inl vx9_), none], [.inl 5, .inr (.inr (some (7, 0)))], S_)) rfl ?_
              refine sm_T_calx (d1 := 2) (Q1 := vq_148 5 md_ o1_ g1_ c1_ S_) (Q2 := vx_148 5 md_ o1_ g1_ c1_ S_) rfl rfl (by decide) (vc_148 5 md_ o1_ g1_ c1_ S_ hI_ (by exact y2_.1) (by exact y3_) (by omega) (by omega)) rfl (fun Sx46_ px49_ => ?_) (fun u_ Sx46_ px49_ => ?_)
              · obtain ⟨hIx47_, hFx48_, px49_⟩ := px49_
                refine Or.inr ⟨_, rfl, hIx47_, ai_fr_tr hF_ (fr_le hFx48_ rfl), ?_⟩
                obtain ⟨e9_, w1_, w2_⟩ := px49_
                refine ⟨e9_, p_er y8_ ?_, w2_⟩
                rw [pB_l (by omega)]
                first | (rw [if_pos (by omega), w1_]; rfl) | (rw [if_neg (by omega), ← e26_, w1_]; rfl)
              obtain ⟨rfl, hIx47_, hFx48_, px49_⟩ := px49_
              have hFx50_ : ai_fr (sx_W vw_145) S0_ Sx46_ := ai_fr_tr hF_ (fr_le hFx48_ rfl)
              have ex51_ : Sx46_.1 10 0 2 = S_.1 10 0 2 := hFx48_.1 10 0 2 rfl
              obtain ⟨⟨so_, sg_, sc_⟩, e45_, x45_⟩ := px49_
              have k45_ := p_se_ok (by omega) o1_ g1_ c1_ _ y3_ e45_
              have c45_ := ct_fr y1_ hFx48_ rfl rfl rfl rfl rfl rfl rfl
              have xr45_ : xr md_ so_ sg_ sc_ Sx46_ := ⟨x45_, (hFx48_.1 7 0 17 rfl).trans (y2_.2.trans (by rw [← k45_.2.1]))⟩
              have hos_ := o_lim k45_.1.1 k45_.1.2.1
              have hos1_ : so_.length ≤ 365 := hos_.1
              have hls_ : sc_.length + so_.length ≤ c1_.length + o1_.length := k45_.2.2.1
              have hxl_ : Sx46_.1 7 0 14 = (so_.length : Int) := x45_.1
              have hol2_ := o_len k45_.1.1
              have hst_ : p_st b_ n_ md_ pr_ (1, false, q_, o1_, g1_, c1_) = p_B1 b_ n_ md_ q_ (p_lv md_ (lx_kd b_ n_ q_)) (so_, sg_, sc_) := by rw [pB_l (by omega)]; first | (rw [if_pos (by omega), e45_]; rfl) | (rw [if_neg (by omega), ← e26_, e45_, e26_]; rfl)
              have st45_ := c45_.2.2.2.2.2.1
              have hle45_ : so_.length ≤ o1_.length := p_se_le o1_ g1_ c1_ _ e45_
              refine sm_T_go 2 (c1 := (50, [some (.inr (.inr (some (7, 0)))), some (.inl e_), some (.inl i_), some (.inl vx9_), none], [.inl 4, .inl vx9_], Sx46_)) rfl ?_
              refine sm_T_br (a := 1) (z := 11) rfl (fun cx52_ => ?_) (fun cx52_ => ?_)
              · have cx52_ : vx9_ ≠ 4 := of_decide_eq_true cx52_
                exfalso; omega
              · have cx52_ : ¬ (vx9_ ≠ 4) := of_decide_eq_false cx52_
                refine sm_T_go 1 (c1 := (54, [some (.inr (.inr (some (7, 0)))), some (.inl e_), some (.inl i_), some (.inl vx9_), none], [.inr (.inr (some (7, 0)))], Sx46_)) rfl ?_
                refine sm_T_cal (d1 := 0) (Q1 := vq_147 md_ so_ sg_ sc_ Sx46_) rfl rfl (by decide) (vc_147 md_ so_ sg_ sc_ Sx46_ hIx47_ (by exact x45_)) (fun u_ Sx53_ px56_ => ?_)
                obtain ⟨rfl, vx58_, rfl, px56_⟩ := px56_
                have e54_ := px56_
                refine sm_T_go 1 (c1 := (58, [some (.inr (.inr (some (7, 0)))), some (.inl e_), some (.inl i_), some (.inl vx9_), none], [.inl 4, .inl vx58_], Sx46_)) rfl ?_
                refine sm_T_br (a := 0) (z := 17) rfl (fun cx59_ => ?_) (fun cx59_ => ?_)
                · have cx59_ : vx58_ = 4 := of_decide_eq_true cx59_
                  refine sm_T_go 0 (c1 := (75, [some (.inr (.inr (some (7, 0)))), some (.inl e_), some (.inl i_), some (.inl vx9_), none], [], Sx46_)) rfl ?_
                  refine sm_T_wk [some (.inr (.inr (some (7, 0)))), none, some (.inl i_), none, none] (by exact ⟨rfl, rfl, trivial⟩) ?_
                  refine ih_.2 i_ Sx46_ hIx47_ hFx50_ ⟨?_, ?_, trivial⟩ ?_
                  · omega
                  · first | (rcases y6_ with z_ | z_; (exfalso; omega); (exact ⟨o1_, g1_, c1_, q_, y1_, y2_, y3_, y4_, y5_, fun w_ => absurd w_ z_.2.1, fun _ => z_.2.2⟩)) | (have w3_ := p_yo y8_ (pB_n (by omega)); exact ⟨o1_, g1_, c1_, q_, y1_, y2_, y3_, y4_, y5_, fun _ => w3_, fun z_ => by rw [pB2_n z_] at w3_; exact w3_⟩) | (have w3_ := p_yo y8_ hst_; rw [show p_B1 b_ n_ md_ q_ (p_lv md_ (lx_kd b_ n_ q_)) (so_, sg_, sc_) = p_B2 b_ n_ md_ q_ (so_, sg_, sc_) from if_neg (by rintro ⟨z1_, z2_⟩; rcases z2_ with z2_ | z2_; omega; (exact z2_ (by show o_tp so_ = 4; omega)))] at w3_; exact ⟨so_, sg_, sc_, q_, c45_, xr45_, k45_.1, by omega, y5_, fun _ => w3_, fun z_ => by rw [pB2_n z_] at w3_; exact w3_⟩)
                  · omega
                · have cx59_ : ¬ (vx58_ = 4) := of_decide_eq_false cx59_
                  refine sm_T_go 2 (c1 := (63, [some (.inr (.inr (some (7, 0)))), some (.inl e_), some (.inl i_), some (.inl vx9_), none], [.inl vx9_, .inr (.inr (some (7, 0)))], Sx46_)) rfl ?_
                  refine sm_T_cal (d1 := 0) (Q1 := vq_137 vx9_ md_ so_ sg_ sc_ b_ n_ q_ Sx46_) rfl rfl (by decide) (vc_137 vx9_ md_ so_ sg_ sc_ b_ n_ q_ Sx46_ hIx47_ (by exact x45_) (by exact c45_) (by (have := (p_lv_b (md_ := md_) (k_ := lx_kd b_ n_ q_)).2.1); omega) (by omega)) (fun u_ Sx60_ px63_ => ?_)
                  obtain ⟨rfl, hIx61_, hFx62_, px63_⟩ := px63_
                  have hFx64_ : ai_fr (sx_W vw_145) S0_ Sx60_ := ai_fr_tr hFx50_ (fr_le hFx62_ rfl)
                  have x63_ := px63_
                  have c63_ := ct_fr c45_ hFx62_ rfl rfl rfl rfl rfl rfl rfl
                  have xr63_ : xr md_ _ sg_ sc_ Sx60_ := ⟨x63_, (hFx62_.1 7 0 17 rfl).trans (xr45_.2.trans (by show _ = (((if _ < 0 then 1 else 0) + o_mk so_ : Nat) : Int); rw [if_neg (by omega)]; simp))⟩
                  have hB1_ : p_B1 b_ n_ md_ q_ (p_lv md_ (lx_kd b_ n_ q_)) (so_, sg_, sc_) = pb (p_ad b_ n_ q_) fun r_ => .inr (.inl (0, false, r_, (p_lv md_ (lx_kd b_ n_ q_), q_) :: so_, sg_, sc_)) := if_pos ⟨by omega, by first | (left; omega) | (right; show o_tp so_ ≠ 4; omega)⟩
                  refine sm_T_go 2 (c1 := (70, [some (.inr (.inr (some (7, 0)))), some (.inl e_), some (.inl i_), some (.inl vx9_), none], [.inr (.inr (some (10, 0)))], Sx60_)) rfl ?_
                  refine sm_T_calx (d1 := 1) (Q1 := vq_191 b_ n_ (lx_en b_ n_ q_) Sx60_) (Q2 := vx_191 b_ n_ (lx_en b_ n_ q_) Sx60_) rfl rfl (by decide) (vc_191 b_ n_ (lx_en b_ n_ q_) Sx60_ hIx61_ (by exact c63_.1) (by exact c63_.2.1) (by exact c63_.2.2.1) (by exact c63_.2.2.2.2.2.2.1) (by exact (lx_en_le (b := b_) c63_.2.2.2.1).2)) rfl (fun Sx65_ px68_ => ?_) (fun u_ Sx65_ px68_ => ?_)
                  · obtain ⟨hIx66_, hFx67_, px68_⟩ := px68_
                    refine Or.inr ⟨_, rfl, hIx66_, ai_fr_tr hFx64_ (fr_le hFx67_ rfl), ?_⟩
                    exact ⟨(1, (lx_nx b_ n_ q_)), p_er y8_ (by rw [hst_, hB1_, p_ad_x px68_.1]; rfl), px68_.2⟩
                  obtain ⟨rfl, hIx66_, hFx67_, px68_⟩ := px68_
                  have hFx69_ : ai_fr (sx_W vw_145) S0_ Sx65_ := ai_fr_tr hFx64_ (fr_le hFx67_ rfl)
                  have e70_ := px68_
                  have f70_ := hFx67_
                  refine sm_T_go 1 (c1 := (74, [some (.inr (.inr (some (7, 0)))), some (.inl e_), some (.inl i_), some (.inl vx9_), none], [.inl 1], Sx65_)) rfl ?_
                  refine sm_T_rz rfl (by omega) (Or.inl ⟨_, _, rfl, _, rfl, hIx66_, hFx69_, ?_⟩)
                  have k1_ := p_ad_ok hp1_ (fun z_ => by rw [z_] at e26_; unfold p_lv at e26_; repeat' split at e26_ <;> omega) (p_ad_c e70_)
                  have k2_ := p_go hn1_ hpr_ hok1_ y8_ (by rw [hst_, hB1_, p_ad_c e70_]; rfl)
                  left
                  rw [e26_] at xr63_
                  exact ⟨rfl, _, _, _, lx_nx b_ n_ q_, e70_, xr_fr xr63_ f70_ rfl rfl rfl rfl rfl rfl rfl rfl rfl, k2_.1, k2_.2, by omega⟩
        · have cx2_ : ¬ (e_ = 0) := of_decide_eq_false cx2_
          refine sm_T_go 5 (c1 := (75, [some (.inr (.inr (some (7, 0)))), some (.inl e_), some (.inl i_), some (.inl 0), none], [], S_)) rfl ?_
          refine sm_T_wk [some (.inr (.inr (some (7, 0)))), none, some (.inl i_), none, none] (by exact ⟨rfl, rfl, trivial⟩) ?_
          refine ih_.2 i_ S_ hI_ hF_ ⟨?_, ?_, trivial⟩ ?_
          · omega
          · first | (rcases y6_ with z_ | z_; (exfalso; omega); (exact ⟨o1_, g1_, c1_, q_, y1_, y2_, y3_, y4_, y5_, fun w_ => absurd w_ z_.2.1, fun _ => z_.2.2⟩)) | (have w3_ := p_yo y8_ (pB_n (by omega)); exact ⟨o1_, g1_, c1_, q_, y1_, y2_, y3_, y4_, y5_, fun _ => w3_, fun z_ => by rw [pB2_n z_] at w3_; exact w3_⟩) | (have w3_ := p_yo y8_ hst_; rw [show p_B1 b_ n_ md_ q_ (p_lv md_ (lx_kd b_ n_ q_)) (so_, sg_, sc_) = p_B2 b_ n_ md_ q_ (so_, sg_, sc_) from if_neg (by rintro ⟨z1_, z2_⟩; rcases z2_ with z2_ | z2_; omega; (exact z2_ (by show o_tp so_ = 4; omega)))] at w3_; exact ⟨so_, sg_, sc_, q_, c45_, xr45_, k45_.1, by omega, y5_, fun _ => w3_, fun z_ => by rw [pB2_n z_] at w3_; exact w3_⟩)
          · omega
    · rintro i_ S_ hI_ hF_ ⟨h0_, h1_, -⟩ hm_
      obtain ⟨o1_, g1_, c1_, q_, y1_, y2_, y3_, y4_, y5_, y6_, y7_⟩ := h1_
      have hn1_ := y1_.2.2.1
      have st1_ := y1_.2.2.2.2.2.1
      have kd1_ := y1_.2.2.2.2.2.2.2.1
      have hp1_ := y1_.2.2.2.1
      have hol_ := o_lim y3_.1 y3_.2.1
      have hol1_ : o1_.length ≤ 365 := hol_.1
      have x11_ : S_.1 7 0 14 = (o1_.length : Int) := y2_.1.1
      have hok1_ : x_ok b_ n_ md_ (1, false, q_, o1_, g1_, c1_) := ⟨Nat.le_refl _, y3_, y1_.2.2.2.1, y1_.2.2.2.2.1, by show _ + _ + 0 ≤ _; exact y4_⟩
      refine sm_T_go 2 (c1 := (77, [some (.inr (.inr (some (7, 0)))), none, some (.inl i_), none, none], [.inl 1, .inr (.inr (some (7, 0)))], S_)) rfl ?_
      refine sm_T_calx (d1 := 2) (Q1 := vq_148 1 md_ o1_ g1_ c1_ S_) (Q2 := vx_148 1 md_ o1_ g1_ c1_ S_) rfl rfl (by decide) (vc_148 1 md_ o1_ g1_ c1_ S_ hI_ (by exact y2_.1) (by exact y3_) (by decide) (by omega)) rfl (fun Sx1_ px4_ => ?_) (fun u_ Sx1_ px4_ => ?_)
      · obtain ⟨hIx2_, hFx3_, px4_⟩ := px4_
        refine Or.inr ⟨_, rfl, hIx2_, ai_fr_tr hF_ (fr_le hFx3_ rfl), ?_⟩
        obtain ⟨e9_, w1_, w2_⟩ := px4_
        refine ⟨e9_, ?_, w2_⟩
        by_cases z_ : md_ = false ∧ lx_kd b_ n_ q_ = 63
        · have w3_ := y6_ z_
          rw [pB2_e z_ w1_] at w3_
          exact w3_
        · have w3_ := y7_ z_
          rw [p_sa_se (by decide : (1 : Int) ≤ 1), w1_] at w3_
          exact w3_
      obtain ⟨rfl, hIx2_, hFx3_, px4_⟩ := px4_
      have hFx5_ : ai_fr (sx_W vw_145) S0_ Sx1_ := ai_fr_tr hF_ (fr_le hFx3_ rfl)
      obtain ⟨⟨so_, sg_, sc_⟩, e77_, x77_⟩ := px4_
      have k77_ := p_se_ok (by decide) o1_ g1_ c1_ _ y3_ e77_
      have c77_ := ct_fr y1_ hFx3_ rfl rfl rfl rfl rfl rfl rfl
      have xr77_ : xr md_ so_ sg_ sc_ Sx1_ := ⟨x77_, (hFx3_.1 7 0 17 rfl).trans (y2_.2.trans (by rw [← k77_.2.1]))⟩
      have hos_ := o_lim k77_.1.1 k77_.1.2.1
      have hos1_ : so_.length ≤ 365 := hos_.1
      have hls_ : sc_.length + so_.length ≤ c1_.length + o1_.length := k77_.2.2.1
      have hxl_ : Sx1_.1 7 0 14 = (so_.length : Int) := x77_.1
      have kd77_ := c77_.2.2.2.2.2.2.2.1
      have st77_ := c77_.2.2.2.2.2.1
      have hop_ := xr77_.2
      have htp_ : o_tp so_ < 1 := k77_.2.2.2
      have hle77_ : so_.length ≤ o1_.length := p_se_le o1_ g1_ c1_ _ e77_
      have w2_ : ¬ (md_ = false ∧ lx_kd b_ n_ q_ = 63) → p_yy b_ n_ md_ pr_ (pb (p_sa md_ so_ sg_ sc_) (p_B3 b_ n_ md_ q_)) R_ := by intro z_; have w3_ := y7_ z_; rw [p_sa_se (by decide : (1 : Int) ≤ 1), e77_] at w3_; exact w3_
      obtain ⟨z9_, g9_, hg9_⟩ := s_ok_1 k77_.1
      have hg8_ : sg_ = z9_ :: g9_ := hg9_
      have hgl_ : sg_.length = o_hl so_ + 1 := k77_.1.2.2.1
      have hgl2_ : sg_.length = g9_.length + 1 := by rw [hg8_]; rfl
      have hgl3_ : o_hl so_ ≤ 425 := hos_.2
      have bx6_ : (-128) ≤ Sx1_.1 10 0 2 ∧ Sx1_.1 10 0 2 ≤ 257 := hIx2_.1 10 0 2 rfl
      refine sm_T_go 4 (c1 := (89, [some (.inr (.inr (some (7, 0)))), none, some (.inl i_), none, none], [.inl 63, .inl (Sx1_.1 10 0 2)], Sx1_)) rfl ?_
      refine sm_T_br (a := 1) (z := 29) rfl (fun cx7_ => ?_) (fun cx7_ => ?_)
      · have cx7_ : (Sx1_.1 10 0 2) ≠ 63 := of_decide_eq_true cx7_
        have w4_ := w2_ (fun z_ => by omega)
        refine sm_T_go 3 (c1 := (121, [some (.inr (.inr (some (7, 0)))), some (.inl 1), some (.inl i_), none, none], [.inr (.inr (some (7, 0)))], Sx1_)) rfl ?_
        refine sm_T_cal (d1 := 0) (Q1 := vq_147 md_ so_ sg_ sc_ Sx1_) rfl rfl (by decide) (vc_147 md_ so_ sg_ sc_ Sx1_ hIx2_ (by exact x77_)) (fun u_ Sx8_ px11_ => ?_)
        obtain ⟨rfl, vx13_, rfl, px11_⟩ := px11_
        have e121_ := px11_
        have t5_ : -4 ≤ o_tp so_ ∧ o_tp so_ ≤ 5 := o_tp5 k77_.1.1
        refine sm_T_go 3 (c1 := (129, [some (.inr (.inr (some (7, 0)))), some (.inl 1), some (.inl i_), none, some (.inl vx13_)], [.inl (-1), .inl vx13_], Sx1_)) rfl ?_
        refine sm_T_br (a := 0) (z := 10) rfl (fun cx14_ => ?_) (fun cx14_ => ?_)
        · have cx14_ : vx13_ = (-1) := of_decide_eq_true cx14_
          obtain ⟨k8_, t8_, o8_, rfl, e8_⟩ := o_tp_c (o_ := so_) (by omega)
          rw [p_sa_st htp_ (by omega)] at w4_
          have w5_ : p_yy b_ n_ md_ pr_ (p_B3 b_ n_ md_ q_ ((k8_, t8_) :: o8_, sg_, sc_)) R_ := w4_
          rw [pB3_c (by omega)] at w5_
          refine sm_T_go 1 (c1 := (140, [some (.inr (.inr (some (7, 0)))), some (.inl 1), some (.inl i_), none, some (.inl vx13_)], [.inr (.inr (some (7, 0)))], Sx1_)) rfl ?_
          refine sm_T_calx (d1 := 1) (Q1 := vq_151 md_ o8_ sg_ sc_ k8_ t8_ b_ n_ q_ Sx1_) (Q2 := vx_151 md_ o8_ sg_ sc_ k8_ t8_ b_ n_ q_ Sx1_) rfl rfl (by decide) (vc_151 md_ o8_ sg_ sc_ k8_ t8_ b_ n_ q_ Sx1_ hIx2_ (by exact x77_) (by exact c77_) (by (rw [hop_]; show (1 : Int) ≤ (((if k8_ < 0 then 1 else 0) + o_mk o8_ : Nat) : Int); rw [if_pos (by omega)]; omega))) rfl (fun Sx15_ px18_ => ?_) (fun u_ Sx15_ px18_ => ?_)
          · obtain ⟨hIx16_, hFx17_, px18_⟩ := px18_
            refine Or.inr ⟨_, rfl, hIx16_, ai_fr_tr hFx5_ (fr_le hFx17_ rfl), ?_⟩
            refine ⟨(2, q_), ?_, px18_.2⟩
            rw [if_neg px18_.1] at w5_
            exact w5_
          obtain ⟨rfl, hIx16_, hFx17_, px18_⟩ := px18_
          have hFx19_ : ai_fr (sx_W vw_145) S0_ Sx15_ := ai_fr_tr hFx5_ (fr_le hFx17_ rfl)
          have ex20_ : Sx15_.1 10 0 2 = Sx1_.1 10 0 2 := hFx17_.1 10 0 2 rfl
          have e140_ := px18_
          have c140_ := ct_fr c77_ hFx17_ rfl rfl rfl rfl rfl rfl rfl
          have x140_ : xr md_ o8_ sg_ sc_ Sx15_ := ⟨e140_.2.1, by rw [e140_.2.2, hop_]; show (((if k8_ < 0 then 1 else 0) + o_mk o8_ : Nat) : Int) - 1 = _; rw [if_pos (by omega)]; omega⟩
          rw [if_pos e140_.1] at w5_
          have w140_ := e140_.2.1
          rw [hg8_] at w140_
          have hl8_ : ((k8_, t8_) :: o8_).length = o8_.length + 1 := rfl
          refine sm_T_go 2 (c1 := (147, [some (.inr (.inr (some (7, 0)))), some (.inl 1), some (.inl i_), none, some (.inl vx13_)], [.inl (-2), .inl vx13_], Sx15_)) rfl ?_
          refine sm_T_br (a := 1) (z := 7) rfl (fun cx21_ => ?_) (fun cx21_ => ?_)
          · have cx21_ : vx13_ ≠ (-2) := of_decide_eq_true cx21_
            refine sm_T_go 2 (c1 := (158, [some (.inr (.inr (some (7, 0)))), some (.inl 1), some (.inl i_), none, some (.inl vx13_)], [.inr (.inr (some (10, 0)))], Sx15_)) rfl ?_
            refine sm_T_calx (d1 := 1) (Q1 := vq_191 b_ n_ (lx_en b_ n_ q_) Sx15_) (Q2 := vx_191 b_ n_ (lx_en b_ n_ q_) Sx15_) rfl rfl (by decide) (vc_191 b_ n_ (lx_en b_ n_ q_) Sx15_ hIx16_ (by first | exact c151_.1 | exact c140_.1) (by first | exact c151_.2.1 | exact c140_.2.1) (by exact hn1_) (by first | exact c151_.2.2.2.2.2.2.1 | exact c140_.2.2.2.2.2.2.1) (by exact (lx_en_le (b := b_) hp1_).2)) rfl (fun Sx22_ px25_ => ?_) (fun u_ Sx22_ px25_ => ?_)
            · obtain ⟨hIx23_, hFx24_, px25_⟩ := px25_
              refine Or.inr ⟨_, rfl, hIx23_, ai_fr_tr hFx19_ (fr_le hFx24_ rfl), ?_⟩
              refine ⟨(1, (lx_nx b_ n_ q_)), ?_, px25_.2⟩
              rw [p_ad_x px25_.1] at w5_
              exact w5_
            obtain ⟨rfl, hIx23_, hFx24_, px25_⟩ := px25_
            have hFx26_ : ai_fr (sx_W vw_145) S0_ Sx22_ := ai_fr_tr hFx19_ (fr_le hFx24_ rfl)
            have e158_ := px25_
            have f158_ := hFx24_
            rw [p_ad_c e158_] at w5_
            refine sm_T_go 3 (c1 := (202, [some (.inr (.inr (some (7, 0)))), some (.inl 0), some (.inl i_), none, some (.inl vx13_)], [], Sx22_)) rfl ?_
            refine sm_T_inc (a := 2) (z := 1) (v := i_) (w := i_ + 1) rfl rfl (by omega) (by omega) (by omega) ?_
            refine sm_T_go 1 (c1 := (4, [some (.inr (.inr (some (7, 0)))), some (.inl 0), some (.inl (i_ + 1)), none, some (.inl vx13_)], [], Sx22_)) rfl ?_
            refine sm_T_wk [some (.inr (.inr (some (7, 0)))), some (.inl 0), some (.inl (i_ + 1)), none, none] (by exact ⟨rfl, rfl, rfl, trivial⟩) ?_
            refine ih_.1 0 (i_ + 1) Sx22_ hIx23_ hFx26_ ⟨?_, ?_, trivial⟩ ?_
            · first | (have hf9_ := f158_.1 7 0 14 rfl; first | (have hf8_ : _ = (o8_.length : Int) := x151_.1.1; omega) | (have hf8_ : _ = (o8_.length : Int) := x140_.1.1; omega)) | omega
            · first | (have k1_ := p_ad_ok hp1_ (by omega) (p_ad_c e158_); have k3_ := x_B3 (b_ := b_) (n_ := n_) (p_ := q_) (s_ := ((k8_, t8_) :: o8_, sg_, sc_)) hp1_ k77_.1 ⟨htp_, by show k8_ ≠ -4; omega⟩ (by show sc_.length + ((k8_, t8_) :: o8_).length ≤ 3 * q_; omega) (by rw [pB3_c (by omega), if_pos e140_.1, p_ad_c e158_]; rfl); refine ⟨o8_, _, _, (lx_nx b_ n_ q_), e158_, ?_, k3_.2.1, k3_.2.2.2.2, by omega, Or.inl ⟨rfl, w5_⟩⟩; first | (rw [show decide (k8_ = -2) = true from decide_eq_true (by omega), hg8_]; exact xr_fr x151_ f158_ rfl rfl rfl rfl rfl rfl rfl rfl rfl) | (rw [show decide (k8_ = -2) = false from decide_eq_false (by omega)]; exact xr_fr x140_ f158_ rfl rfl rfl rfl rfl rfl rfl rfl rfl)) | (obtain ⟨t1_, t2_, t3_, t4_⟩ := k77_.1; refine ⟨o8_, z2_ :: g8_, 7 :: sc_, q_, c194_, x194_, ⟨t1_.2.2, ?_, ?_, ?_⟩, ?_, y5_, Or.inr ⟨rfl, ?_, w4_⟩⟩; (have t2_ : 1 + o_mk o8_ ≤ 60 := t2_; show o_mk o8_ ≤ 60; omega); (have t3_ : (z1_ :: z2_ :: z3_ :: g8_).length = 2 + o_hl o8_ + 1 := t3_; show g8_.length + 1 = o_hl o8_ + 1; omega); (exact h_ok_c.mpr ⟨(h_ok_c.mp (h_ok_c.mp t4_).2).1, (h_ok_c.mp (h_ok_c.mp (h_ok_c.mp t4_).2).2).2⟩); (show sc_.length + 1 + o8_.length ≤ 3 * q_; omega); (intro z_; first | omega | cases hm9_))
            · first | (have hf9_ := f158_.1 7 0 14 rfl; first | (have hf8_ : _ = (o8_.length : Int) := x151_.1.1; omega) | (have hf8_ : _ = (o8_.length : Int) := x140_.1.1; omega)) | omega
          · have cx21_ : ¬ (vx13_ ≠ (-2)) := of_decide_eq_false cx21_
            exfalso; omega
        · have cx14_ : ¬ (vx13_ = (-1)) := of_decide_eq_false cx14_
          refine sm_T_go 2 (c1 := (136, [some (.inr (.inr (some (7, 0)))), some (.inl 1), some (.inl i_), none, some (.inl vx13_)], [.inl (-2), .inl vx13_], Sx1_)) rfl ?_
          refine sm_T_br (a := 1) (z := 30) rfl (fun cx27_ => ?_) (fun cx27_ => ?_)
          · have cx27_ : vx13_ ≠ (-2) := of_decide_eq_true cx27_
            refine sm_T_go 2 (c1 := (170, [some (.inr (.inr (some (7, 0)))), some (.inl 1), some (.inl i_), none, some (.inl vx13_)], [.inl (-3), .inl vx13_], Sx1_)) rfl ?_
            refine sm_T_br (a := 1) (z := 16) rfl (fun cx28_ => ?_) (fun cx28_ => ?_)
            · have cx28_ : vx13_ ≠ (-3) := of_decide_eq_true cx28_
              refine sm_T_go 2 (c1 := (190, [some (.inr (.inr (some (7, 0)))), some (.inl 1), some (.inl i_), none, some (.inl vx13_)], [.inl (-4), .inl vx13_], Sx1_)) rfl ?_
              refine sm_T_br (a := 1) (z := 10) rfl (fun cx29_ => ?_) (fun cx29_ => ?_)
              · have cx29_ : vx13_ ≠ (-4) := of_decide_eq_true cx29_
                refine sm_T_go 1 (c1 := (201, [some (.inr (.inr (some (7, 0)))), some (.inl 1), some (.inl i_), none, some (.inl vx13_)], [.inl 0], Sx1_)) rfl ?_
                refine sm_T_rz rfl (by omega) (Or.inl ⟨_, _, rfl, _, rfl, hIx2_, hFx5_, ?_⟩)
                have so0_ := o_tp_0 k77_.1.1 (by show o_tp so_ = 0; omega)
                have so0_ : so_ = [] := so0_
                subst so0_
                right
                have w6_ : p_yy b_ n_ md_ pr_ (.inr (.inr (q_, sg_, sc_))) R_ := w4_
                refine ⟨rfl, sg_, sc_, q_, c77_, xr77_, w6_, by rw [hgl_]; rfl, y5_, ?_⟩
                have hls2_ : sc_.length + 0 ≤ c1_.length + o1_.length := hls_
                omega
              · have cx29_ : ¬ (vx13_ ≠ (-4)) := of_decide_eq_false cx29_
                obtain ⟨k8_, t8_, o8_, rfl, e8_⟩ := o_tp_c (o_ := so_) (by omega)
                have k84_ : k8_ = -4 := by omega
                subst k84_
                have hm8_ := o_md k77_.1.1
                subst hm8_
                obtain ⟨z1_, z2_, z3_, g8_, hg7_⟩ := s_ok_3 k77_.1
                subst hg7_
                have hl8_ : ((-4, t8_) :: o8_ : List (Int × Nat)).length = o8_.length + 1 := rfl
                have hl9_ : (z1_ :: z2_ :: z3_ :: g8_).length = g8_.length + 3 := rfl
                refine sm_T_go 1 (c1 := (194, [some (.inr (.inr (some (7, 0)))), some (.inl 1), some (.inl i_), none, some (.inl vx13_)], [.inr (.inr (some (7, 0)))], Sx1_)) rfl ?_
                refine sm_T_calx (d1 := 1) (Q1 := vq_152 o8_ g8_ sc_ (-4) t8_ z1_ z2_ z3_ Sx1_) (Q2 := vx_152 o8_ g8_ sc_ (-4) t8_ z1_ z2_ z3_ Sx1_) rfl rfl (by decide) (vc_152 o8_ g8_ sc_ (-4) t8_ z1_ z2_ z3_ Sx1_ hIx2_ (by exact x77_) (by (rw [hop_]; show (1 : Int) ≤ ((1 + o_mk o8_ : Nat) : Int); omega)) (by omega) (by omega) (by omega) (by exact k77_.1.1.2.1)) rfl (fun Sx30_ px33_ => ?_) (fun u_ Sx30_ px33_ => ?_)
                · obtain ⟨hIx31_, hFx32_, px33_⟩ := px33_
                  refine Or.inr ⟨_, rfl, hIx31_, ai_fr_tr hFx5_ (fr_le hFx32_ rfl), ?_⟩
                  refine ⟨(13, t8_), ?_, px33_.2⟩
                  rw [p_sa_cx px33_.1] at w4_
                  exact w4_
                obtain ⟨rfl, hIx31_, hFx32_, px33_⟩ := px33_
                have hFx34_ : ai_fr (sx_W vw_145) S0_ Sx30_ := ai_fr_tr hFx5_ (fr_le hFx32_ rfl)
                have ex35_ : Sx30_.1 10 0 2 = Sx1_.1 10 0 2 := hFx32_.1 10 0 2 rfl
                have e194_ := px33_
                have c194_ := ct_fr c77_ hFx32_ rfl rfl rfl rfl rfl rfl rfl
                have x194_ : xr false o8_ (z2_ :: g8_) (7 :: sc_) Sx30_ := ⟨e194_.2.1, by rw [e194_.2.2, hop_]; show ((1 + o_mk o8_ : Nat) : Int) - 1 = _; omega⟩
                rw [p_sa_ch e194_.1] at w4_
                have hxl9_ : Sx30_.1 7 0 14 = (o8_.length : Int) := e194_.2.1.1
                refine sm_T_go 1 (c1 := (202, [some (.inr (.inr (some (7, 0)))), some (.inl 1), some (.inl i_), none, some (.inl vx13_)], [], Sx30_)) rfl ?_
                refine sm_T_inc (a := 2) (z := 1) (v := i_) (w := i_ + 1) rfl rfl (by omega) (by omega) (by omega) ?_
                refine sm_T_go 1 (c1 := (4, [some (.inr (.inr (some (7, 0)))), some (.inl 1), some (.inl (i_ + 1)), none, some (.inl vx13_)], [], Sx30_)) rfl ?_
                refine sm_T_wk [some (.inr (.inr (some (7, 0)))), some (.inl 1), some (.inl (i_ + 1)), none, none] (by exact ⟨rfl, rfl, rfl, trivial⟩) ?_
                refine ih_.1 1 (i_ + 1) Sx30_ hIx31_ hFx34_ ⟨?_, ?_, trivial⟩ ?_
                · first | (have hf9_ := f158_.1 7 0 14 rfl; first | (have hf8_ : _ = (o8_.length : Int) := x151_.1.1; omega) | (have hf8_ : _ = (o8_.length : Int) := x140_.1.1; omega)) | omega
                · first | (have k1_ := p_ad_ok hp1_ (by omega) (p_ad_c e158_); have k3_ := x_B3 (b_ := b_) (n_ := n_) (p_ := q_) (s_ := ((k8_, t8_) :: o8_, sg_, sc_)) hp1_ k77_.1 ⟨htp_, by show k8_ ≠ -4; omega⟩ (by show sc_.length + ((k8_, t8_) :: o8_).length ≤ 3 * q_; omega) (by rw [pB3_c (by omega), if_pos e140_.1, p_ad_c e158_]; rfl); refine ⟨o8_, _, _, (lx_nx b_ n_ q_), e158_, ?_, k3_.2.1, k3_.2.2.2.2, by omega, Or.inl ⟨rfl, w5_⟩⟩; first | (rw [show decide (k8_ = -2) = true from decide_eq_true (by omega), hg8_]; exact xr_fr x151_ f158_ rfl rfl rfl rfl rfl rfl rfl rfl rfl) | (rw [show decide (k8_ = -2) = false from decide_eq_false (by omega)]; exact xr_fr x140_ f158_ rfl rfl rfl rfl rfl rfl rfl rfl rfl)) | (obtain ⟨t1_, t2_, t3_, t4_⟩ := k77_.1; refine ⟨o8_, z2_ :: g8_, 7 :: sc_, q_, c194_, x194_, ⟨t1_.2.2, ?_, ?_, ?_⟩, ?_, y5_, Or.inr ⟨rfl, ?_, w4_⟩⟩; (have t2_ : 1 + o_mk o8_ ≤ 60 := t2_; show o_mk o8_ ≤ 60; omega); (have t3_ : (z1_ :: z2_ :: z3_ :: g8_).length = 2 + o_hl o8_ + 1 := t3_; show g8_.length + 1 = o_hl o8_ + 1; omega); (exact h_ok_c.mpr ⟨(h_ok_c.mp (h_ok_c.mp t4_).2).1, (h_ok_c.mp (h_ok_c.mp (h_ok_c.mp t4_).2).2).2⟩); (show sc_.length + 1 + o8_.length ≤ 3 * q_; omega); (intro z_; first | omega | cases hm9_))
                · first | (have hf9_ := f158_.1 7 0 14 rfl; first | (have hf8_ : _ = (o8_.length : Int) := x151_.1.1; omega) | (have hf8_ : _ = (o8_.length : Int) := x140_.1.1; omega)) | omega
            · have cx28_ : ¬ (vx13_ ≠ (-3)) := of_decide_eq_false cx28_
              obtain ⟨k8_, t8_, o8_, rfl, e8_⟩ := o_tp_c (o_ := so_) (by omega)
              have k83_ : k8_ = -3 := by omega
              subst k83_
              rw [p_sa_st htp_ (by omega)] at w4_
              have w5_ : p_yy b_ n_ md_ pr_ (p_B3 b_ n_ md_ q_ ((-3, t8_) :: o8_, sg_, sc_)) R_ := w4_
              rw [pB3_q] at w5_
              have hl8_ : ((-3, t8_) :: o8_ : List (Int × Nat)).length = o8_.length + 1 := rfl
              refine sm_T_go 1 (c1 := (174, [some (.inr (.inr (some (7, 0)))), some (.inl 1), some (.inl i_), none, some (.inl vx13_)], [.inr (.inr (some (7, 0)))], Sx1_)) rfl ?_
              refine sm_T_calx (d1 := 1) (Q1 := vq_150 md_ o8_ sg_ sc_ t8_ b_ n_ q_ Sx1_) (Q2 := vx_150 md_ o8_ sg_ sc_ t8_ b_ n_ q_ Sx1_) rfl rfl (by decide) (vc_150 md_ o8_ sg_ sc_ t8_ b_ n_ q_ Sx1_ hIx2_ (by exact x77_) (by exact c77_) (by omega)) rfl (fun Sx36_ px39_ => ?_) (fun u_ Sx36_ px39_ => ?_)
              · obtain ⟨hIx37_, hFx38_, px39_⟩ := px39_
                refine Or.inr ⟨_, rfl, hIx37_, ai_fr_tr hFx5_ (fr_le hFx38_ rfl), ?_⟩
                refine ⟨(2, q_), ?_, px39_.2⟩
                rw [if_neg px39_.1] at w5_
                exact w5_
              obtain ⟨rfl, hIx37_, hFx38_, px39_⟩ := px39_
              have hFx40_ : ai_fr (sx_W vw_145) S0_ Sx36_ := ai_fr_tr hFx5_ (fr_le hFx38_ rfl)
              have ex41_ : Sx36_.1 10 0 2 = Sx1_.1 10 0 2 := hFx38_.1 10 0 2 rfl
              have e174_ := px39_
              have c174_ := ct_fr c77_ hFx38_ rfl rfl rfl rfl rfl rfl rfl
              have x174_ : xr md_ ((-4, t8_) :: o8_) sg_ sc_ Sx36_ := ⟨e174_.2, (hFx38_.1 7 0 17 rfl).trans (hop_.trans rfl)⟩
              rw [if_pos e174_.1] at w5_
              refine sm_T_go 2 (c1 := (181, [some (.inr (.inr (some (7, 0)))), some (.inl 1), some (.inl i_), none, some (.inl vx13_)], [.inr (.inr (some (10, 0)))], Sx36_)) rfl ?_
              refine sm_T_calx (d1 := 1) (Q1 := vq_191 b_ n_ (lx_en b_ n_ q_) Sx36_) (Q2 := vx_191 b_ n_ (lx_en b_ n_ q_) Sx36_) rfl rfl (by decide) (vc_191 b_ n_ (lx_en b_ n_ q_) Sx36_ hIx37_ (by exact c174_.1) (by exact c174_.2.1) (by exact c174_.2.2.1) (by exact c174_.2.2.2.2.2.2.1) (by exact (lx_en_le (b := b_) c174_.2.2.2.1).2)) rfl (fun Sx42_ px45_ => ?_) (fun u_ Sx42_ px45_ => ?_)
              · obtain ⟨hIx43_, hFx44_, px45_⟩ := px45_
                refine Or.inr ⟨_, rfl, hIx43_, ai_fr_tr hFx40_ (fr_le hFx44_ rfl), ?_⟩
                refine ⟨(1, (lx_nx b_ n_ q_)), ?_, px45_.2⟩
                rw [p_ad_x px45_.1] at w5_
                exact w5_
              obtain ⟨rfl, hIx43_, hFx44_, px45_⟩ := px45_
              have hFx46_ : ai_fr (sx_W vw_145) S0_ Sx42_ := ai_fr_tr hFx40_ (fr_le hFx44_ rfl)
              have e181_ := px45_
              have f181_ := hFx44_
              rw [p_ad_c e181_] at w5_
              refine sm_T_go 1 (c1 := (185, [some (.inr (.inr (some (7, 0)))), some (.inl 1), some (.inl i_), none, some (.inl vx13_)], [.inl 1], Sx42_)) rfl ?_
              refine sm_T_rz rfl (by omega) (Or.inl ⟨_, _, rfl, _, rfl, hIx43_, hFx46_, ?_⟩)
              have k1_ := p_ad_ok hp1_ (by omega) (p_ad_c e181_)
              left
              refine ⟨rfl, _, _, _, lx_nx b_ n_ q_, e181_, xr_fr x174_ f181_ rfl rfl rfl rfl rfl rfl rfl rfl rfl, x_B3 (b_ := b_) (n_ := n_) (p_ := q_) (s_ := ((-3, t8_) :: o8_, sg_, sc_)) hp1_ k77_.1 ⟨htp_, by show (-3 : Int) ≠ -4; decide⟩ (by show sc_.length + ((-3, t8_) :: o8_ : List (Int × Nat)).length ≤ 3 * q_; omega) (by rw [pB3_q, if_pos e174_.1, p_ad_c e181_]; rfl), w5_, by omega⟩
          · have cx27_ : ¬ (vx13_ ≠ (-2)) := of_decide_eq_false cx27_
            obtain ⟨k8_, t8_, o8_, rfl, e8_⟩ := o_tp_c (o_ := so_) (by omega)
            rw [p_sa_st htp_ (by omega)] at w4_
            have w5_ : p_yy b_ n_ md_ pr_ (p_B3 b_ n_ md_ q_ ((k8_, t8_) :: o8_, sg_, sc_)) R_ := w4_
            rw [pB3_c (by omega)] at w5_
            refine sm_T_go 1 (c1 := (140, [some (.inr (.inr (some (7, 0)))), some (.inl 1), some (.inl i_), none, some (.inl vx13_)], [.inr (.inr (some (7, 0)))], Sx1_)) rfl ?_
            refine sm_T_calx (d1 := 1) (Q1 := vq_151 md_ o8_ sg_ sc_ k8_ t8_ b_ n_ q_ Sx1_) (Q2 := vx_151 md_ o8_ sg_ sc_ k8_ t8_ b_ n_ q_ Sx1_) rfl rfl (by decide) (vc_151 md_ o8_ sg_ sc_ k8_ t8_ b_ n_ q_ Sx1_ hIx2_ (by exact x77_) (by exact c77_) (by (rw [hop_]; show (1 : Int) ≤ (((if k8_ < 0 then 1 else 0) + o_mk o8_ : Nat) : Int); rw [if_pos (by omega)]; omega))) rfl (fun Sx47_ px50_ => ?_) (fun u_ Sx47_ px50_ => ?_)
            · obtain ⟨hIx48_, hFx49_, px50_⟩ := px50_
              refine Or.inr ⟨_, rfl, hIx48_, ai_fr_tr hFx5_ (fr_le hFx49_ rfl), ?_⟩
              refine ⟨(2, q_), ?_, px50_.2⟩
              rw [if_neg px50_.1] at w5_
              exact w5_
            obtain ⟨rfl, hIx48_, hFx49_, px50_⟩ := px50_
            have hFx51_ : ai_fr (sx_W vw_145) S0_ Sx47_ := ai_fr_tr hFx5_ (fr_le hFx49_ rfl)
            have ex52_ : Sx47_.1 10 0 2 = Sx1_.1 10 0 2 := hFx49_.1 10 0 2 rfl
            have e140_ := px50_
            have c140_ := ct_fr c77_ hFx49_ rfl rfl rfl rfl rfl rfl rfl
            have x140_ : xr md_ o8_ sg_ sc_ Sx47_ := ⟨e140_.2.1, by rw [e140_.2.2, hop_]; show (((if k8_ < 0 then 1 else 0) + o_mk o8_ : Nat) : Int) - 1 = _; rw [if_pos (by omega)]; omega⟩
            rw [if_pos e140_.1] at w5_
            have w140_ := e140_.2.1
            rw [hg8_] at w140_
            have hl8_ : ((k8_, t8_) :: o8_).length = o8_.length + 1 := rfl
            refine sm_T_go 2 (c1 := (147, [some (.inr (.inr (some (7, 0)))), some (.inl 1), some (.inl i_), none, some (.inl vx13_)], [.inl (-2), .inl vx13_], Sx47_)) rfl ?_
            refine sm_T_br (a := 1) (z := 7) rfl (fun cx53_ => ?_) (fun cx53_ => ?_)
            · have cx53_ : vx13_ ≠ (-2) := of_decide_eq_true cx53_
              exfalso; omega
            · have cx53_ : ¬ (vx13_ ≠ (-2)) := of_decide_eq_false cx53_
              refine sm_T_go 1 (c1 := (151, [some (.inr (.inr (some (7, 0)))), some (.inl 1), some (.inl i_), none, some (.inl vx13_)], [.inr (.inr (some (7, 0)))], Sx47_)) rfl ?_
              refine sm_T_cal (d1 := 1) (Q1 := vq_139 md_ o8_ g9_ sc_ z9_ Sx47_) rfl rfl (by decide) (vc_139 md_ o8_ g9_ sc_ z9_ Sx47_ hIx48_ (by exact w140_) (by omega)) (fun u_ Sx54_ px57_ => ?_)
              obtain ⟨rfl, hIx55_, hFx56_, px57_⟩ := px57_
              have hFx58_ : ai_fr (sx_W vw_145) S0_ Sx54_ := ai_fr_tr hFx51_ (fr_le hFx56_ rfl)
              have e151_ := px57_
              have c151_ := ct_fr c140_ hFx56_ rfl rfl rfl rfl rfl rfl rfl
              have x151_ : xr md_ o8_ (p_tn md_ (z9_ :: g9_) sc_).1 (p_tn md_ (z9_ :: g9_) sc_).2 Sx54_ := ⟨e151_, (hFx56_.1 7 0 17 rfl).trans x140_.2⟩
              refine sm_T_go 2 (c1 := (158, [some (.inr (.inr (some (7, 0)))), some (.inl 1), some (.inl i_), none, some (.inl vx13_)], [.inr (.inr (some (10, 0)))], Sx54_)) rfl ?_
              refine sm_T_calx (d1 := 1) (Q1 := vq_191 b_ n_ (lx_en b_ n_ q_) Sx54_) (Q2 := vx_191 b_ n_ (lx_en b_ n_ q_) Sx54_) rfl rfl (by decide) (vc_191 b_ n_ (lx_en b_ n_ q_) Sx54_ hIx55_ (by first | exact c151_.1 | exact c140_.1) (by first | exact c151_.2.1 | exact c140_.2.1) (by exact hn1_) (by first | exact c151_.2.2.2.2.2.2.1 | exact c140_.2.2.2.2.2.2.1) (by exact (lx_en_le (b := b_) hp1_).2)) rfl (fun Sx59_ px62_ => ?_) (fun u_ Sx59_ px62_ => ?_)
              · obtain ⟨hIx60_, hFx61_, px62_⟩ := px62_
                refine Or.inr ⟨_, rfl, hIx60_, ai_fr_tr hFx58_ (fr_le hFx61_ rfl), ?_⟩
                refine ⟨(1, (lx_nx b_ n_ q_)), ?_, px62_.2⟩
                rw [p_ad_x px62_.1] at w5_
                exact w5_
              obtain ⟨rfl, hIx60_, hFx61_, px62_⟩ := px62_
              have hFx63_ : ai_fr (sx_W vw_145) S0_ Sx59_ := ai_fr_tr hFx58_ (fr_le hFx61_ rfl)
              have e158_ := px62_
              have f158_ := hFx61_
              rw [p_ad_c e158_] at w5_
              refine sm_T_go 3 (c1 := (202, [some (.inr (.inr (some (7, 0)))), some (.inl 0), some (.inl i_), none, some (.inl vx13_)], [], Sx59_)) rfl ?_
              refine sm_T_inc (a := 2) (z := 1) (v := i_) (w := i_ + 1) rfl rfl (by omega) (by omega) (by omega) ?_
              refine sm_T_go 1 (c1 := (4, [some (.inr (.inr (some (7, 0)))), some (.inl 0), some (.inl (i_ + 1)), none, some (.inl vx13_)], [], Sx59_)) rfl ?_
              refine sm_T_wk [some (.inr (.inr (some (7, 0)))), some (.inl 0), some (.inl (i_ + 1)), none, none] (by exact ⟨rfl, rfl, rfl, trivial⟩) ?_
              refine ih_.1 0 (i_ + 1) Sx59_ hIx60_ hFx63_ ⟨?_, ?_, trivial⟩ ?_
              · first | (have hf9_ := f158_.1 7 0 14 rfl; first | (have hf8_ : _ = (o8_.length : Int) := x151_.1.1; omega) | (have hf8_ : _ = (o8_.length : Int) := x140_.1.1; omega)) | omega
              · first | (have k1_ := p_ad_ok hp1_ (by omega) (p_ad_c e158_); have k3_ := x_B3 (b_ := b_) (n_ := n_) (p_ := q_) (s_ := ((k8_, t8_) :: o8_, sg_, sc_)) hp1_ k77_.1 ⟨htp_, by show k8_ ≠ -4; omega⟩ (by show sc_.length + ((k8_, t8_) :: o8_).length ≤ 3 * q_; omega) (by rw [pB3_c (by omega), if_pos e140_.1, p_ad_c e158_]; rfl); refine ⟨o8_, _, _, (lx_nx b_ n_ q_), e158_, ?_, k3_.2.1, k3_.2.2.2.2, by omega, Or.inl ⟨rfl, w5_⟩⟩; first | (rw [show decide (k8_ = -2) = true from decide_eq_true (by omega), hg8_]; exact xr_fr x151_ f158_ rfl rfl rfl rfl rfl rfl rfl rfl rfl) | (rw [show decide (k8_ = -2) = false from decide_eq_false (by omega)]; exact xr_fr x140_ f158_ rfl rfl rfl rfl rfl rfl rfl rfl rfl)) | (obtain ⟨t1_, t2_, t3_, t4_⟩ := k77_.1; refine ⟨o8_, z2_ :: g8_, 7 :: sc_, q_, c194_, x194_, ⟨t1_.2.2, ?_, ?_, ?_⟩, ?_, y5_, Or.inr ⟨rfl, ?_, w4_⟩⟩; (have t2_ : 1 + o_mk o8_ ≤ 60 := t2_; show o_mk o8_ ≤ 60; omega); (have t3_ : (z1_ :: z2_ :: z3_ :: g8_).length = 2 + o_hl o8_ + 1 := t3_; show g8_.length + 1 = o_hl o8_ + 1; omega); (exact h_ok_c.mpr ⟨(h_ok_c.mp (h_ok_c.mp t4_).2).1, (h_ok_c.mp (h_ok_c.mp (h_ok_c.mp t4_).2).2).2⟩); (show sc_.length + 1 + o8_.length ≤ 3 * q_; omega); (intro z_; first | omega | cases hm9_))
              · first | (have hf9_ := f158_.1 7 0 14 rfl; first | (have hf8_ : _ = (o8_.length : Int) := x151_.1.1; omega) | (have hf8_ : _ = (o8_.length : Int) := x140_.1.1; omega)) | omega
      · have cx7_ : ¬ ((Sx1_.1 10 0 2) ≠ 63) := of_decide_eq_false cx7_
        refine sm_T_go 1 (c1 := (93, [some (.inr (.inr (some (7, 0)))), none, some (.inl i_), none, none], [.inr (.inr (some (7, 0)))], Sx1_)) rfl ?_
        cases qx64_ : Sx1_.2.1 7 0 11 with
        | none =>
          refine sm_T_gr rfl rfl qx64_ ?_
          have hm9_ : md_ = false := xs_n x77_ qx64_
          refine sm_T_go 3 (c1 := (102, [some (.inr (.inr (some (7, 0)))), none, some (.inl i_), none, none], [.inl (-3), .inr (.inr (some (7, 0)))], Sx1_)) rfl ?_
          refine sm_T_calx (d1 := 1) (Q1 := vq_136 (-3) md_ so_ sg_ sc_ b_ n_ q_ Sx1_) (Q2 := vx_136 (-3) md_ so_ sg_ sc_ b_ n_ q_ Sx1_) rfl rfl (by decide) (vc_136 (-3) md_ so_ sg_ sc_ b_ n_ q_ Sx1_ hIx2_ (by exact xr77_) (by exact c77_) (by decide) (by omega)) rfl (fun Sx66_ px69_ => ?_) (fun u_ Sx66_ px69_ => ?_)
          · obtain ⟨hIx67_, hFx68_, px69_⟩ := px69_
            refine Or.inr ⟨_, rfl, hIx67_, ai_fr_tr hFx5_ (fr_le hFx68_ rfl), ?_⟩
            refine ⟨(3, q_), ?_, px69_.2⟩
            have w3_ := y6_ ⟨hm9_, by omega⟩
            rw [pB2_q ⟨hm9_, by omega⟩ e77_, if_pos px69_.1] at w3_
            exact w3_
          obtain ⟨rfl, hIx67_, hFx68_, px69_⟩ := px69_
          have hFx70_ : ai_fr (sx_W vw_145) S0_ Sx66_ := ai_fr_tr hFx5_ (fr_le hFx68_ rfl)
          have ex71_ : Sx66_.1 10 0 2 = Sx1_.1 10 0 2 := hFx68_.1 10 0 2 rfl
          have e102_ := px69_
          have c102_ := ct_fr c77_ hFx68_ rfl rfl rfl rfl rfl rfl rfl
          have w102_ := e102_.2.1
          rw [hg8_] at w102_
          refine sm_T_go 1 (c1 := (106, [some (.inr (.inr (some (7, 0)))), none, some (.inl i_), none, none], [.inr (.inr (some (7, 0)))], Sx66_)) rfl ?_
          refine sm_T_calx (d1 := 1) (Q1 := vq_149 md_ ((-3, q_) :: so_) g9_ sc_ z9_ b_ n_ q_ Sx66_) (Q2 := vx_149 md_ ((-3, q_) :: so_) g9_ sc_ z9_ b_ n_ q_ Sx66_) rfl rfl (by decide) (vc_149 md_ ((-3, q_) :: so_) g9_ sc_ z9_ b_ n_ q_ Sx66_ hIx67_ (by exact w102_) (by exact c102_) (by omega)) rfl (fun Sx72_ px75_ => ?_) (fun u_ Sx72_ px75_ => ?_)
          · obtain ⟨hIx73_, hFx74_, px75_⟩ := px75_
            refine Or.inr ⟨_, rfl, hIx73_, ai_fr_tr hFx70_ (fr_le hFx74_ rfl), ?_⟩
            refine ⟨(13, q_), ?_, px75_.2⟩
            have w3_ := y6_ ⟨hm9_, by omega⟩
            rw [pB2_q ⟨hm9_, by omega⟩ e77_, if_neg e102_.1, if_pos (by show h_tp sg_ ≠ 1; rw [hg8_]; exact px75_.1)] at w3_
            exact w3_
          obtain ⟨rfl, hIx73_, hFx74_, px75_⟩ := px75_
          have hFx76_ : ai_fr (sx_W vw_145) S0_ Sx72_ := ai_fr_tr hFx70_ (fr_le hFx74_ rfl)
          have e106_ := px75_
          have c106_ := ct_fr c102_ hFx74_ rfl rfl rfl rfl rfl rfl rfl
          have x106_ := xr_fr e102_.2 hFx74_ rfl rfl rfl rfl rfl rfl rfl rfl rfl
          refine sm_T_go 2 (c1 := (113, [some (.inr (.inr (some (7, 0)))), none, some (.inl i_), none, none], [.inr (.inr (some (10, 0)))], Sx72_)) rfl ?_
          refine sm_T_calx (d1 := 1) (Q1 := vq_191 b_ n_ (lx_en b_ n_ q_) Sx72_) (Q2 := vx_191 b_ n_ (lx_en b_ n_ q_) Sx72_) rfl rfl (by decide) (vc_191 b_ n_ (lx_en b_ n_ q_) Sx72_ hIx73_ (by exact c106_.1) (by exact c106_.2.1) (by exact c106_.2.2.1) (by exact c106_.2.2.2.2.2.2.1) (by exact (lx_en_le (b := b_) c106_.2.2.2.1).2)) rfl (fun Sx77_ px80_ => ?_) (fun u_ Sx77_ px80_ => ?_)
          · obtain ⟨hIx78_, hFx79_, px80_⟩ := px80_
            refine Or.inr ⟨_, rfl, hIx78_, ai_fr_tr hFx76_ (fr_le hFx79_ rfl), ?_⟩
            refine ⟨(1, (lx_nx b_ n_ q_)), ?_, px80_.2⟩
            have w3_ := y6_ ⟨hm9_, by omega⟩
            rw [pB2_q ⟨hm9_, by omega⟩ e77_, if_neg e102_.1, if_neg (by show ¬ h_tp sg_ ≠ 1; rw [hg8_, e106_]; exact fun z_ => z_ rfl), p_ad_x px80_.1] at w3_
            exact w3_
          obtain ⟨rfl, hIx78_, hFx79_, px80_⟩ := px80_
          have hFx81_ : ai_fr (sx_W vw_145) S0_ Sx77_ := ai_fr_tr hFx76_ (fr_le hFx79_ rfl)
          have e113_ := px80_
          have f113_ := hFx79_
          refine sm_T_go 1 (c1 := (117, [some (.inr (.inr (some (7, 0)))), none, some (.inl i_), none, none], [.inl 1], Sx77_)) rfl ?_
          refine sm_T_rz rfl (by omega) (Or.inl ⟨_, _, rfl, _, rfl, hIx78_, hFx81_, ?_⟩)
          have k1_ := p_ad_ok hp1_ (by omega) (p_ad_c e113_)
          have hb2_ : p_B2 b_ n_ md_ q_ (o1_, g1_, c1_) = .inr (.inl (0, false, (lx_nx b_ n_ q_), (-3, q_) :: so_, sg_, sc_)) := by rw [pB2_q ⟨hm9_, by omega⟩ e77_, if_neg e102_.1, if_neg (by show ¬ h_tp sg_ ≠ 1; rw [hg8_, e106_]; exact fun z_ => z_ rfl), p_ad_c e113_]; rfl
          have w3_ := y6_ ⟨hm9_, by omega⟩
          rw [hb2_] at w3_
          left
          exact ⟨rfl, _, _, _, lx_nx b_ n_ q_, e113_, xr_fr x106_ f113_ rfl rfl rfl rfl rfl rfl rfl rfl rfl, x_B2 hn1_ hp1_ y3_ y4_ hb2_, w3_, by omega⟩
        | some jx65_ =>
          refine sm_T_gr rfl rfl qx64_ ?_
          have hm9_ : md_ = true := xs_s x77_ qx64_
          have w4_ := w2_ (fun z_ => by rw [hm9_] at z_; cases z_.1)
          refine sm_T_go 4 (c1 := (121, [some (.inr (.inr (some (7, 0)))), some (.inl 1), some (.inl i_), none, none], [.inr (.inr (some (7, 0)))], Sx1_)) rfl ?_
          refine sm_T_cal (d1 := 0) (Q1 := vq_147 md_ so_ sg_ sc_ Sx1_) rfl rfl (by decide) (vc_147 md_ so_ sg_ sc_ Sx1_ hIx2_ (by exact x77_)) (fun u_ Sx82_ px85_ => ?_)
          obtain ⟨rfl, vx87_, rfl, px85_⟩ := px85_
          have e121_ := px85_
          have t5_ : -4 ≤ o_tp so_ ∧ o_tp so_ ≤ 5 := o_tp5 k77_.1.1
          refine sm_T_go 3 (c1 := (129, [some (.inr (.inr (some (7, 0)))), some (.inl 1), some (.inl i_), none, some (.inl vx87_)], [.inl (-1), .inl vx87_], Sx1_)) rfl ?_
          refine sm_T_br (a := 0) (z := 10) rfl (fun cx88_ => ?_) (fun cx88_ => ?_)
          · have cx88_ : vx87_ = (-1) := of_decide_eq_true cx88_
            obtain ⟨k8_, t8_, o8_, rfl, e8_⟩ := o_tp_c (o_ := so_) (by omega)
            rw [p_sa_st htp_ (by omega)] at w4_
            have w5_ : p_yy b_ n_ md_ pr_ (p_B3 b_ n_ md_ q_ ((k8_, t8_) :: o8_, sg_, sc_)) R_ := w4_
            rw [pB3_c (by omega)] at w5_
            refine sm_T_go 1 (c1 := (140, [some (.inr (.inr (some (7, 0)))), some (.inl 1), some (.inl i_), none, some (.inl vx87_)], [.inr (.inr (some (7, 0)))], Sx1_)) rfl ?_
            refine sm_T_calx (d1 := 1) (Q1 := vq_151 md_ o8_ sg_ sc_ k8_ t8_ b_ n_ q_ Sx1_) (Q2 := vx_151 md_ o8_ sg_ sc_ k8_ t8_ b_ n_ q_ Sx1_) rfl rfl (by decide) (vc_151 md_ o8_ sg_ sc_ k8_ t8_ b_ n_ q_ Sx1_ hIx2_ (by exact x77_) (by exact c77_) (by (rw [hop_]; show (1 : Int) ≤ (((if k8_ < 0 then 1 else 0) + o_mk o8_ : Nat) : Int); rw [if_pos (by omega)]; omega))) rfl (fun Sx89_ px92_ => ?_) (fun u_ Sx89_ px92_ => ?_)
            · obtain ⟨hIx90_, hFx91_, px92_⟩ := px92_
              refine Or.inr ⟨_, rfl, hIx90_, ai_fr_tr hFx5_ (fr_le hFx91_ rfl), ?_⟩
              refine ⟨(2, q_), ?_, px92_.2⟩
              rw [if_neg px92_.1] at w5_
              exact w5_
            obtain ⟨rfl, hIx90_, hFx91_, px92_⟩ := px92_
            have hFx93_ : ai_fr (sx_W vw_145) S0_ Sx89_ := ai_fr_tr hFx5_ (fr_le hFx91_ rfl)
            have ex94_ : Sx89_.1 10 0 2 = Sx1_.1 10 0 2 := hFx91_.1 10 0 2 rfl
            have e140_ := px92_
            have c140_ := ct_fr c77_ hFx91_ rfl rfl rfl rfl rfl rfl rfl
            have x140_ : xr md_ o8_ sg_ sc_ Sx89_ := ⟨e140_.2.1, by rw [e140_.2.2, hop_]; show (((if k8_ < 0 then 1 else 0) + o_mk o8_ : Nat) : Int) - 1 = _; rw [if_pos (by omega)]; omega⟩
            rw [if_pos e140_.1] at w5_
            have w140_ := e140_.2.1
            rw [hg8_] at w140_
            have hl8_ : ((k8_, t8_) :: o8_).length = o8_.length + 1 := rfl
            refine sm_T_go 2 (c1 := (147, [some (.inr (.inr (some (7, 0)))), some (.inl 1), some (.inl i_), none, some (.inl vx87_)], [.inl (-2), .inl vx87_], Sx89_)) rfl ?_
            refine sm_T_br (a := 1) (z := 7) rfl (fun cx95_ => ?_) (fun cx95_ => ?_)
            · have cx95_ : vx87_ ≠ (-2) := of_decide_eq_true cx95_
              refine sm_T_go 2 (c1 := (158, [some (.inr (.inr (some (7, 0)))), some (.inl 1), some (.inl i_), none, some (.inl vx87_)], [.inr (.inr (some (10, 0)))], Sx89_)) rfl ?_
              refine sm_T_calx (d1 := 1) (Q1 := vq_191 b_ n_ (lx_en b_ n_ q_) Sx89_) (Q2 := vx_191 b_ n_ (lx_en b_ n_ q_) Sx89_) rfl rfl (by decide) (vc_191 b_ n_ (lx_en b_ n_ q_) Sx89_ hIx90_ (by first | exact c151_.1 | exact c140_.1) (by first | exact c151_.2.1 | exact c140_.2.1) (by exact hn1_) (by first | exact c151_.2.2.2.2.2.2.1 | exact c140_.2.2.2.2.2.2.1) (by exact (lx_en_le (b := b_) hp1_).2)) rfl (fun Sx96_ px99_ => ?_) (fun u_ Sx96_ px99_ => ?_)
              · obtain ⟨hIx97_, hFx98_, px99_⟩ := px99_
                refine Or.inr ⟨_, rfl, hIx97_, ai_fr_tr hFx93_ (fr_le hFx98_ rfl), ?_⟩
                refine ⟨(1, (lx_nx b_ n_ q_)), ?_, px99_.2⟩
                rw [p_ad_x px99_.1] at w5_
                exact w5_
              obtain ⟨rfl, hIx97_, hFx98_, px99_⟩ := px99_
              have hFx100_ : ai_fr (sx_W vw_145) S0_ Sx96_ := ai_fr_tr hFx93_ (fr_le hFx98_ rfl)
              have e158_ := px99_
              have f158_ := hFx98_
              rw [p_ad_c e158_] at w5_
              refine sm_T_go 3 (c1 := (202, [some (.inr (.inr (some (7, 0)))), some (.inl 0), some (.inl i_), none, some (.inl vx87_)], [], Sx96_)) rfl ?_
              refine sm_T_inc (a := 2) (z := 1) (v := i_) (w := i_ + 1) rfl rfl (by omega) (by omega) (by omega) ?_
              refine sm_T_go 1 (c1 := (4, [some (.inr (.inr (some (7, 0)))), some (.inl 0), some (.inl (i_ + 1)), none, some (.inl vx87_)], [], Sx96_)) rfl ?_
              refine sm_T_wk [some (.inr (.inr (some (7, 0)))), some (.inl 0), some (.inl (i_ + 1)), none, none] (by exact ⟨rfl, rfl, rfl, trivial⟩) ?_
              refine ih_.1 0 (i_ + 1) Sx96_ hIx97_ hFx100_ ⟨?_, ?_, trivial⟩ ?_
              · first | (have hf9_ := f158_.1 7 0 14 rfl; first | (have hf8_ : _ = (o8_.length : Int) := x151_.1.1; omega) | (have hf8_ : _ = (o8_.length : Int) := x140_.1.1; omega)) | omega
              · first | (have k1_ := p_ad_ok hp1_ (by omega) (p_ad_c e158_); have k3_ := x_B3 (b_ := b_) (n_ := n_) (p_ := q_) (s_ := ((k8_, t8_) :: o8_, sg_, sc_)) hp1_ k77_.1 ⟨htp_, by show k8_ ≠ -4; omega⟩ (by show sc_.length + ((k8_, t8_) :: o8_).length ≤ 3 * q_; omega) (by rw [pB3_c (by omega), if_pos e140_.1, p_ad_c e158_]; rfl); refine ⟨o8_, _, _, (lx_nx b_ n_ q_), e158_, ?_, k3_.2.1, k3_.2.2.2.2, by omega, Or.inl ⟨rfl, w5_⟩⟩; first | (rw [show decide (k8_ = -2) = true from decide_eq_true (by omega), hg8_]; exact xr_fr x151_ f158_ rfl rfl rfl rfl rfl rfl rfl rfl rfl) | (rw [show decide (k8_ = -2) = false from decide_eq_false (by omega)]; exact xr_fr x140_ f158_ rfl rfl rfl rfl rfl rfl rfl rfl rfl)) | (obtain ⟨t1_, t2_, t3_, t4_⟩ := k77_.1; refine ⟨o8_, z2_ :: g8_, 7 :: sc_, q_, c194_, x194_, ⟨t1_.2.2, ?_, ?_, ?_⟩, ?_, y5_, Or.inr ⟨rfl, ?_, w4_⟩⟩; (have t2_ : 1 + o_mk o8_ ≤ 60 := t2_; show o_mk o8_ ≤ 60; omega); (have t3_ : (z1_ :: z2_ :: z3_ :: g8_).length = 2 + o_hl o8_ + 1 := t3_; show g8_.length + 1 = o_hl o8_ + 1; omega); (exact h_ok_c.mpr ⟨(h_ok_c.mp (h_ok_c.mp t4_).2).1, (h_ok_c.mp (h_ok_c.mp (h_ok_c.mp t4_).2).2).2⟩); (show sc_.length + 1 + o8_.length ≤ 3 * q_; omega); (intro z_; first | omega | cases hm9_))
              · first | (have hf9_ := f158_.1 7 0 14 rfl; first | (have hf8_ : _ = (o8_.length : Int) := x151_.1.1; omega) | (have hf8_ : _ = (o8_.length : Int) := x140_.1.1; omega)) | omega
            · have cx95_ : ¬ (vx87_ ≠ (-2)) := of_decide_eq_false cx95_
              exfalso; omega
          · have cx88_ : ¬ (vx87_ = (-1)) := of_decide_eq_false cx88_
            refine sm_T_go 2 (c1 := (136, [some (.inr (.inr (some (7, 0)))), some (.inl 1), some (.inl i_), none, some (.inl vx87_)], [.inl (-2), .inl vx87_], Sx1_)) rfl ?_
            refine sm_T_br (a := 1) (z := 30) rfl (fun cx101_ => ?_) (fun cx101_ => ?_)
            · have cx101_ : vx87_ ≠ (-2) := of_decide_eq_true cx101_
              refine sm_T_go 2 (c1 := (170, [some (.inr (.inr (some (7, 0)))), some (.inl 1), some (.inl i_), none, some (.inl vx87_)], [.inl (-3), .inl vx87_], Sx1_)) rfl ?_
              refine sm_T_br (a := 1) (z := 16) rfl (fun cx102_ => ?_) (fun cx102_ => ?_)
              · have cx102_ : vx87_ ≠ (-3) := of_decide_eq_true cx102_
                refine sm_T_go 2 (c1 := (190, [some (.inr (.inr (some (7, 0)))), some (.inl 1), some (.inl i_), none, some (.inl vx87_)], [.inl (-4), .inl vx87_], Sx1_)) rfl ?_
                refine sm_T_br (a := 1) (z := 10) rfl (fun cx103_ => ?_) (fun cx103_ => ?_)
                · have cx103_ : vx87_ ≠ (-4) := of_decide_eq_true cx103_
                  refine sm_T_go 1 (c1 := (201, [some (.inr (.inr (some (7, 0)))), some (.inl 1), some (.inl i_), none, some (.inl vx87_)], [.inl 0], Sx1_)) rfl ?_
                  refine sm_T_rz rfl (by omega) (Or.inl ⟨_, _, rfl, _, rfl, hIx2_, hFx5_, ?_⟩)
                  have so0_ := o_tp_0 k77_.1.1 (by show o_tp so_ = 0; omega)
                  have so0_ : so_ = [] := so0_
                  subst so0_
                  right
                  have w6_ : p_yy b_ n_ md_ pr_ (.inr (.inr (q_, sg_, sc_))) R_ := w4_
                  refine ⟨rfl, sg_, sc_, q_, c77_, xr77_, w6_, by rw [hgl_]; rfl, y5_, ?_⟩
                  have hls2_ : sc_.length + 0 ≤ c1_.length + o1_.length := hls_
                  omega
                · have cx103_ : ¬ (vx87_ ≠ (-4)) := of_decide_eq_false cx103_
                  obtain ⟨k8_, t8_, o8_, rfl, e8_⟩ := o_tp_c (o_ := so_) (by omega)
                  have k84_ : k8_ = -4 := by omega
                  subst k84_
                  have hm8_ := o_md k77_.1.1
                  subst hm8_
                  obtain ⟨z1_, z2_, z3_, g8_, hg7_⟩ := s_ok_3 k77_.1
                  subst hg7_
                  have hl8_ : ((-4, t8_) :: o8_ : List (Int × Nat)).length = o8_.length + 1 := rfl
                  have hl9_ : (z1_ :: z2_ :: z3_ :: g8_).length = g8_.length + 3 := rfl
                  refine sm_T_go 1 (c1 := (194, [some (.inr (.inr (some (7, 0)))), some (.inl 1), some (.inl i_), none, some (.inl vx87_)], [.inr (.inr (some (7, 0)))], Sx1_)) rfl ?_
                  refine sm_T_calx (d1 := 1) (Q1 := vq_152 o8_ g8_ sc_ (-4) t8_ z1_ z2_ z3_ Sx1_) (Q2 := vx_152 o8_ g8_ sc_ (-4) t8_ z1_ z2_ z3_ Sx1_) rfl rfl (by decide) (vc_152 o8_ g8_ sc_ (-4) t8_ z1_ z2_ z3_ Sx1_ hIx2_ (by exact x77_) (by (rw [hop_]; show (1 : Int) ≤ ((1 + o_mk o8_ : Nat) : Int); omega)) (by omega) (by omega) (by omega) (by exact k77_.1.1.2.1)) rfl (fun Sx104_ px107_ => ?_) (fun u_ Sx104_ px107_ => ?_)
                  · obtain ⟨hIx105_, hFx106_, px107_⟩ := px107_
                    refine Or.inr ⟨_, rfl, hIx105_, ai_fr_tr hFx5_ (fr_le hFx106_ rfl), ?_⟩
                    refine ⟨(13, t8_), ?_, px107_.2⟩
                    rw [p_sa_cx px107_.1] at w4_
                    exact w4_
                  obtain ⟨rfl, hIx105_, hFx106_, px107_⟩ := px107_
                  have hFx108_ : ai_fr (sx_W vw_145) S0_ Sx104_ := ai_fr_tr hFx5_ (fr_le hFx106_ rfl)
                  have ex109_ : Sx104_.1 10 0 2 = Sx1_.1 10 0 2 := hFx106_.1 10 0 2 rfl
                  have e194_ := px107_
                  have c194_ := ct_fr c77_ hFx106_ rfl rfl rfl rfl rfl rfl rfl
                  have x194_ : xr false o8_ (z2_ :: g8_) (7 :: sc_) Sx104_ := ⟨e194_.2.1, by rw [e194_.2.2, hop_]; show ((1 + o_mk o8_ : Nat) : Int) - 1 = _; omega⟩
                  rw [p_sa_ch e194_.1] at w4_
                  have hxl9_ : Sx104_.1 7 0 14 = (o8_.length : Int) := e194_.2.1.1
                  refine sm_T_go 1 (c1 := (202, [some (.inr (.inr (some (7, 0)))), some (.inl 1), some (.inl i_), none, some (.inl vx87_)], [], Sx104_)) rfl ?_
                  refine sm_T_inc (a := 2) (z := 1) (v := i_) (w := i_ + 1) rfl rfl (by omega) (by omega) (by omega) ?_
                  refine sm_T_go 1 (c1 := (4, [some (.inr (.inr (some (7, 0)))), some (.inl 1), some (.inl (i_ + 1)), none, some (.inl vx87_)], [], Sx104_)) rfl ?_
                  refine sm_T_wk [some (.inr (.inr (some (7, 0)))), some (.inl 1), some (.inl (i_ + 1)), none, none] (by exact ⟨rfl, rfl, rfl, trivial⟩) ?_
                  refine ih_.1 1 (i_ + 1) Sx104_ hIx105_ hFx108_ ⟨?_, ?_, trivial⟩ ?_
                  · first | (have hf9_ := f158_.1 7 0 14 rfl; first | (have hf8_ : _ = (o8_.length : Int) := x151_.1.1; omega) | (have hf8_ : _ = (o8_.length : Int) := x140_.1.1; omega)) | omega
                  · first | (have k1_ := p_ad_ok hp1_ (by omega) (p_ad_c e158_); have k3_ := x_B3 (b_ := b_) (n_ := n_) (p_ := q_) (s_ := ((k8_, t8_) :: o8_, sg_, sc_)) hp1_ k77_.1 ⟨htp_, by show k8_ ≠ -4; omega⟩ (by show sc_.length + ((k8_, t8_) :: o8_).length ≤ 3 * q_; omega) (by rw [pB3_c (by omega), if_pos e140_.1, p_ad_c e158_]; rfl); refine ⟨o8_, _, _, (lx_nx b_ n_ q_), e158_, ?_, k3_.2.1, k3_.2.2.2.2, by omega, Or.inl ⟨rfl, w5_⟩⟩; first | (rw [show decide (k8_ = -2) = true from decide_eq_true (by omega), hg8_]; exact xr_fr x151_ f158_ rfl rfl rfl rfl rfl rfl rfl rfl rfl) | (rw [show decide (k8_ = -2) = false from decide_eq_false (by omega)]; exact xr_fr x140_ f158_ rfl rfl rfl rfl rfl rfl rfl rfl rfl)) | (obtain ⟨t1_, t2_, t3_, t4_⟩ := k77_.1; refine ⟨o8_, z2_ :: g8_, 7 :: sc_, q_, c194_, x194_, ⟨t1_.2.2, ?_, ?_, ?_⟩, ?_, y5_, Or.inr ⟨rfl, ?_, w4_⟩⟩; (have t2_ : 1 + o_mk o8_ ≤ 60 := t2_; show o_mk o8_ ≤ 60; omega); (have t3_ : (z1_ :: z2_ :: z3_ :: g8_).length = 2 + o_hl o8_ + 1 := t3_; show g8_.length + 1 = o_hl o8_ + 1; omega); (exact h_ok_c.mpr ⟨(h_ok_c.mp (h_ok_c.mp t4_).2).1, (h_ok_c.mp (h_ok_c.mp (h_ok_c.mp t4_).2).2).2⟩); (show sc_.length + 1 + o8_.length ≤ 3 * q_; omega); (intro z_; first | omega | cases hm9_))
                  · first | (have hf9_ := f158_.1 7 0 14 rfl; first | (have hf8_ : _ = (o8_.length : Int) := x151_.1.1; omega) | (have hf8_ : _ = (o8_.length : Int) := x140_.1.1; omega)) | omega
              · have cx102_ : ¬ (vx87_ ≠ (-3)) := of_decide_eq_false cx102_
                obtain ⟨k8_, t8_, o8_, rfl, e8_⟩ := o_tp_c (o_ := so_) (by omega)
                have k83_ : k8_ = -3 := by omega
                subst k83_
                rw [p_sa_st htp_ (by omega)] at w4_
                have w5_ : p_yy b_ n_ md_ pr_ (p_B3 b_ n_ md_ q_ ((-3, t8_) :: o8_, sg_, sc_)) R_ := w4_
                rw [pB3_q] at w5_
                have hl8_ : ((-3, t8_) :: o8_ : List (Int × Nat)).length = o8_.length + 1 := rfl
                refine sm_T_go 1 (c1 := (174, [some (.inr (.inr (some (7, 0)))), some (.inl 1), some (.inl i_), none, some (.inl vx87_)], [.inr (.inr (some (7, 0)))], Sx1_)) rfl ?_
                refine sm_T_calx (d1 := 1) (Q1 := vq_150 md_ o8_ sg_ sc_ t8_ b_ n_ q_ Sx1_) (Q2 := vx_150 md_ o8_ sg_ sc_ t8_ b_ n_ q_ Sx1_) rfl rfl (by decide) (vc_150 md_ o8_ sg_ sc_ t8_ b_ n_ q_ Sx1_ hIx2_ (by exact x77_) (by exact c77_) (by omega)) rfl (fun Sx110_ px113_ => ?_) (fun u_ Sx110_ px113_ => ?_)
                · obtain ⟨hIx111_, hFx112_, px113_⟩ := px113_
                  refine Or.inr ⟨_, rfl, hIx111_, ai_fr_tr hFx5_ (fr_le hFx112_ rfl), ?_⟩
                  refine ⟨(2, q_), ?_, px113_.2⟩
                  rw [if_neg px113_.1] at w5_
                  exact w5_
                obtain ⟨rfl, hIx111_, hFx112_, px113_⟩ := px113_
                have hFx114_ : ai_fr (sx_W vw_145) S0_ Sx110_ := ai_fr_tr hFx5_ (fr_le hFx112_ rfl)
                have ex115_ : Sx110_.1 10 0 2 = Sx1_.1 10 0 2 := hFx112_.1 10 0 2 rfl
                have e174_ := px113_
                have c174_ := ct_fr c77_ hFx112_ rfl rfl rfl rfl rfl rfl rfl
                have x174_ : xr md_ ((-4, t8_) :: o8_) sg_ sc_ Sx110_ := ⟨e174_.2, (hFx112_.1 7 0 17 rfl).trans (hop_.trans rfl)⟩
                rw [if_pos e174_.1] at w5_
                refine sm_T_go 2 (c1 := (181, [some (.inr (.inr (some (7, 0)))), some (.inl 1), some (.inl i_), none, some (.inl vx87_)], [.inr (.inr (some (10, 0)))], Sx110_)) rfl ?_
                refine sm_T_calx (d1 := 1) (Q1 := vq_191 b_ n_ (lx_en b_ n_ q_) Sx110_) (Q2 := vx_191 b_ n_ (lx_en b_ n_ q_) Sx110_) rfl rfl (by decide) (vc_191 b_ n_ (lx_en b_ n_ q_) Sx110_ hIx111_ (by exact c174_.1) (by exact c174_.2.1) (by exact c174_.2.2.1) (by exact c174_.2.2.2.2.2.2.1) (by exact (lx_en_le (b := b_) c174_.2.2.2.1).2)) rfl (fun Sx116_ px119_ => ?_) (fun u_ Sx116_ px119_ => ?_)
                · obtain ⟨hIx117_, hFx118_, px119_⟩ := px119_
                  refine Or.inr ⟨_, rfl, hIx117_, ai_fr_tr hFx114_ (fr_le hFx118_ rfl), ?_⟩
                  refine ⟨(1, (lx_nx b_ n_ q_)), ?_, px119_.2⟩
                  rw [p_ad_x px119_.1] at w5_
                  exact w5_
                obtain ⟨rfl, hIx117_, hFx118_, px119_⟩ := px119_
                have hFx120_ : ai_fr (sx_W vw_145) S0_ Sx116_ := ai_fr_tr hFx114_ (fr_le hFx118_ rfl)
                have e181_ := px119_
                have f181_ := hFx118_
                rw [p_ad_c e181_] at w5_
                refine sm_T_go 1 (c1 := (185, [some (.inr (.inr (some (7, 0)))), some (.inl 1), some (.inl i_), none, some (.inl vx87_)], [.inl 1], Sx116_)) rfl ?_
                refine sm_T_rz rfl (by omega) (Or.inl ⟨_, _, rfl, _, rfl, hIx117_, hFx120_, ?_⟩)
                have k1_ := p_ad_ok hp1_ (by omega) (p_ad_c e181_)
                left
                refine ⟨rfl, _, _, _, lx_nx b_ n_ q_, e181_, xr_fr x174_ f181_ rfl rfl rfl rfl rfl rfl rfl rfl rfl, x_B3 (b_ := b_) (n_ := n_) (p_ := q_) (s_ := ((-3, t8_) :: o8_, sg_, sc_)) hp1_ k77_.1 ⟨htp_, by show (-3 : Int) ≠ -4; decide⟩ (by show sc_.length + ((-3, t8_) :: o8_ : List (Int × Nat)).length ≤ 3 * q_; omega) (by rw [pB3_q, if_pos e174_.1, p_ad_c e181_]; rfl), w5_, by omega⟩
            · have cx101_ : ¬ (vx87_ ≠ (-2)) := of_decide_eq_false cx101_
              obtain ⟨k8_, t8_, o8_, rfl, e8_⟩ := o_tp_c (o_ := so_) (by omega)
              rw [p_sa_st htp_ (by omega)] at w4_
              have w5_ : p_yy b_ n_ md_ pr_ (p_B3 b_ n_ md_ q_ ((k8_, t8_) :: o8_, sg_, sc_)) R_ := w4_
              rw [pB3_c (by omega)] at w5_
              refine sm_T_go 1 (c1 := (140, [some (.inr (.inr (some (7, 0)))), some (.inl 1), some (.inl i_), none, some (.inl vx87_)], [.inr (.inr (some (7, 0)))], Sx1_)) rfl ?_
              refine sm_T_calx (d1 := 1) (Q1 := vq_151 md_ o8_ sg_ sc_ k8_ t8_ b_ n_ q_ Sx1_) (Q2 := vx_151 md_ o8_ sg_ sc_ k8_ t8_ b_ n_ q_ Sx1_) rfl rfl (by decide) (vc_151 md_ o8_ sg_ sc_ k8_ t8_ b_ n_ q_ Sx1_ hIx2_ (by exact x77_) (by exact c77_) (by (rw [hop_]; show (1 : Int) ≤ (((if k8_ < 0 then 1 else 0) + o_mk o8_ : Nat) : Int); rw [if_pos (by omega)]; omega))) rfl (fun Sx121_ px124_ => ?_) (fun u_ Sx121_ px124_ => ?_)
              · obtain ⟨hIx122_, hFx123_, px124_⟩ := px124_
                refine Or.inr ⟨_, rfl, hIx122_, ai_fr_tr hFx5_ (fr_le hFx123_ rfl), ?_⟩
                refine ⟨(2, q_), ?_, px124_.2⟩
                rw [if_neg px124_.1] at w5_
                exact w5_
              obtain ⟨rfl, hIx122_, hFx123_, px124_⟩ := px124_
              have hFx125_ : ai_fr (sx_W vw_145) S0_ Sx121_ := ai_fr_tr hFx5_ (fr_le hFx123_ rfl)
              have ex126_ : Sx121_.1 10 0 2 = Sx1_.1 10 0 2 := hFx123_.1 10 0 2 rfl
              have e140_ := px124_
              have c140_ := ct_fr c77_ hFx123_ rfl rfl rfl rfl rfl rfl rfl
              have x140_ : xr md_ o8_ sg_ sc_ Sx121_ := ⟨e140_.2.1, by rw [e140_.2.2, hop_]; show (((if k8_ < 0 then 1 else 0) + o_mk o8_ : Nat) : Int) - 1 = _; rw [if_pos (by omega)]; omega⟩
              rw [if_pos e140_.1] at w5_
              have w140_ := e140_.2.1
              rw [hg8_] at w140_
              have hl8_ : ((k8_, t8_) :: o8_).length = o8_.length + 1 := rfl
              refine sm_T_go 2 (c1 := (147, [some (.inr (.inr (some (7, 0)))), some (.inl 1), some (.inl i_), none, some (.inl vx87_)], [.inl (-2), .inl vx87_], Sx121_)) rfl ?_
              refine sm_T_br (a := 1) (z := 7) rfl (fun cx127_ => ?_) (fun cx127_ => ?_)
              · have cx127_ : vx87_ ≠ (-2) := of_decide_eq_true cx127_
                exfalso; omega
              · have cx127_ : ¬ (vx87_ ≠ (-2)) := of_decide_eq_false cx127_
                refine sm_T_go 1 (c1 := (151, [some (.inr (.inr (some (7, 0)))), some (.inl 1), some (.inl i_), none, some (.inl vx87_)], [.inr (.inr (some (7, 0)))], Sx121_)) rfl ?_
                refine sm_T_cal (d1 := 1) (Q1 := vq_139 md_ o8_ g9_ sc_ z9_ Sx121_) rfl rfl (by decide) (vc_139 md_ o8_ g9_ sc_ z9_ Sx121_ hIx122_ (by exact w140_) (by omega)) (fun u_ Sx128_ px131_ => ?_)
                obtain ⟨rfl, hIx129_, hFx130_, px131_⟩ := px131_
                have hFx132_ : ai_fr (sx_W vw_145) S0_ Sx128_ := ai_fr_tr hFx125_ (fr_le hFx130_ rfl)
                have e151_ := px131_
                have c151_ := ct_fr c140_ hFx130_ rfl rfl rfl rfl rfl rfl rfl
                have x151_ : xr md_ o8_ (p_tn md_ (z9_ :: g9_) sc_).1 (p_tn md_ (z9_ :: g9_) sc_).2 Sx128_ := ⟨e151_, (hFx130_.1 7 0 17 rfl).trans x140_.2⟩
                refine sm_T_go 2 (c1 := (158, [some (.inr (.inr (some (7, 0)))), some (.inl 1), some (.inl i_), none, some (.inl vx87_)], [.inr (.inr (some (10, 0)))], Sx128_)) rfl ?_
                refine sm_T_calx (d1 := 1) (Q1 := vq_191 b_ n_ (lx_en b_ n_ q_) Sx128_) (Q2 := vx_191 b_ n_ (lx_en b_ n_ q_) Sx128_) rfl rfl (by decide) (vc_191 b_ n_ (lx_en b_ n_ q_) Sx128_ hIx129_ (by first | exact c151_.1 | exact c140_.1) (by first | exact c151_.2.1 | exact c140_.2.1) (by exact hn1_) (by first | exact c151_.2.2.2.2.2.2.1 | exact c140_.2.2.2.2.2.2.1) (by exact (lx_en_le (b := b_) hp1_).2)) rfl (fun Sx133_ px136_ => ?_) (fun u_ Sx133_ px136_ => ?_)
                · obtain ⟨hIx134_, hFx135_, px136_⟩ := px136_
                  refine Or.inr ⟨_, rfl, hIx134_, ai_fr_tr hFx132_ (fr_le hFx135_ rfl), ?_⟩
                  refine ⟨(1, (lx_nx b_ n_ q_)), ?_, px136_.2⟩
                  rw [p_ad_x px136_.1] at w5_
                  exact w5_
                obtain ⟨rfl, hIx134_, hFx135_, px136_⟩ := px136_
                have hFx137_ : ai_fr (sx_W vw_145) S0_ Sx133_ := ai_fr_tr hFx132_ (fr_le hFx135_ rfl)
                have e158_ := px136_
                have f158_ := hFx135_
                rw [p_ad_c e158_] at w5_
                refine sm_T_go 3 (c1 := (202, [some (.inr (.inr (some (7, 0)))), some (.inl 0), some (.inl i_), none, some (.inl vx87_)], [], Sx133_)) rfl ?_
                refine sm_T_inc (a := 2) (z := 1) (v := i_) (w := i_ + 1) rfl rfl (by omega) (by omega) (by omega) ?_
                refine sm_T_go 1 (c1 := (4, [some (.inr (.inr (some (7, 0)))), some (.inl 0), some (.inl (i_ + 1)), none, some (.inl vx87_)], [], Sx133_)) rfl ?_
                refine sm_T_wk [some (.inr (.inr (some (7, 0)))), some (.inl 0), some (.inl (i_ + 1)), none, none] (by exact ⟨rfl, rfl, rfl, trivial⟩) ?_
                refine ih_.1 0 (i_ + 1) Sx133_ hIx134_ hFx137_ ⟨?_, ?_, trivial⟩ ?_
                · first | (have hf9_ := f158_.1 7 0 14 rfl; first | (have hf8_ : _ = (o8_.length : Int) := x151_.1.1; omega) | (have hf8_ : _ = (o8_.length : Int) := x140_.1.1; omega)) | omega
                · first | (have k1_ := p_ad_ok hp1_ (by omega) (p_ad_c e158_); have k3_ := x_B3 (b_ := b_) (n_ := n_) (p_ := q_) (s_ := ((k8_, t8_) :: o8_, sg_, sc_)) hp1_ k77_.1 ⟨htp_, by show k8_ ≠ -4; omega⟩ (by show sc_.length + ((k8_, t8_) :: o8_).length ≤ 3 * q_; omega) (by rw [pB3_c (by omega), if_pos e140_.1, p_ad_c e158_]; rfl); refine ⟨o8_, _, _, (lx_nx b_ n_ q_), e158_, ?_, k3_.2.1, k3_.2.2.2.2, by omega, Or.inl ⟨rfl, w5_⟩⟩; first | (rw [show decide (k8_ = -2) = true from decide_eq_true (by omega), hg8_]; exact xr_fr x151_ f158_ rfl rfl rfl rfl rfl rfl rfl rfl rfl) | (rw [show decide (k8_ = -2) = false from decide_eq_false (by omega)]; exact xr_fr x140_ f158_ rfl rfl rfl rfl rfl rfl rfl rfl rfl)) | (obtain ⟨t1_, t2_, t3_, t4_⟩ := k77_.1; refine ⟨o8_, z2_ :: g8_, 7 :: sc_, q_, c194_, x194_, ⟨t1_.2.2, ?_, ?_, ?_⟩, ?_, y5_, Or.inr ⟨rfl, ?_, w4_⟩⟩; (have t2_ : 1 + o_mk o8_ ≤ 60 := t2_; show o_mk o8_ ≤ 60; omega); (have t3_ : (z1_ :: z2_ :: z3_ :: g8_).length = 2 + o_hl o8_ + 1 := t3_; show g8_.length + 1 = o_hl o8_ + 1; omega); (exact h_ok_c.mpr ⟨(h_ok_c.mp (h_ok_c.mp t4_).2).1, (h_ok_c.mp (h_ok_c.mp (h_ok_c.mp t4_).2).2).2⟩); (show sc_.length + 1 + o8_.length ≤ 3 * q_; omega); (intro z_; first | omega | cases hm9_))
                · first | (have hf9_ := f158_.1 7 0 14 rfl; first | (have hf8_ : _ = (o8_.length : Int) := x151_.1.1; omega) | (have hf8_ : _ = (o8_.length : Int) := x140_.1.1; omega)) | omega
set_option maxHeartbeats 2000000 in
set_option maxRecDepth 20000 in
theorem vc_145 {sc_ : Nat × (Nat → Int)} (b_ : Nat → Int) (n_ : Nat) (md_ : Bool) (pr_ : pPr) (R_ : pE pR) (o_ : List (Int × Nat)) (g_ : List Int) (c_ : List Int) (p_ : Nat) (S0_ : sm_S) (hI_ : gi S0_) (hx_ : xr md_ o_ g_ c_ S0_) (hc_ : ct b_ n_ p_ S0_) (hpr_ : pr_ok b_ n_ pr_) (hok_ : x_ok b_ n_ md_ (1, false, p_, o_, g_, c_)) (hR_ : p_xx b_ n_ md_ pr_ (1, false, p_, o_, g_, c_) R_) : sm_T (mt_P sc_) 3 145 (0, [some (.inr (.inr (some (7, 0)))), none, none, none, none], [], S0_) (fun r_ => (∃ u_ S1_, r_ = (.inl u_, S1_, 0) ∧ vq_145 b_ n_ md_ pr_ R_ o_ g_ c_ p_ S0_ u_ S1_) ∨ ∃ S1_, r_ = (.inr 2, S1_, 1) ∧ vx_145 b_ n_ md_ pr_ R_ o_ g_ c_ p_ S0_ S1_) := by
  have hF_ : ai_fr (sx_W vw_145) S0_ S0_ := ai_fr_rf
  refine sm_T_go 4 (c1 := (4, [some (.inr (.inr (some (7, 0)))), some (.inl 0), some (.inl 0), none, none], [], S0_)) rfl ?_
  refine (vl_145 b_ n_ md_ pr_ R_ o_ g_ c_ p_ S0_ hx_ hc_ hpr_ hok_ hR_ _).1 0 0 S0_ hI_ hF_ ⟨?_, ?_, trivial⟩ (Nat.lt_succ_self _)
  · have x9_ := hx_.1.1
    have hol_ := o_lim hok_.2.1.1 hok_.2.1.2.1
    have hol1_ : o_.length ≤ 365 := hol_.1
    omega
  · exact ⟨o_, g_, c_, p_, hc_, hx_, hok_.2.1, hok_.2.2.2.2, Nat.le_refl _, Or.inl ⟨rfl, hR_⟩⟩
