/-! the reference: expressions, second pass; written by wip/p55/gen/vg -/

/-! behind an_ operand, second pass -/
theorem B1_r {b_ : Nat → Int} {n_ p_ : Nat} {L_ : Int} {s_ : pO} {res_ : pX ⊕ pR} (h_ : p_B1 b_ n_ false p_ L_ s_ = .inr res_) (h0_ : 0 < L_) : ((L_ ≠ 4 ∨ o_tp s_.1 ≠ 4) ∧ ∃ q_, p_ad b_ n_ p_ = .inr q_ ∧ res_ = .inl (0, false, q_, (L_, p_) :: s_.1, s_.2.1, s_.2.2)) ∨ ((L_ = 4 ∧ o_tp s_.1 = 4) ∧ p_B2 b_ n_ false p_ s_ = .inr res_) := by
  unfold p_B1 at h_
  by_cases g_ : 0 < L_ ∧ (L_ ≠ 4 ∨ o_tp s_.1 ≠ 4)
  · rw [if_pos g_] at h_
    obtain ⟨q_, q1_, q2_⟩ := pb_inr h_
    cases q2_
    exact Or.inl ⟨g_.2, q_, q1_, rfl⟩
  · rw [if_neg g_] at h_
    exact Or.inr ⟨by omega, h_⟩
theorem B2_q {b_ : Nat → Int} {n_ p_ : Nat} {s_ : pO} {res_ : pX ⊕ pR} (h_ : p_B2 b_ n_ false p_ s_ = .inr res_) (hk_ : lx_kd b_ n_ p_ = 63) : ∃ s1_ q_, p_se2 1 1 s_ = .inr s1_ ∧ o_mk s1_.1 ≠ 60 ∧ h_tp s1_.2.1 = 1 ∧ p_ad b_ n_ p_ = .inr q_ ∧ res_ = .inl (0, false, q_, (-3, p_) :: s1_.1, s1_.2.1, s1_.2.2) := by
  unfold p_B2 at h_
  rw [if_pos ⟨rfl, hk_⟩] at h_
  obtain ⟨s1_, q1_, q2_⟩ := pb_inr h_
  split at q2_
  · cases q2_
  · rename_i g1_
    split at q2_
    · cases q2_
    · rename_i g2_
      obtain ⟨q_, q3_, q4_⟩ := pb_inr q2_
      cases q4_
      refine ⟨s1_, q_, q1_, g1_, ?_, q3_, rfl⟩
      by_cases z_ : h_tp s1_.2.1 = 1
      · exact z_
      · exact absurd z_ g2_
theorem B2_n {b_ : Nat → Int} {n_ p_ : Nat} {s_ : pO} {res_ : pX ⊕ pR} (h_ : p_B2 b_ n_ false p_ s_ = .inr res_) (hk_ : lx_kd b_ n_ p_ ≠ 63) : ∃ s1_, p_sa2 1 s_ = .inr s1_ ∧ p_B3 b_ n_ false p_ s1_ = .inr res_ := by
  unfold p_B2 at h_
  rw [if_neg (fun z_ => hk_ z_.2)] at h_
  exact pb_inr h_
theorem rz_x {b_ : Nat → Int} {n_ T_ p_ F_ I_ m_ : Nat} {A_ : pA} {X_ : Nat → gQ → gE → Option (gQ × gE)} {s0_ : gS} {o_ : List (Int × Nat)} {g_ c_ : List Int} {S_ : sm_S} (h_ : rzx b_ n_ T_ F_ I_ A_ X_ m_ s0_ (1, false, p_, o_, g_, c_) S_) : rz b_ n_ T_ p_ F_ I_ A_ X_ m_ s0_ (o_, g_, c_) S_ := ⟨⟨h_.1, h_.2.1.2.1⟩, h_.2.2.1, h_.2.2.2⟩
theorem rz_ws {b_ : Nat → Int} {n_ T_ p_ F_ I_ m_ : Nat} {A_ : pA} {X_ : Nat → gQ → gE → Option (gQ × gE)} {s0_ : gS} {s_ : pO} {S_ : sm_S} (h_ : rz b_ n_ T_ p_ F_ I_ A_ X_ m_ s0_ s_ S_) : ∃ w_, ws w_ S_ ∧ wl b_ n_ T_ s_.1 w_ ∧ s_ok false 1 s_ ∧ rg b_ n_ T_ (.inr p_) S_ ∧ S_.1 13 0 33 = (o_mk s_.1 : Int) ∧ vs 1 s_.2.1 S_ ∧ S_.1 13 0 27 = 1 := by
  obtain ⟨⟨⟨h1_, ⟨w_, h2_, h3_⟩, h4_, h5_, h6_⟩, h7_⟩, -, -⟩ := h_
  refine ⟨w_, h2_, ?_, h7_, h1_, h4_, h5_, h6_⟩
  rcases h3_ with z_ | z_
  · exact absurd z_.1 (by decide)
  · exact z_.2
def rqg (b_ : Nat → Int) (n_ T_ F_ I_ : Nat) (A_ : pA) (X_ : Nat → gQ → gE → Option (gQ × gE)) (m_ : Nat) (s0_ : gS) (res_ : pX ⊕ pR) (v_ : Int) (S_ : sm_S) : Prop := match res_ with
  | .inl y_ => rzx b_ n_ T_ F_ I_ A_ X_ m_ s0_ y_ S_ ∧ v_ = (y_.1 : Int)
  | .inr r_ => rz b_ n_ T_ r_.1 F_ I_ A_ X_ m_ s0_ ([], r_.2.1, r_.2.2) S_ ∧ v_ = 2
/-! M_.behind -/
def vw_320g : sx_Wl := ([(13, 9), (13, 10), (13, 11), (13, 32), (13, 33), (13, 34), (13, 37)], [136, 137, 138, 139, 140, 141, 142, 143], [])
def vq_320g (a_ : Int) (b_ : Nat → Int) (n_ : Nat) (T_ : Nat) (F_ : Nat) (I_ : Nat) (A_ : pA) (X_ : Nat → gQ → gE → Option (gQ × gE)) (M_ : Nat) (s0_ : gS) (pr_ : pPr) (p_ : Nat) (o_ : List (Int × Nat)) (g_ : List Int) (c_ : List Int) (res_ : pX ⊕ pR) (S0_ : sm_S) (u_ : Option sm_V) (S1_ : sm_S) : Prop := ∃ v_ : Int, u_ = some (.inl v_) ∧ gi S1_ ∧ ai_fr (sx_W vw_320g) S0_ S1_ ∧ (rqg b_ n_ T_ F_ I_ A_ X_ M_ s0_ res_ v_ S1_)
set_option maxHeartbeats 3000000 in
set_option maxRecDepth 20000 in
theorem vl_320g {sc_ : Nat × (Nat → Int)} (a_ : Int) (b_ : Nat → Int) (n_ : Nat) (T_ : Nat) (F_ : Nat) (I_ : Nat) (A_ : pA) (X_ : Nat → gQ → gE → Option (gQ × gE)) (M_ : Nat) (s0_ : gS) (pr_ : pPr) (p_ : Nat) (o_ : List (Int × Nat)) (g_ : List Int) (c_ : List Int) (res_ : pX ⊕ pR) (S0_ : sm_S) (ha_ : a_ = 0) (ht_ : rtab b_ n_ T_ S0_) (hpr_ : pr_ok b_ n_ pr_) (hz_ : rzx b_ n_ T_ F_ I_ A_ X_ M_ s0_ (1, false, p_, o_, g_, c_) S0_) (hst_ : p_st b_ n_ false pr_ (1, false, p_, o_, g_, c_) = .inr res_) : ∀ nn_ : Nat, (∀  (S_ : sm_S), gi S_ → ai_fr (sx_W vw_320g) S0_ S_ → ((∃ s_, rz b_ n_ T_ p_ F_ I_ A_ X_ M_ s0_ s_ S_ ∧ p_B2 b_ n_ false p_ s_ = .inr res_) ∧ True) → ((9 : Nat)) < nn_ → sm_T (mt_P sc_) 7 320 (89, [some (.inr (.inr (some (13, 0)))), some (.inl a_), none], [], S_) (fun ro9_ => ∃ u_ S1_, ro9_ = (.inl u_, S1_, 0) ∧ vq_320g a_ b_ n_ T_ F_ I_ A_ X_ M_ s0_ pr_ p_ o_ g_ c_ res_ S0_ u_ S1_)) := by
  intro nn_
  induction nn_ with
  | zero => exact fun  _ _ _ _ h_ => absurd h_ (Nat.not_lt_zero _)
  | succ nn_ ih_ =>
    rintro  S_ hI_ hF_ ⟨h1_, -⟩ hm_
    obtain ⟨s8_, z1_, z2_⟩ := h1_
    have ht1_ := rtab_fr ht_ hF_ rfl rfl rfl rfl rfl
    have hT_ := ht_.2.1
    obtain ⟨w8_, ws8_, wl8_, ok8_, g8_, op8_, vs8_, m8_⟩ := rz_ws z1_
    have wx8_ := ws8_.1
    have wll8_ := wl_len wl8_
    have lim8_ := o_lim ok8_.1 ok8_.2.1
    have gl8_ : (s8_).2.1.length = o_hl (s8_).1 + 1 := ok8_.2.2.1
    have bx1_ : 0 ≤ S_.1 13 0 27 ∧ S_.1 13 0 27 ≤ 2 := hI_.1 13 0 27 rfl
    refine sm_T_go 3 (c1 := (94, [some (.inr (.inr (some (13, 0)))), some (.inl a_), none], [.inl 2, .inl (S_.1 13 0 27)], S_)) rfl ?_
    refine sm_T_br (a := 3) (z := 89) rfl (fun cx2_ => ?_) (fun cx2_ => ?_)
    · have cx2_ : 2 ≤ (S_.1 13 0 27) := of_decide_eq_true cx2_
      exfalso; (have q9_ := m8_; omega)
    · have cx2_ : ¬ (2 ≤ (S_.1 13 0 27)) := of_decide_eq_false cx2_
      refine sm_T_go 2 (c1 := (100, [some (.inr (.inr (some (13, 0)))), some (.inl a_), none], [.inl 63, .inr (.inr (some (13, 0)))], S_)) rfl ?_
      refine sm_T_cal (d1 := 0) (Q1 := vq_295 63 b_ n_ T_ (.inr p_) S_) rfl rfl (by decide) (vc_295 63 b_ n_ T_ (.inr p_) S_ hI_ (by exact ht1_) (by exact g8_) (by decide)) (fun u_ Sx3_ px6_ => ?_)
      obtain ⟨rfl, vx8_, rfl, px6_⟩ := px6_
      have e100_ := px6_.2 p_ rfl
      have r100_ := px6_.1.1
      refine sm_T_b0 (a := 0) (z := 80) rfl (fun cx9_ => ?_) (fun cx9_ => ?_)
      · have cx9_ : vx8_ = 0 := of_decide_eq_true cx9_
        have k63_ : lx_kd b_ n_ p_ ≠ 63 := fun z_ => by have := e100_.mpr z_; omega
        obtain ⟨s6_, hs6_, hB3_⟩ := B2_n z2_ k63_
        have lt6_ := sa2_lt z1_.1 (show pb (.inr s8_) (p_sa2 1) = .inr s6_ from hs6_)
        refine sm_T_go 1 (c1 := (184, [some (.inr (.inr (some (13, 0)))), some (.inl a_), none], [.inr (.inr (some (13, 0)))], S_)) rfl ?_
        refine sm_T_cal (d1 := 6) (Q1 := vq_316g b_ n_ T_ p_ F_ I_ A_ X_ M_ s0_ s8_ s6_ S_) rfl rfl (by decide) (vc_316g b_ n_ T_ p_ F_ I_ A_ X_ M_ s0_ s8_ s6_ S_ hI_ (by exact ht1_) (by exact z1_) (by exact hs6_)) (fun u_ Sx10_ px13_ => ?_)
        obtain ⟨rfl, hIx11_, hFx12_, px13_⟩ := px13_
        have hFx14_ : ai_fr (sx_W vw_320g) S0_ Sx10_ := ai_fr_tr hF_ (fr_le hFx12_ rfl)
        have ex15_ : Sx10_.1 13 0 27 = S_.1 13 0 27 := hFx12_.1 13 0 27 rfl
        have e184_ := px13_
        obtain ⟨w6_, ws6_, wl6_, ok6_, g6_, op6_, vs6_, m6_⟩ := rz_ws e184_
        have wx6_ := ws6_.1
        have wll6_ := wl_len wl6_
        have lim6_ := o_lim ok6_.1 ok6_.2.1
        have gl6_ : (s6_).2.1.length = o_hl (s6_).1 + 1 := ok6_.2.2.1
        have t184_ := rtab_fr ht1_ hFx12_ rfl rfl rfl rfl rfl
        have tp6_ := wl_tp wl6_ ok6_.1
        obtain ⟨so_, sg_, sc_⟩ := s6_
        refine sm_T_go 1 (c1 := (188, [some (.inr (.inr (some (13, 0)))), some (.inl a_), none], [.inr (.inr (some (13, 0)))], Sx10_)) rfl ?_
        refine sm_T_cal (d1 := 0) (Q1 := vq_292  Sx10_) rfl rfl (by decide) (vc_292  Sx10_ hIx11_ ) (fun u_ Sx16_ px19_ => ?_)
        obtain ⟨rfl, vx21_, rfl, px19_⟩ := px19_
        have e188_ := px19_
        refine sm_T_b0 (a := 0) (z := 11) rfl (fun cx22_ => ?_) (fun cx22_ => ?_)
        · have cx22_ : vx21_ = 0 := of_decide_eq_true cx22_
          exfalso; (rw [if_pos g6_.1] at e188_; omega)
        · have cx22_ : ¬ (vx21_ = 0) := of_decide_eq_false cx22_
          have bx23_ : 0 ≤ Sx10_.1 13 0 32 ∧ Sx10_.1 13 0 32 ≤ 1023 := hIx11_.1 13 0 32 rfl
          refine sm_T_go 3 (c1 := (199, [some (.inr (.inr (some (13, 0)))), some (.inl a_), none], [.inl a_, .inl (Sx10_.1 13 0 32)], Sx10_)) rfl ?_
          refine sm_T_br (a := 1) (z := 5) rfl (fun cx24_ => ?_) (fun cx24_ => ?_)
          · have cx24_ : (Sx10_.1 13 0 32) ≠ a_ := of_decide_eq_true cx24_
            obtain ⟨k8_, q8_, o8_, ho8_, e9_⟩ : ∃ k8_ q8_ o8_, so_ = (k8_, q8_) :: o8_ ∧ o_tp so_ = k8_ := by cases so_ with | nil => (exfalso; have z_ := tp6_.2.2.2.2.2.2.mpr rfl; rw [z_] at wx6_; simp only [List.length_nil] at wx6_; omega) | cons a_ l_ => exact ⟨a_.1, a_.2, l_, rfl, rfl⟩
            subst ho8_
            have k8c := o_ok3 ok6_.1 lt6_.1 lt6_.2
            have bx25_ : 0 ≤ Sx10_.1 13 0 27 ∧ Sx10_.1 13 0 27 ≤ 2 := hIx11_.1 13 0 27 rfl
            refine sm_T_go 3 (c1 := (209, [some (.inr (.inr (some (13, 0)))), some (.inl a_), none], [.inl 2, .inl (Sx10_.1 13 0 27)], Sx10_)) rfl ?_
            refine sm_T_br (a := 3) (z := 42) rfl (fun cx26_ => ?_) (fun cx26_ => ?_)
            · have cx26_ : 2 ≤ (Sx10_.1 13 0 27) := of_decide_eq_true cx26_
              exfalso; omega
            · have cx26_ : ¬ (2 ≤ (Sx10_.1 13 0 27)) := of_decide_eq_false cx26_
              refine sm_T_go 1 (c1 := (213, [some (.inr (.inr (some (13, 0)))), some (.inl a_), none], [.inr (.inr (some (13, 0)))], Sx10_)) rfl ?_
              refine sm_T_cal (d1 := 0) (Q1 := vq_312 w6_ Sx10_) rfl rfl (by decide) (vc_312 w6_ Sx10_ hIx11_ (by exact ws6_)) (fun u_ Sx27_ px30_ => ?_)
              obtain ⟨rfl, vx32_, rfl, px30_⟩ := px30_
              have e213_ := px30_
              refine sm_T_go 1 (c1 := (218, [some (.inr (.inr (some (13, 0)))), some (.inl a_), none], [.inl 63, .inl vx32_], Sx10_)) rfl ?_
              refine sm_T_br (a := 1) (z := 33) rfl (fun cx33_ => ?_) (fun cx33_ => ?_)
              · have cx33_ : vx32_ ≠ 63 := of_decide_eq_true cx33_
                refine sm_T_go 2 (c1 := (254, [some (.inr (.inr (some (13, 0)))), some (.inl a_), none], [.inl 41, .inr (.inr (some (13, 0)))], Sx10_)) rfl ?_
                refine sm_T_cal (d1 := 3) (Q1 := vq_300 41 b_ n_ T_ (.inr p_) Sx10_) rfl rfl (by decide) (vc_300 41 b_ n_ T_ (.inr p_) Sx10_ hIx11_ (by exact t184_) (by exact g6_) (by decide)) (fun u_ Sx34_ px37_ => ?_)
                obtain ⟨rfl, hIx35_, hFx36_, px37_⟩ := px37_
                have hFx38_ : ai_fr (sx_W vw_320g) S0_ Sx34_ := ai_fr_tr hFx14_ (fr_le hFx36_ rfl)
                have ex39_ : Sx34_.1 13 0 27 = Sx10_.1 13 0 27 := hFx36_.1 13 0 27 rfl
                have ex40_ : Sx34_.1 13 0 32 = Sx10_.1 13 0 32 := hFx36_.1 13 0 32 rfl
                have k12_ : k8_ = -1 ∨ k8_ = -2 := by rcases k8c with z_ | z_; (exfalso; have z2_ := tp6_.2.2.2.2.1.mpr (by show o_tp _ = -3; rw [e9_]; exact z_.1); omega); exact z_
                rw [b3_c (by omega)] at hB3_
                obtain ⟨q7_, hq7_, hr7_⟩ := pb_inr hB3_
                have hr7_ := Sum.inr.inj hr7_
                have g254_ := px37_
                rw [pb_r rfl, hq7_] at g254_
                have m254_ : Sx34_.1 13 0 27 = 1 := (hFx36_.1 13 0 27 rfl).trans m6_
                have op254_ := (hFx36_.1 13 0 33 rfl).trans op6_
                have vs254_ := vs_fr vs6_ hFx36_ rfl rfl rfl
                have ws254_ := ws_fr ws6_ hFx36_ rfl rfl rfl
                have x254_ := xg_fr e184_.2.1 hFx36_ rfl rfl rfl rfl rfl rfl rfl rfl
                obtain ⟨t8_, u8_, hw8_, wt8_⟩ := wl_12 k12_ wl6_
                subst hw8_
                obtain ⟨x8_, g9_, hg8_⟩ := s_ok_1 ok6_
                have hg8_ : sg_ = x8_ :: g9_ := hg8_
                subst hg8_
                have gl8_ : (x8_ :: g9_).length = o_hl ((k8_, q8_) :: o8_) + 1 := gl6_
                have gl7_ : o_hl ((k8_, q8_) :: o8_) ≤ 425 := lim6_.2
                simp only [List.length_cons] at gl8_
                have wlx3_ : Sx34_.1 13 0 32 = (u8_.length : Int) + 1 := by rw [ws254_.1, List.length_cons]; push_cast; rfl
                have op8b : Sx34_.1 13 0 33 = (o_mk o8_ : Int) + 1 := by rw [op254_]; show (((if k8_ < 0 then 1 else 0) + o_mk o8_ : Nat) : Int) = _; rw [if_pos (by omega)]; push_cast; omega
                have vl254_ : Sx34_.1 13 0 34 = (g9_.length : Int) + 1 := by rw [vs254_.1]; simp only [List.length_cons]; push_cast; rfl
                refine sm_T_go 1 (c1 := (258, [some (.inr (.inr (some (13, 0)))), some (.inl a_), none], [.inr (.inr (some (13, 0)))], Sx34_)) rfl ?_
                refine sm_T_cal (d1 := 0) (Q1 := vq_292  Sx34_) rfl rfl (by decide) (vc_292  Sx34_ hIx35_ ) (fun u_ Sx41_ px44_ => ?_)
                obtain ⟨rfl, vx46_, rfl, px44_⟩ := px44_
                have e258_ := px44_
                refine sm_T_b0 (a := 0) (z := 27) rfl (fun cx47_ => ?_) (fun cx47_ => ?_)
                · have cx47_ : vx46_ = 0 := of_decide_eq_true cx47_
                  exfalso; (rw [if_pos g254_.1] at e258_; omega)
                · have cx47_ : ¬ (vx46_ = 0) := of_decide_eq_false cx47_
                  have bx48_ : 0 ≤ Sx34_.1 13 0 32 ∧ Sx34_.1 13 0 32 ≤ 1023 := hIx35_.1 13 0 32 rfl
                  refine sm_T_go 4 (c1 := (270, [some (.inr (.inr (some (13, 0)))), some (.inl a_), none], [.inl 1, .inl (Sx34_.1 13 0 32), .inr (.inr (some (13, 0)))], Sx34_)) rfl ?_
                  refine sm_T_bin (w := (Sx34_.1 13 0 32) - 1) rfl (bi_sub (by omega) (by omega) (by omega)) ?_
                  have hIx49_ : gi (sm_pI Sx34_ 13 0 32 ((Sx34_.1 13 0 32) - 1)) := gi_pI hIx35_ (show 0 ≤ (Sx34_.1 13 0 32) - 1 ∧ (Sx34_.1 13 0 32) - 1 ≤ 1023 from ⟨by omega, by omega⟩)
                  have hFx50_ : ai_fr (sx_W vw_320g) S0_ (sm_pI Sx34_ 13 0 32 ((Sx34_.1 13 0 32) - 1)) := ai_fr_tr hFx38_ (ai_fr_pI rfl)
                  have bx51_ : 0 ≤ Sx34_.1 13 0 33 ∧ Sx34_.1 13 0 33 ≤ 60 := hIx35_.1 13 0 33 rfl
                  refine sm_T_go 5 (c1 := (280, [some (.inr (.inr (some (13, 0)))), some (.inl a_), none], [.inl 1, .inl (Sx34_.1 13 0 33), .inr (.inr (some (13, 0)))], sm_pI Sx34_ 13 0 32 ((Sx34_.1 13 0 32) - 1))) rfl ?_
                  refine sm_T_bin (w := (Sx34_.1 13 0 33) - 1) rfl (bi_sub (by omega) (by omega) (by omega)) ?_
                  have hIx52_ : gi (sm_pI (sm_pI Sx34_ 13 0 32 ((Sx34_.1 13 0 32) - 1)) 13 0 33 ((Sx34_.1 13 0 33) - 1)) := gi_pI hIx49_ (show 0 ≤ (Sx34_.1 13 0 33) - 1 ∧ (Sx34_.1 13 0 33) - 1 ≤ 60 from ⟨by omega, by omega⟩)
                  have hFx53_ : ai_fr (sx_W vw_320g) S0_ (sm_pI (sm_pI Sx34_ 13 0 32 ((Sx34_.1 13 0 32) - 1)) 13 0 33 ((Sx34_.1 13 0 33) - 1)) := ai_fr_tr hFx50_ (ai_fr_pI rfl)
                  refine sm_T_go 2 (c1 := (285, [some (.inr (.inr (some (13, 0)))), some (.inl a_), none], [.inr (.inr (some (13, 0)))], sm_pI (sm_pI Sx34_ 13 0 32 ((Sx34_.1 13 0 32) - 1)) 13 0 33 ((Sx34_.1 13 0 33) - 1))) rfl ?_
                  refine sm_T_cal (d1 := 1) (Q1 := vq_317g b_ n_ T_ F_ I_ A_ X_ M_ s0_ (decide (k8_ = -2)) o8_ x8_ g9_ sc_ u8_ (sm_pI (sm_pI Sx34_ 13 0 32 ((Sx34_.1 13 0 32) - 1)) 13 0 33 ((Sx34_.1 13 0 33) - 1))) rfl rfl (by decide) (vc_317g b_ n_ T_ F_ I_ A_ X_ M_ s0_ (decide (k8_ = -2)) o8_ x8_ g9_ sc_ u8_ (sm_pI (sm_pI Sx34_ 13 0 32 ((Sx34_.1 13 0 32) - 1)) 13 0 33 ((Sx34_.1 13 0 33) - 1)) hIx52_ (by exact ws_pop ws254_ rfl rfl rfl) (by exact wt8_) (by exact ok6_.1.2.2) (by exact vl254_) (by exact m254_) (by omega) (by exact xg_fr (w_ := ([(13, 32), (13, 33)], [], [])) x254_ (ai_fr_tr (ai_fr_pI rfl) (ai_fr_pI rfl)) rfl rfl rfl rfl rfl rfl rfl rfl)) (fun u_ Sx54_ px57_ => ?_)
                  obtain ⟨rfl, hIx55_, hFx56_, px57_⟩ := px57_
                  have hFx58_ : ai_fr (sx_W vw_320g) S0_ Sx54_ := ai_fr_tr hFx53_ (fr_le hFx56_ rfl)
                  obtain ⟨w9_, ws9_, wl9_, x9_⟩ := px57_
                  have op285_ : Sx54_.1 13 0 33 = (o_mk o8_ : Int) := (hFx56_.1 13 0 33 rfl).trans (by (try simp only [rd_eq, rd_ne, rf_eq, rf_nk, rf_nt, rd_fa, rd_af, rd_fl, rd_al, rd_lf, rd_la, rd_leq, rd_lne, rd_fr, rd_ar, ne_eq, Nat.reduceEqDiff, not_false_eq_true]); omega)
                  have m285_ := (hFx56_.1 13 0 27 rfl).trans m254_
                  have g285_ := rg_fr (b_ := b_) (n_ := n_) (T_ := T_) (x_ := .inr q7_) (S_ := (sm_pI (sm_pI Sx34_ 13 0 32 ((Sx34_.1 13 0 32) - 1)) 13 0 33 ((Sx34_.1 13 0 33) - 1))) g254_ hFx56_ rfl rfl rfl
                  have vl285_ : Sx54_.1 13 0 34 = (g9_.length : Int) + 1 := (hFx56_.1 13 0 34 rfl).trans vl254_
                  refine sm_T_go 1 (c1 := (289, [some (.inr (.inr (some (13, 0)))), some (.inl a_), none], [.inl 1], Sx54_)) rfl ?_
                  refine sm_T_ri rfl ⟨_, _, rfl, _, rfl, hIx55_, hFx58_, ?_⟩
                  have t1_ : (p_ti false (decide (k8_ = -2)) (x8_ :: g9_) sc_).1 = x8_ :: g9_ := by rw [ti2]
                  have xk_ : x_ok b_ n_ false (1, false, q7_, o8_, (p_ti false (decide (k8_ = -2)) (x8_ :: g9_) sc_).1, (p_ti false (decide (k8_ = -2)) (x8_ :: g9_) sc_).2) := x_st ht_.1 hpr_ hz_.2.1 (by rw [hst_, ← hr7_])
                  rw [← hr7_]
                  refine ⟨⟨⟨g285_, ⟨w9_, ws9_, Or.inr ⟨rfl, wl9_⟩⟩, op285_, ⟨?_, fun _ => ?_, fun z_ => absurd z_ (by decide)⟩, m285_⟩, xk_, ?_, ?_⟩, rfl⟩
                  · show _ = ((p_ti false (decide (k8_ = -2)) (x8_ :: g9_) sc_).1.length : Int); rw [t1_, vl285_, List.length_cons]; push_cast; rfl
                  · show stk _ (p_ti false (decide (k8_ = -2)) (x8_ :: g9_) sc_).1; rw [t1_]; obtain ⟨G9_, V9_, y1_, y2_, y3_, y4_⟩ := x9_; rw [← y2_]; exact svl_stk y4_
                  · show xg F_ I_ A_ X_ M_ s0_ (p_ti false (decide (k8_ = -2)) (x8_ :: g9_) sc_).1 _ _; rw [t1_]; exact x9_
                  · show o_wd o8_ (p_ti false (decide (k8_ = -2)) (x8_ :: g9_) sc_).1.tail; rw [t1_]; have q9_ : o_wd ((k8_, q8_) :: o8_) g9_ := e184_.2.2; unfold o_wd at q9_; rw [if_neg (by show ¬ k8_ = -3; omega), if_neg (by show ¬ k8_ = -4; omega), if_pos (by show k8_ < 0; omega)] at q9_; exact q9_
              · have cx33_ : ¬ (vx32_ ≠ 63) := of_decide_eq_false cx33_
                have k3_ : k8_ = -3 := by rw [← e9_]; exact tp6_.2.2.2.2.1.mp (by omega)
                subst k3_
                obtain ⟨t8_, u8_, hw8_, wl84_⟩ := wl_34 wl6_
                subst hw8_
                rw [b3_q] at hB3_
                obtain ⟨q7_, hq7_, hr7_⟩ := pb_inr hB3_
                have hr7_ := Sum.inr.inj hr7_
                have kd8_ : lx_kd b_ n_ p_ = 58 := by by_cases z_ : lx_kd b_ n_ p_ = 58; exact z_; (exfalso; unfold p_nd at hq7_; rw [if_neg z_] at hq7_; cases hq7_)
                have wlx2_ : (((63, t8_) :: u8_ : List (Int × Int)).length : Int) = (u8_.length : Int) + 1 := by rw [List.length_cons]; push_cast; rfl
                refine sm_T_go 2 (c1 := (224, [some (.inr (.inr (some (13, 0)))), some (.inl a_), none], [.inl 58, .inr (.inr (some (13, 0)))], Sx10_)) rfl ?_
                refine sm_T_cal (d1 := 0) (Q1 := vq_295 58 b_ n_ T_ (.inr p_) Sx10_) rfl rfl (by decide) (vc_295 58 b_ n_ T_ (.inr p_) Sx10_ hIx11_ (by exact t184_) (by exact g6_) (by decide)) (fun u_ Sx59_ px62_ => ?_)
                obtain ⟨rfl, vx64_, rfl, px62_⟩ := px62_
                have e224_ := px62_.2 p_ rfl
                have r224_ := px62_.1.1
                refine sm_T_b0 (a := 0) (z := 16) rfl (fun cx65_ => ?_) (fun cx65_ => ?_)
                · have cx65_ : vx64_ = 0 := of_decide_eq_true cx65_
                  exfalso; (have := e224_.mpr kd8_; omega)
                · have cx65_ : ¬ (vx64_ = 0) := of_decide_eq_false cx65_
                  refine sm_T_go 5 (c1 := (239, [some (.inr (.inr (some (13, 0)))), some (.inl a_), none], [.inl 1, .inl (Sx10_.1 13 0 32), .inr (.inr (some (136, 0)))], Sx10_)) rfl ?_
                  refine sm_T_bin (w := (Sx10_.1 13 0 32) - 1) rfl (bi_sub (by omega) (by omega) (by omega)) ?_
                  refine sm_T_go 1 (c1 := (242, [some (.inr (.inr (some (13, 0)))), some (.inl a_), none], [.inl 58, .inl ((Sx10_.1 13 0 32) - 1), .inr (.inr (some (136, 0)))], Sx10_)) rfl ?_
                  refine sm_T_iast (n := 1024) rfl rfl (by omega) (by omega) ?_
                  have hIx66_ : gi (sm_aI Sx10_ 136 0 ((Sx10_.1 13 0 32) - 1).toNat 58) := gi_aI hIx11_ (show (-2147483648) ≤ 58 ∧ 58 ≤ 2147483647 from ⟨by omega, by omega⟩)
                  have hFx67_ : ai_fr (sx_W vw_320g) S0_ (sm_aI Sx10_ 136 0 ((Sx10_.1 13 0 32) - 1).toNat 58) := ai_fr_tr hFx14_ (ai_fr_aI rfl)
                  refine sm_T_go 2 (c1 := (246, [some (.inr (.inr (some (13, 0)))), some (.inl a_), none], [.inl 58, .inr (.inr (some (13, 0)))], sm_aI Sx10_ 136 0 ((Sx10_.1 13 0 32) - 1).toNat 58)) rfl ?_
                  refine sm_T_cal (d1 := 3) (Q1 := vq_300 58 b_ n_ T_ (.inr p_) (sm_aI Sx10_ 136 0 ((Sx10_.1 13 0 32) - 1).toNat 58)) rfl rfl (by decide) (vc_300 58 b_ n_ T_ (.inr p_) (sm_aI Sx10_ 136 0 ((Sx10_.1 13 0 32) - 1).toNat 58) hIx66_ (by exact rtab_fr t184_ (w_ := ([], [136], [])) (ai_fr_aI rfl) rfl rfl rfl rfl rfl) (by exact g6_) (by decide)) (fun u_ Sx68_ px71_ => ?_)
                  obtain ⟨rfl, hIx69_, hFx70_, px71_⟩ := px71_
                  have hFx72_ : ai_fr (sx_W vw_320g) S0_ Sx68_ := ai_fr_tr hFx67_ (fr_le hFx70_ rfl)
                  have g246_ := px71_
                  rw [pb_r rfl, hq7_] at g246_
                  have m246_ : Sx68_.1 13 0 27 = 1 := (hFx70_.1 13 0 27 rfl).trans m6_
                  have op246_ : Sx68_.1 13 0 33 = _ := (hFx70_.1 13 0 33 rfl).trans op6_
                  have ws246_ := ws_fr (ws_top1 (z_ := 58) ws6_ (by omega)) hFx70_ rfl rfl rfl
                  have v246_ : vs 1 sg_ Sx68_ := vs_fr (S_ := (sm_aI Sx10_ 136 0 ((Sx10_.1 13 0 32) - 1).toNat 58)) (show vs 1 sg_ (sm_aI Sx10_ 136 0 ((Sx10_.1 13 0 32) - 1).toNat 58) from ⟨vs6_.1, fun q_ => stk_ot (vs6_.2.1 q_) (by decide), fun q_ => absurd q_ (by decide)⟩) hFx70_ rfl rfl rfl
                  have x246_ := xg_fr (S_ := (sm_aI Sx10_ 136 0 ((Sx10_.1 13 0 32) - 1).toNat 58)) (xg_fr (w_ := ([], [136], [])) e184_.2.1 (ai_fr_aI rfl) rfl rfl rfl rfl rfl rfl rfl rfl) hFx70_ rfl rfl rfl rfl rfl rfl rfl rfl
                  refine sm_T_go 1 (c1 := (250, [some (.inr (.inr (some (13, 0)))), some (.inl a_), none], [.inl 0], Sx68_)) rfl ?_
                  refine sm_T_ri rfl ⟨_, _, rfl, _, rfl, hIx69_, hFx72_, ?_⟩
                  have xk_ : x_ok b_ n_ false (0, false, q7_, (-4, q8_) :: o8_, sg_, sc_) := x_st ht_.1 hpr_ hz_.2.1 (by rw [hst_, ← hr7_])
                  rw [← hr7_]
                  refine ⟨⟨⟨g246_, ⟨_, ws246_, Or.inl ⟨rfl, Or.inl ⟨rfl, wl84_⟩⟩⟩, op246_, v246_, m246_⟩, xk_, x246_, ?_⟩, rfl⟩
                  show o_wd ((-4, q8_) :: o8_) sg_
                  obtain ⟨a9_, g9_, hg9_⟩ := s_ok_1 ok6_
                  have hg9_ : sg_ = a9_ :: g9_ := hg9_
                  have q9_ := e184_.2.2
                  have q9_ : o_wd ((-3, q8_) :: o8_) sg_.tail := q9_
                  rw [hg9_] at q9_ ⊢
                  have q9_ : o_wd ((-3, q8_) :: o8_) g9_ := q9_
                  unfold o_wd at q9_ ⊢
                  rw [if_pos rfl] at q9_
                  rw [if_neg (by show ¬ (-4 : Int) = -3; decide), if_pos rfl]
                  cases g9_ with
                  | nil => exact q9_.elim
                  | cons c9_ l9_ => exact q9_
          · have cx24_ : ¬ ((Sx10_.1 13 0 32) ≠ a_) := of_decide_eq_false cx24_
            have w0_ : w6_ = [] := by cases w6_ with | nil => rfl | cons a_ l_ => (exfalso; simp only [List.length_cons] at wx6_; omega)
            have so0_ : so_ = [] := tp6_.2.2.2.2.2.2.mp w0_
            subst so0_
            refine sm_T_go 1 (c1 := (203, [some (.inr (.inr (some (13, 0)))), some (.inl a_), none], [.inl 2], Sx10_)) rfl ?_
            refine sm_T_ri rfl ⟨_, _, rfl, _, rfl, hIx11_, hFx14_, ?_⟩
            have q9_ : res_ = .inr (p_, sg_, sc_) := (Sum.inr.inj hB3_).symm
            rw [q9_]
            exact ⟨e184_, rfl⟩
      · have cx9_ : ¬ (vx8_ = 0) := of_decide_eq_false cx9_
        have k63_ : lx_kd b_ n_ p_ = 63 := e100_.mp (by omega)
        obtain ⟨s5_, q5_, hs5_, n60_, ht5_, hq5_, hr5_⟩ := B2_q z2_ k63_
        refine sm_T_go 2 (c1 := (108, [some (.inr (.inr (some (13, 0)))), some (.inl a_), none], [.inl 1, .inr (.inr (some (13, 0)))], S_)) rfl ?_
        refine sm_T_cal (d1 := 5) (Q1 := vq_315g 1 b_ n_ T_ p_ F_ I_ A_ X_ M_ s0_ s8_ s5_ S_) rfl rfl (by decide) (vc_315g 1 b_ n_ T_ p_ F_ I_ A_ X_ M_ s0_ s8_ s5_ S_ hI_ (by exact ht1_) (by exact z1_) (by decide) (by exact hs5_)) (fun u_ Sx73_ px76_ => ?_)
        obtain ⟨rfl, hIx74_, hFx75_, px76_⟩ := px76_
        have hFx77_ : ai_fr (sx_W vw_320g) S0_ Sx73_ := ai_fr_tr hF_ (fr_le hFx75_ rfl)
        have ex78_ : Sx73_.1 13 0 27 = S_.1 13 0 27 := hFx75_.1 13 0 27 rfl
        have e108_ := px76_
        obtain ⟨w5_, ws5_, wl5_, ok5_, g5_, op5_, vs5_, m5_⟩ := rz_ws e108_.1
        have wx5_ := ws5_.1
        have wll5_ := wl_len wl5_
        have lim5_ := o_lim ok5_.1 ok5_.2.1
        have gl5_ : (s5_).2.1.length = o_hl (s5_).1 + 1 := ok5_.2.2.1
        have t108_ := rtab_fr ht1_ hFx75_ rfl rfl rfl rfl rfl
        obtain ⟨x5_, g5b, hg5_⟩ := s_ok_1 ok5_
        have gl5b : s5_.2.1.length = g5b.length + 1 := by rw [hg5_]; rfl
        have vk5_ := vs5_.2.1 (by decide)
        rw [hg5_] at vk5_ ht5_
        have x51_ : x5_ = 1 := ht5_
        have v51_ := vs5_.1
        have wd5_ : Sx73_.2.2.1 138 0 (Sx73_.1 13 0 34 - 1).toNat = x5_ := by rw [show (Sx73_.1 13 0 34 - 1).toNat = g5b.length by omega]; exact vk5_.1
        obtain ⟨i5_, hi51_, hi52_⟩ := id g5_.2
        refine sm_T_go 1 (c1 := (112, [some (.inr (.inr (some (13, 0)))), some (.inl a_), none], [.inr (.inr (some (13, 0)))], Sx73_)) rfl ?_
        refine sm_T_cal (d1 := 0) (Q1 := vq_292  Sx73_) rfl rfl (by decide) (vc_292  Sx73_ hIx74_ ) (fun u_ Sx79_ px82_ => ?_)
        obtain ⟨rfl, vx84_, rfl, px82_⟩ := px82_
        have e112_ := px82_
        refine sm_T_b0 (a := 0) (z := 21) rfl (fun cx85_ => ?_) (fun cx85_ => ?_)
        · have cx85_ : vx84_ = 0 := of_decide_eq_true cx85_
          exfalso; (rw [if_pos g5_.1] at e112_; omega)
        · have cx85_ : ¬ (vx84_ = 0) := of_decide_eq_false cx85_
          have bx86_ : 0 ≤ Sx73_.1 13 0 33 ∧ Sx73_.1 13 0 33 ≤ 60 := hIx74_.1 13 0 33 rfl
          refine sm_T_go 3 (c1 := (124, [some (.inr (.inr (some (13, 0)))), some (.inl a_), none], [.inl 60, .inl (Sx73_.1 13 0 33)], Sx73_)) rfl ?_
          refine sm_T_br (a := 1) (z := 12) rfl (fun cx87_ => ?_) (fun cx87_ => ?_)
          · have cx87_ : (Sx73_.1 13 0 33) ≠ 60 := of_decide_eq_true cx87_
            refine sm_T_go 1 (c1 := (137, [some (.inr (.inr (some (13, 0)))), some (.inl a_), none], [.inr (.inr (some (13, 0)))], Sx73_)) rfl ?_
            refine sm_T_cal (d1 := 0) (Q1 := vq_292  Sx73_) rfl rfl (by decide) (vc_292  Sx73_ hIx74_ ) (fun u_ Sx88_ px91_ => ?_)
            obtain ⟨rfl, vx93_, rfl, px91_⟩ := px91_
            have e137_ := px91_
            refine sm_T_b0 (a := 0) (z := 28) rfl (fun cx94_ => ?_) (fun cx94_ => ?_)
            · have cx94_ : vx93_ = 0 := of_decide_eq_true cx94_
              exfalso; (rw [if_pos g5_.1] at e137_; omega)
            · have cx94_ : ¬ (vx93_ = 0) := of_decide_eq_false cx94_
              have bx95_ : 0 ≤ Sx73_.1 13 0 34 ∧ Sx73_.1 13 0 34 ≤ 1023 := hIx74_.1 13 0 34 rfl
              refine sm_T_go 5 (c1 := (152, [some (.inr (.inr (some (13, 0)))), some (.inl a_), none], [.inl 1, .inl (Sx73_.1 13 0 34), .inr (.inr (some (138, 0)))], Sx73_)) rfl ?_
              refine sm_T_bin (w := (Sx73_.1 13 0 34) - 1) rfl (bi_sub (by omega) (by omega) (by omega)) ?_
              refine sm_T_iald (n := 1024) rfl rfl (by omega) (by omega) ?_
              have bx96_ : (-2147483648) ≤ Sx73_.2.2.1 138 0 ((Sx73_.1 13 0 34) - 1).toNat ∧ Sx73_.2.2.1 138 0 ((Sx73_.1 13 0 34) - 1).toNat ≤ 2147483647 := hIx74_.2 138 0 _
              refine sm_T_go 1 (c1 := (155, [some (.inr (.inr (some (13, 0)))), some (.inl a_), none], [.inl 1, .inl (Sx73_.2.2.1 138 0 ((Sx73_.1 13 0 34) - 1).toNat)], Sx73_)) rfl ?_
              refine sm_T_br (a := 0) (z := 13) rfl (fun cx97_ => ?_) (fun cx97_ => ?_)
              · have cx97_ : (Sx73_.2.2.1 138 0 ((Sx73_.1 13 0 34) - 1).toNat) = 1 := of_decide_eq_true cx97_
                refine sm_T_go 1 (c1 := (169, [some (.inr (.inr (some (13, 0)))), some (.inl a_), none], [.inr (.inr (some (13, 0)))], Sx73_)) rfl ?_
                refine sm_T_cal (d1 := 0) (Q1 := vq_292  Sx73_) rfl rfl (by decide) (vc_292  Sx73_ hIx74_ ) (fun u_ Sx98_ px101_ => ?_)
                obtain ⟨rfl, vx103_, rfl, px101_⟩ := px101_
                have e169_ := px101_
                refine sm_T_b0 (a := 0) (z := 9) rfl (fun cx104_ => ?_) (fun cx104_ => ?_)
                · have cx104_ : vx103_ = 0 := of_decide_eq_true cx104_
                  exfalso; (rw [if_pos g5_.1] at e169_; omega)
                · have cx104_ : ¬ (vx103_ = 0) := of_decide_eq_false cx104_
                  refine sm_T_go 2 (c1 := (178, [some (.inr (.inr (some (13, 0)))), some (.inl a_), none], [.inl 63, .inr (.inr (some (13, 0)))], Sx73_)) rfl ?_
                  refine sm_T_cal (d1 := 3) (Q1 := vq_318 63 b_ n_ T_ 1 p_ i5_ (o_mk s5_.1) w5_ Sx73_) rfl rfl (by decide) (vc_318 63 b_ n_ T_ 1 p_ i5_ (o_mk s5_.1) w5_ Sx73_ hIx74_ (by exact t108_) (by exact g5_.1) (by exact ⟨hi51_, hi52_⟩) (by omega) (by exact ws5_) (by omega) (by exact ⟨op5_, ok5_.2.1⟩) (by decide) (by exact m5_)) (fun u_ Sx105_ px108_ => ?_)
                  obtain ⟨rfl, hIx106_, hFx107_, px108_⟩ := px108_
                  have hFx109_ : ai_fr (sx_W vw_320g) S0_ Sx105_ := ai_fr_tr hFx77_ (fr_le hFx107_ rfl)
                  have ex110_ : Sx105_.1 13 0 34 = Sx73_.1 13 0 34 := hFx107_.1 13 0 34 rfl
                  have e178_ := (px108_.2 n60_).2 q5_ hq5_
                  have m178_ := (hFx107_.1 13 0 27 rfl).trans m5_
                  have v178_ := vs_fr vs5_ hFx107_ rfl rfl rfl
                  have x178_ := xg_fr e108_.1.2.1 hFx107_ rfl rfl rfl rfl rfl rfl rfl rfl
                  refine sm_T_go 1 (c1 := (182, [some (.inr (.inr (some (13, 0)))), some (.inl a_), none], [.inl 0], Sx105_)) rfl ?_
                  refine sm_T_ri rfl ⟨_, _, rfl, _, rfl, hIx106_, hFx109_, ?_⟩
                  have xk_ : x_ok b_ n_ false (0, false, q5_, (-3, p_) :: s5_.1, s5_.2.1, s5_.2.2) := x_st ht_.1 hpr_ hz_.2.1 (by rw [hst_, hr5_])
                  rw [hr5_]
                  obtain ⟨q1_, q2_, q3_⟩ := e178_
                  refine ⟨⟨⟨q1_, ⟨_, q2_, Or.inl ⟨rfl, Or.inl ⟨rfl, ⟨_, w5_, rfl, rp_rtp t108_ hi52_ (by omega), Or.inl ⟨by decide, wl5_⟩⟩⟩⟩⟩, by rw [q3_]; show _ = ((1 + o_mk s5_.1 : Nat) : Int); push_cast; omega, v178_, m178_⟩, xk_, x178_, ?_⟩, rfl⟩
                  show o_wd ((-3, p_) :: s5_.1) s5_.2.1
                  have q9_ := e108_.1.2.2
                  rw [hg5_] at q9_ ⊢
                  unfold o_wd
                  rw [if_pos rfl]
                  exact ⟨x51_, q9_⟩
              · have cx97_ : ¬ ((Sx73_.2.2.1 138 0 ((Sx73_.1 13 0 34) - 1).toNat) = 1) := of_decide_eq_false cx97_
                exfalso; omega
          · have cx87_ : ¬ ((Sx73_.1 13 0 33) ≠ 60) := of_decide_eq_false cx87_
            exfalso; (have q9_ := op5_; omega)
set_option maxHeartbeats 3000000 in
set_option maxRecDepth 20000 in
theorem vc_320g {sc_ : Nat × (Nat → Int)} (a_ : Int) (b_ : Nat → Int) (n_ : Nat) (T_ : Nat) (F_ : Nat) (I_ : Nat) (A_ : pA) (X_ : Nat → gQ → gE → Option (gQ × gE)) (M_ : Nat) (s0_ : gS) (pr_ : pPr) (p_ : Nat) (o_ : List (Int × Nat)) (g_ : List Int) (c_ : List Int) (res_ : pX ⊕ pR) (S0_ : sm_S) (hI_ : gi S0_) (ha_ : a_ = 0) (ht_ : rtab b_ n_ T_ S0_) (hpr_ : pr_ok b_ n_ pr_) (hz_ : rzx b_ n_ T_ F_ I_ A_ X_ M_ s0_ (1, false, p_, o_, g_, c_) S0_) (hst_ : p_st b_ n_ false pr_ (1, false, p_, o_, g_, c_) = .inr res_) : sm_T (mt_P sc_) 7 320 (0, [some (.inr (.inr (some (13, 0)))), some (.inl a_), none], [], S0_) (fun ro9_ => ∃ u_ S1_, ro9_ = (.inl u_, S1_, 0) ∧ vq_320g a_ b_ n_ T_ F_ I_ A_ X_ M_ s0_ pr_ p_ o_ g_ c_ res_ S0_ u_ S1_) := by
  have hF_ : ai_fr (sx_W vw_320g) S0_ S0_ := ai_fr_rf
  obtain ⟨i_, hi1_, hi2_⟩ := id hz_.1.1.2
  have hT_ := ht_.2.1
  have hi9_ := hi2_.1
  refine sm_T_go 1 (c1 := (1, [some (.inr (.inr (some (13, 0)))), some (.inl a_), none], [.inr (.inr (some (13, 0)))], S0_)) rfl ?_
  refine sm_T_cal (d1 := 1) (Q1 := vq_310 b_ n_ T_ (.inr p_) 1 S0_) rfl rfl (by decide) (vc_310 b_ n_ T_ (.inr p_) 1 S0_ hI_ (by exact ht_) (by exact hz_.1.1) (by exact ⟨hz_.1.2.2.2.2, by decide⟩)) (fun u_ Sx1_ px4_ => ?_)
  obtain ⟨rfl, vx6_, rfl, px4_⟩ := px4_
  have e1_ : (vx6_ = 1 ↔ 0 < p_lv false (lx_kd b_ n_ p_)) ∧ (vx6_ = 1 → S0_.2.2.1 119 0 (S0_.1 13 0 9).toNat = 3 ∧ S0_.2.2.1 121 0 (S0_.1 13 0 9).toNat = lx_kd b_ n_ p_ ∧ p_lv false (lx_kd b_ n_ p_) = p_lv false (lx_kd b_ n_ p_)) := px4_.2 p_ rfl
  have r1_ := px4_.1
  refine sm_T_b0 (a := 0) (z := 18) rfl (fun cx7_ => ?_) (fun cx7_ => ?_)
  · have cx7_ : vx6_ = 0 := of_decide_eq_true cx7_
    have l0_ : ¬ 0 < p_lv false (lx_kd b_ n_ p_) := fun z_ => by have := e1_.1.mpr z_; omega
    have hB_ : p_B2 b_ n_ false p_ (o_, g_, c_) = .inr res_ := by have q9_ := hst_; rw [pB_n l0_] at q9_; exact q9_
    obtain ⟨s4_, es4_, hs4_⟩ : ∃ s4_, s4_ = (o_, g_, c_) ∧ p_se2 1 6 (o_, g_, c_) = .inr s4_ := ⟨_, rfl, p_se_st (by have z9_ : -4 ≤ o_tp o_ ∧ o_tp o_ ≤ 5 := o_tp5 hz_.2.1.2.1.1; show o_tp o_ < 6; omega)⟩
    refine sm_T_go 9 (c1 := (44, [some (.inr (.inr (some (13, 0)))), some (.inl a_), some (.inl 0)], [.inl 6, .inr (.inr (some (13, 0)))], S0_)) rfl ?_
    refine sm_T_cal (d1 := 5) (Q1 := vq_315g 6 b_ n_ T_ p_ F_ I_ A_ X_ M_ s0_ (o_, g_, c_) s4_ S0_) rfl rfl (by decide) (vc_315g 6 b_ n_ T_ p_ F_ I_ A_ X_ M_ s0_ (o_, g_, c_) s4_ S0_ hI_ (by exact ht_) (by exact rz_x hz_) (by omega) (by first | exact hs4_ | (have q9_ := hs4_; rw [if_pos (by omega)] at q9_; exact q9_) | (have q9_ := hs4_; rw [if_neg (by omega), ← l16_] at q9_; exact q9_))) (fun u_ Sx8_ px11_ => ?_)
    obtain ⟨rfl, hIx9_, hFx10_, px11_⟩ := px11_
    have hFx12_ : ai_fr (sx_W vw_320g) S0_ Sx8_ := ai_fr_tr hF_ (fr_le hFx10_ rfl)
    have e44_ := px11_
    obtain ⟨w4_, ws4_, wl4_, ok4_, g4_, op4_, vs4_, m4_⟩ := rz_ws e44_.1
    have wx4_ := ws4_.1
    have wll4_ := wl_len wl4_
    have lim4_ := o_lim ok4_.1 ok4_.2.1
    have gl4_ : (s4_).2.1.length = o_hl (s4_).1 + 1 := ok4_.2.2.1
    have t44_ := rtab_fr ht_ hFx10_ rfl rfl rfl rfl rfl
    have at44_ := hFx10_.1 13 0 9 rfl
    have nb44_ : Sx8_.2.2.1 121 0 (Sx8_.1 13 0 9).toNat = S0_.2.2.1 121 0 (S0_.1 13 0 9).toNat := by rw [fr_arr hFx10_ rfl, at44_]
    refine sm_T_go 2 (c1 := (89, [some (.inr (.inr (some (13, 0)))), some (.inl a_), some (.inl 0)], [], Sx8_)) rfl ?_
    refine sm_T_wk [some (.inr (.inr (some (13, 0)))), some (.inl a_), none] (by exact ⟨rfl, rfl, trivial⟩) ?_
    refine (vl_320g a_ b_ n_ T_ F_ I_ A_ X_ M_ s0_ pr_ p_ o_ g_ c_ res_ S0_ ha_ ht_ hpr_ hz_ hst_ _)  Sx8_ hIx9_ hFx12_ ⟨?_, trivial⟩ (Nat.lt_succ_self _)
    · first | (exact ⟨s4_, e44_.1, by rw [es4_]; exact hB_⟩) | (exfalso; omega) | (refine ⟨s4_, e44_.1, ?_⟩; rcases B1_r hB1_ l1_ with z_ | z_; (exfalso; have z1_ := z_.1; have z3_ := (wl_tp wl4_ ok4_.1).2.2.1.mp (by omega); omega); (exact z_.2))
  · have cx7_ : ¬ (vx6_ = 0) := of_decide_eq_false cx7_
    have l1_ : 0 < p_lv false (lx_kd b_ n_ p_) := e1_.1.mp (by omega)
    have l2_ := e1_.2 (by omega)
    have l3_ := lv_all l1_
    obtain ⟨s4_, hs4_, hB1_⟩ : ∃ s4_, p_se2 1 (if p_lv false (lx_kd b_ n_ p_) = 4 then 5 else p_lv false (lx_kd b_ n_ p_)) (o_, g_, c_) = .inr s4_ ∧ p_B1 b_ n_ false p_ (p_lv false (lx_kd b_ n_ p_)) s4_ = .inr res_ := by have q9_ := hst_; rw [pB_l l1_] at q9_; exact pb_inr q9_
    have bx13_ : 0 ≤ S0_.1 13 0 9 ∧ S0_.1 13 0 9 ≤ 1280 := hI_.1 13 0 9 rfl
    refine sm_T_go 4 (c1 := (15, [some (.inr (.inr (some (13, 0)))), some (.inl a_), none], [.inl (S0_.1 13 0 9), .inr (.inr (some (121, 0)))], S0_)) rfl ?_
    refine sm_T_iald (n := 65537) rfl rfl (by omega) (by omega) ?_
    have bx14_ : (-2147483648) ≤ S0_.2.2.1 121 0 (S0_.1 13 0 9).toNat ∧ S0_.2.2.1 121 0 (S0_.1 13 0 9).toNat ≤ 2147483647 := hI_.2 121 0 _
    refine sm_T_cal (d1 := 0) (Q1 := vq_309 (S0_.2.2.1 121 0 (S0_.1 13 0 9).toNat) S0_) rfl rfl (by decide) (vc_309 (S0_.2.2.1 121 0 (S0_.1 13 0 9).toNat) S0_ hI_ ) (fun u_ Sx15_ px18_ => ?_)
    obtain ⟨rfl, vx20_, rfl, px18_⟩ := px18_
    have l16_ : vx20_ = p_lv false (lx_kd b_ n_ p_) := by rw [px18_, l2_.2.1]
    have n16_ := l2_.2.1
    refine sm_T_go 5 (c1 := (27, [some (.inr (.inr (some (13, 0)))), some (.inl a_), some (.inl vx20_)], [.inl 4, .inl vx20_, .inr (.inr (some (13, 0)))], S0_)) rfl ?_
    refine sm_T_br (a := 1) (z := 7) rfl (fun cx21_ => ?_) (fun cx21_ => ?_)
    · have cx21_ : vx20_ ≠ 4 := of_decide_eq_true cx21_
      refine sm_T_go 1 (c1 := (35, [some (.inr (.inr (some (13, 0)))), some (.inl a_), some (.inl vx20_)], [.inl vx20_, .inr (.inr (some (13, 0)))], S0_)) rfl ?_
      refine sm_T_b0 (a := 5) (z := 7) rfl (fun cx22_ => ?_) (fun cx22_ => ?_)
      · have cx22_ : vx20_ ≤ 0 := of_decide_eq_true cx22_
        exfalso; omega
      · have cx22_ : ¬ (vx20_ ≤ 0) := of_decide_eq_false cx22_
        refine sm_T_go 2 (c1 := (44, [some (.inr (.inr (some (13, 0)))), some (.inl a_), some (.inl vx20_)], [.inl vx20_, .inr (.inr (some (13, 0)))], S0_)) rfl ?_
        refine sm_T_cal (d1 := 5) (Q1 := vq_315g vx20_ b_ n_ T_ p_ F_ I_ A_ X_ M_ s0_ (o_, g_, c_) s4_ S0_) rfl rfl (by decide) (vc_315g vx20_ b_ n_ T_ p_ F_ I_ A_ X_ M_ s0_ (o_, g_, c_) s4_ S0_ hI_ (by exact ht_) (by exact rz_x hz_) (by omega) (by first | exact hs4_ | (have q9_ := hs4_; rw [if_pos (by omega)] at q9_; exact q9_) | (have q9_ := hs4_; rw [if_neg (by omega), ← l16_] at q9_; exact q9_))) (fun u_ Sx23_ px26_ => ?_)
        obtain ⟨rfl, hIx24_, hFx25_, px26_⟩ := px26_
        have hFx27_ : ai_fr (sx_W vw_320g) S0_ Sx23_ := ai_fr_tr hF_ (fr_le hFx25_ rfl)
        have ex28_ : Sx23_.1 13 0 9 = S0_.1 13 0 9 := hFx25_.1 13 0 9 rfl
        have e44_ := px26_
        obtain ⟨w4_, ws4_, wl4_, ok4_, g4_, op4_, vs4_, m4_⟩ := rz_ws e44_.1
        have wx4_ := ws4_.1
        have wll4_ := wl_len wl4_
        have lim4_ := o_lim ok4_.1 ok4_.2.1
        have gl4_ : (s4_).2.1.length = o_hl (s4_).1 + 1 := ok4_.2.2.1
        have t44_ := rtab_fr ht_ hFx25_ rfl rfl rfl rfl rfl
        have at44_ := hFx25_.1 13 0 9 rfl
        have nb44_ : Sx23_.2.2.1 121 0 (Sx23_.1 13 0 9).toNat = S0_.2.2.1 121 0 (S0_.1 13 0 9).toNat := by rw [fr_arr hFx25_ rfl, at44_]
        refine sm_T_go 1 (c1 := (48, [some (.inr (.inr (some (13, 0)))), some (.inl a_), some (.inl vx20_)], [.inl vx20_], Sx23_)) rfl ?_
        refine sm_T_b0 (a := 5) (z := 41) rfl (fun cx29_ => ?_) (fun cx29_ => ?_)
        · have cx29_ : vx20_ ≤ 0 := of_decide_eq_true cx29_
          exfalso; omega
        · have cx29_ : ¬ (vx20_ ≤ 0) := of_decide_eq_false cx29_
          refine sm_T_go 2 (c1 := (53, [some (.inr (.inr (some (13, 0)))), some (.inl a_), some (.inl vx20_)], [.inl 4, .inl vx20_], Sx23_)) rfl ?_
          refine sm_T_br (a := 1) (z := 13) rfl (fun cx30_ => ?_) (fun cx30_ => ?_)
          · have cx30_ : vx20_ ≠ 4 := of_decide_eq_true cx30_
            have bx31_ : 0 ≤ Sx23_.1 13 0 9 ∧ Sx23_.1 13 0 9 ≤ 1280 := hIx24_.1 13 0 9 rfl
            refine sm_T_go 5 (c1 := (75, [some (.inr (.inr (some (13, 0)))), some (.inl a_), some (.inl vx20_)], [.inl (Sx23_.1 13 0 9), .inr (.inr (some (121, 0))), .inr (.inr (some (13, 0)))], Sx23_)) rfl ?_
            refine sm_T_iald (n := 65537) rfl rfl (by omega) (by omega) ?_
            have bx32_ : (-2147483648) ≤ Sx23_.2.2.1 121 0 (Sx23_.1 13 0 9).toNat ∧ Sx23_.2.2.1 121 0 (Sx23_.1 13 0 9).toNat ≤ 2147483647 := hIx24_.2 121 0 _
            refine sm_T_go 2 (c1 := (80, [some (.inr (.inr (some (13, 0)))), some (.inl a_), some (.inl vx20_)], [.inl (Sx23_.1 13 0 9), .inl (Sx23_.2.2.1 121 0 (Sx23_.1 13 0 9).toNat), .inr (.inr (some (13, 0)))], Sx23_)) rfl ?_
            refine sm_T_cal (d1 := 0) (Q1 := vq_311 (Sx23_.2.2.1 121 0 (Sx23_.1 13 0 9).toNat) (Sx23_.1 13 0 9) w4_ Sx23_) rfl rfl (by decide) (vc_311 (Sx23_.2.2.1 121 0 (Sx23_.1 13 0 9).toNat) (Sx23_.1 13 0 9) w4_ Sx23_ hIx24_ (by exact ws4_) (by omega) (by omega) (by omega)) (fun u_ Sx33_ px36_ => ?_)
            obtain ⟨rfl, hIx34_, hFx35_, px36_⟩ := px36_
            have hFx37_ : ai_fr (sx_W vw_320g) S0_ Sx33_ := ai_fr_tr hFx27_ (fr_le hFx35_ rfl)
            have ex38_ : Sx33_.1 13 0 9 = Sx23_.1 13 0 9 := hFx35_.1 13 0 9 rfl
            have ws80_ := px36_
            have g80_ := rg_fr g4_ hFx35_ rfl rfl rfl
            have t80_ := rtab_fr t44_ hFx35_ rfl rfl rfl rfl rfl
            rw [nb44_, at44_, n16_, hi1_] at ws80_
            have x80_ := xg_fr e44_.1.2.1 hFx35_ rfl rfl rfl rfl rfl rfl rfl rfl
            have v80_ := vs_fr vs4_ hFx35_ rfl rfl rfl
            have o80_ := (hFx35_.1 13 0 33 rfl).trans op4_
            have m80_ := (hFx35_.1 13 0 27 rfl).trans m4_
            refine sm_T_go 1 (c1 := (84, [some (.inr (.inr (some (13, 0)))), some (.inl a_), some (.inl vx20_)], [.inr (.inr (some (13, 0)))], Sx33_)) rfl ?_
            refine sm_T_cal (d1 := 2) (Q1 := vq_297 b_ n_ T_ (.inr p_) Sx33_) rfl rfl (by decide) (vc_297 b_ n_ T_ (.inr p_) Sx33_ hIx34_ (by exact t80_) (by exact g80_) (by (intro q_ e_; cases e_; omega))) (fun u_ Sx39_ px42_ => ?_)
            obtain ⟨rfl, hIx40_, hFx41_, px42_⟩ := px42_
            have hFx43_ : ai_fr (sx_W vw_320g) S0_ Sx39_ := ai_fr_tr hFx37_ (fr_le hFx41_ rfl)
            have g84_ := px42_.1
            have ws84_ := ws_fr ws80_ hFx41_ rfl rfl rfl
            have x84_ := xg_fr x80_ hFx41_ rfl rfl rfl rfl rfl rfl rfl rfl
            have v84_ := vs_fr v80_ hFx41_ rfl rfl rfl
            have o84_ := (hFx41_.1 13 0 33 rfl).trans o80_
            have m84_ := (hFx41_.1 13 0 27 rfl).trans m80_
            refine sm_T_go 1 (c1 := (88, [some (.inr (.inr (some (13, 0)))), some (.inl a_), some (.inl vx20_)], [.inl 0], Sx39_)) rfl ?_
            refine sm_T_ri rfl ⟨_, _, rfl, _, rfl, hIx40_, hFx43_, ?_⟩
            obtain ⟨q_, q1_, q2_⟩ : ∃ q_, p_ad b_ n_ p_ = .inr q_ ∧ res_ = .inl (0, false, q_, (p_lv false (lx_kd b_ n_ p_), p_) :: s4_.1, s4_.2.1, s4_.2.2) := by rcases B1_r hB1_ l1_ with z_ | z_; (exact z_.2); (exfalso; have z1_ := z_.1; first | omega | (have z2_ := (wl_tp wl4_ ok4_.1).2.2.1.mpr z1_.2; omega))
            rw [pb_r rfl, q1_] at g84_
            have xk_ : x_ok b_ n_ false (0, false, q_, (p_lv false (lx_kd b_ n_ p_), p_) :: s4_.1, s4_.2.1, s4_.2.2) := x_st ht_.1 hpr_ hz_.2.1 (by rw [hst_, q2_])
            rw [q2_]
            refine ⟨⟨⟨g84_, ⟨_, ws84_, Or.inl ⟨rfl, Or.inl ⟨rfl, ⟨(i_ : Int), w4_, by rw [l3_.1], rp_rtp ht_ hi2_ (by omega), Or.inl ⟨by omega, wl4_⟩⟩⟩⟩⟩, ?_, v84_, m84_⟩, xk_, x84_, ?_⟩, rfl⟩
            · rw [o84_]; show _ = (((if p_lv false (lx_kd b_ n_ p_) < 0 then 1 else 0) + o_mk s4_.1 : Nat) : Int); rw [if_neg (by omega)]; simp
            · show o_wd ((p_lv false (lx_kd b_ n_ p_), p_) :: s4_.1) s4_.2.1; obtain ⟨a9_, g9_, hg9_⟩ := s_ok_1 ok4_; have q9_ := e44_.1.2.2; rw [hg9_] at q9_ ⊢; unfold o_wd; rw [if_neg (by show ¬ p_lv false (lx_kd b_ n_ p_) = -3; omega), if_neg (by show ¬ p_lv false (lx_kd b_ n_ p_) = -4; omega), if_neg (by show ¬ p_lv false (lx_kd b_ n_ p_) < 0; omega)]; exact q9_
          · have cx30_ : ¬ (vx20_ ≠ 4) := of_decide_eq_false cx30_
            refine sm_T_go 1 (c1 := (57, [some (.inr (.inr (some (13, 0)))), some (.inl a_), some (.inl vx20_)], [.inr (.inr (some (13, 0)))], Sx23_)) rfl ?_
            refine sm_T_cal (d1 := 0) (Q1 := vq_312 w4_ Sx23_) rfl rfl (by decide) (vc_312 w4_ Sx23_ hIx24_ (by exact ws4_)) (fun u_ Sx44_ px47_ => ?_)
            obtain ⟨rfl, vx49_, rfl, px47_⟩ := px47_
            have e57_ := px47_
            refine sm_T_go 1 (c1 := (63, [some (.inr (.inr (some (13, 0)))), some (.inl a_), some (.inl vx20_)], [.inl 257, .inl vx49_], Sx23_)) rfl ?_
            refine sm_T_br (a := 0) (z := 26) rfl (fun cx50_ => ?_) (fun cx50_ => ?_)
            · have cx50_ : vx49_ = 257 := of_decide_eq_true cx50_
              refine sm_T_go 0 (c1 := (89, [some (.inr (.inr (some (13, 0)))), some (.inl a_), some (.inl vx20_)], [], Sx23_)) rfl ?_
              refine sm_T_wk [some (.inr (.inr (some (13, 0)))), some (.inl a_), none] (by exact ⟨rfl, rfl, trivial⟩) ?_
              refine (vl_320g a_ b_ n_ T_ F_ I_ A_ X_ M_ s0_ pr_ p_ o_ g_ c_ res_ S0_ ha_ ht_ hpr_ hz_ hst_ _)  Sx23_ hIx24_ hFx27_ ⟨?_, trivial⟩ (Nat.lt_succ_self _)
              · first | (exact ⟨s4_, e44_.1, by rw [es4_]; exact hB_⟩) | (exfalso; omega) | (refine ⟨s4_, e44_.1, ?_⟩; rcases B1_r hB1_ l1_ with z_ | z_; (exfalso; have z1_ := z_.1; have z3_ := (wl_tp wl4_ ok4_.1).2.2.1.mp (by omega); omega); (exact z_.2))
            · have cx50_ : ¬ (vx49_ = 257) := of_decide_eq_false cx50_
              have bx51_ : 0 ≤ Sx23_.1 13 0 9 ∧ Sx23_.1 13 0 9 ≤ 1280 := hIx24_.1 13 0 9 rfl
              refine sm_T_go 5 (c1 := (75, [some (.inr (.inr (some (13, 0)))), some (.inl a_), some (.inl vx20_)], [.inl (Sx23_.1 13 0 9), .inr (.inr (some (121, 0))), .inr (.inr (some (13, 0)))], Sx23_)) rfl ?_
              refine sm_T_iald (n := 65537) rfl rfl (by omega) (by omega) ?_
              have bx52_ : (-2147483648) ≤ Sx23_.2.2.1 121 0 (Sx23_.1 13 0 9).toNat ∧ Sx23_.2.2.1 121 0 (Sx23_.1 13 0 9).toNat ≤ 2147483647 := hIx24_.2 121 0 _
              refine sm_T_go 2 (c1 := (80, [some (.inr (.inr (some (13, 0)))), some (.inl a_), some (.inl vx20_)], [.inl (Sx23_.1 13 0 9), .inl (Sx23_.2.2.1 121 0 (Sx23_.1 13 0 9).toNat), .inr (.inr (some (13, 0)))], Sx23_)) rfl ?_
              refine sm_T_cal (d1 := 0) (Q1 := vq_311 (Sx23_.2.2.1 121 0 (Sx23_.1 13 0 9).toNat) (Sx23_.1 13 0 9) w4_ Sx23_) rfl rfl (by decide) (vc_311 (Sx23_.2.2.1 121 0 (Sx23_.1 13 0 9).toNat) (Sx23_.1 13 0 9) w4_ Sx23_ hIx24_ (by exact ws4_) (by omega) (by omega) (by omega)) (fun u_ Sx53_ px56_ => ?_)
              obtain ⟨rfl, hIx54_, hFx55_, px56_⟩ := px56_
              have hFx57_ : ai_fr (sx_W vw_320g) S0_ Sx53_ := ai_fr_tr hFx27_ (fr_le hFx55_ rfl)
              have ex58_ : Sx53_.1 13 0 9 = Sx23_.1 13 0 9 := hFx55_.1 13 0 9 rfl
              have ws80_ := px56_
              have g80_ := rg_fr g4_ hFx55_ rfl rfl rfl
              have t80_ := rtab_fr t44_ hFx55_ rfl rfl rfl rfl rfl
              rw [nb44_, at44_, n16_, hi1_] at ws80_
              have x80_ := xg_fr e44_.1.2.1 hFx55_ rfl rfl rfl rfl rfl rfl rfl rfl
              have v80_ := vs_fr vs4_ hFx55_ rfl rfl rfl
              have o80_ := (hFx55_.1 13 0 33 rfl).trans op4_
              have m80_ := (hFx55_.1 13 0 27 rfl).trans m4_
              refine sm_T_go 1 (c1 := (84, [some (.inr (.inr (some (13, 0)))), some (.inl a_), some (.inl vx20_)], [.inr (.inr (some (13, 0)))], Sx53_)) rfl ?_
              refine sm_T_cal (d1 := 2) (Q1 := vq_297 b_ n_ T_ (.inr p_) Sx53_) rfl rfl (by decide) (vc_297 b_ n_ T_ (.inr p_) Sx53_ hIx54_ (by exact t80_) (by exact g80_) (by (intro q_ e_; cases e_; omega))) (fun u_ Sx59_ px62_ => ?_)
              obtain ⟨rfl, hIx60_, hFx61_, px62_⟩ := px62_
              have hFx63_ : ai_fr (sx_W vw_320g) S0_ Sx59_ := ai_fr_tr hFx57_ (fr_le hFx61_ rfl)
              have g84_ := px62_.1
              have ws84_ := ws_fr ws80_ hFx61_ rfl rfl rfl
              have x84_ := xg_fr x80_ hFx61_ rfl rfl rfl rfl rfl rfl rfl rfl
              have v84_ := vs_fr v80_ hFx61_ rfl rfl rfl
              have o84_ := (hFx61_.1 13 0 33 rfl).trans o80_
              have m84_ := (hFx61_.1 13 0 27 rfl).trans m80_
              refine sm_T_go 1 (c1 := (88, [some (.inr (.inr (some (13, 0)))), some (.inl a_), some (.inl vx20_)], [.inl 0], Sx59_)) rfl ?_
              refine sm_T_ri rfl ⟨_, _, rfl, _, rfl, hIx60_, hFx63_, ?_⟩
              obtain ⟨q_, q1_, q2_⟩ : ∃ q_, p_ad b_ n_ p_ = .inr q_ ∧ res_ = .inl (0, false, q_, (p_lv false (lx_kd b_ n_ p_), p_) :: s4_.1, s4_.2.1, s4_.2.2) := by rcases B1_r hB1_ l1_ with z_ | z_; (exact z_.2); (exfalso; have z1_ := z_.1; first | omega | (have z2_ := (wl_tp wl4_ ok4_.1).2.2.1.mpr z1_.2; omega))
              rw [pb_r rfl, q1_] at g84_
              have xk_ : x_ok b_ n_ false (0, false, q_, (p_lv false (lx_kd b_ n_ p_), p_) :: s4_.1, s4_.2.1, s4_.2.2) := x_st ht_.1 hpr_ hz_.2.1 (by rw [hst_, q2_])
              rw [q2_]
              refine ⟨⟨⟨g84_, ⟨_, ws84_, Or.inl ⟨rfl, Or.inl ⟨rfl, ⟨(i_ : Int), w4_, by rw [l3_.1], rp_rtp ht_ hi2_ (by omega), Or.inl ⟨by omega, wl4_⟩⟩⟩⟩⟩, ?_, v84_, m84_⟩, xk_, x84_, ?_⟩, rfl⟩
              · rw [o84_]; show _ = (((if p_lv false (lx_kd b_ n_ p_) < 0 then 1 else 0) + o_mk s4_.1 : Nat) : Int); rw [if_neg (by omega)]; simp
              · show o_wd ((p_lv false (lx_kd b_ n_ p_), p_) :: s4_.1) s4_.2.1; obtain ⟨a9_, g9_, hg9_⟩ := s_ok_1 ok4_; have q9_ := e44_.1.2.2; rw [hg9_] at q9_ ⊢; unfold o_wd; rw [if_neg (by show ¬ p_lv false (lx_kd b_ n_ p_) = -3; omega), if_neg (by show ¬ p_lv false (lx_kd b_ n_ p_) = -4; omega), if_neg (by show ¬ p_lv false (lx_kd b_ n_ p_) < 0; omega)]; exact q9_
    · have cx21_ : ¬ (vx20_ ≠ 4) := of_decide_eq_false cx21_
      refine sm_T_go 2 (c1 := (44, [some (.inr (.inr (some (13, 0)))), some (.inl a_), some (.inl vx20_)], [.inl 5, .inr (.inr (some (13, 0)))], S0_)) rfl ?_
      refine sm_T_cal (d1 := 5) (Q1 := vq_315g 5 b_ n_ T_ p_ F_ I_ A_ X_ M_ s0_ (o_, g_, c_) s4_ S0_) rfl rfl (by decide) (vc_315g 5 b_ n_ T_ p_ F_ I_ A_ X_ M_ s0_ (o_, g_, c_) s4_ S0_ hI_ (by exact ht_) (by exact rz_x hz_) (by omega) (by first | exact hs4_ | (have q9_ := hs4_; rw [if_pos (by omega)] at q9_; exact q9_) | (have q9_ := hs4_; rw [if_neg (by omega), ← l16_] at q9_; exact q9_))) (fun u_ Sx64_ px67_ => ?_)
      obtain ⟨rfl, hIx65_, hFx66_, px67_⟩ := px67_
      have hFx68_ : ai_fr (sx_W vw_320g) S0_ Sx64_ := ai_fr_tr hF_ (fr_le hFx66_ rfl)
      have ex69_ : Sx64_.1 13 0 9 = S0_.1 13 0 9 := hFx66_.1 13 0 9 rfl
      have e44_ := px67_
      obtain ⟨w4_, ws4_, wl4_, ok4_, g4_, op4_, vs4_, m4_⟩ := rz_ws e44_.1
      have wx4_ := ws4_.1
      have wll4_ := wl_len wl4_
      have lim4_ := o_lim ok4_.1 ok4_.2.1
      have gl4_ : (s4_).2.1.length = o_hl (s4_).1 + 1 := ok4_.2.2.1
      have t44_ := rtab_fr ht_ hFx66_ rfl rfl rfl rfl rfl
      have at44_ := hFx66_.1 13 0 9 rfl
      have nb44_ : Sx64_.2.2.1 121 0 (Sx64_.1 13 0 9).toNat = S0_.2.2.1 121 0 (S0_.1 13 0 9).toNat := by rw [fr_arr hFx66_ rfl, at44_]
      refine sm_T_go 1 (c1 := (48, [some (.inr (.inr (some (13, 0)))), some (.inl a_), some (.inl vx20_)], [.inl vx20_], Sx64_)) rfl ?_
      refine sm_T_b0 (a := 5) (z := 41) rfl (fun cx70_ => ?_) (fun cx70_ => ?_)
      · have cx70_ : vx20_ ≤ 0 := of_decide_eq_true cx70_
        exfalso; omega
      · have cx70_ : ¬ (vx20_ ≤ 0) := of_decide_eq_false cx70_
        refine sm_T_go 2 (c1 := (53, [some (.inr (.inr (some (13, 0)))), some (.inl a_), some (.inl vx20_)], [.inl 4, .inl vx20_], Sx64_)) rfl ?_
        refine sm_T_br (a := 1) (z := 13) rfl (fun cx71_ => ?_) (fun cx71_ => ?_)
        · have cx71_ : vx20_ ≠ 4 := of_decide_eq_true cx71_
          exfalso; omega
        · have cx71_ : ¬ (vx20_ ≠ 4) := of_decide_eq_false cx71_
          refine sm_T_go 1 (c1 := (57, [some (.inr (.inr (some (13, 0)))), some (.inl a_), some (.inl vx20_)], [.inr (.inr (some (13, 0)))], Sx64_)) rfl ?_
          refine sm_T_cal (d1 := 0) (Q1 := vq_312 w4_ Sx64_) rfl rfl (by decide) (vc_312 w4_ Sx64_ hIx65_ (by exact ws4_)) (fun u_ Sx72_ px75_ => ?_)
          obtain ⟨rfl, vx77_, rfl, px75_⟩ := px75_
          have e57_ := px75_
          refine sm_T_go 1 (c1 := (63, [some (.inr (.inr (some (13, 0)))), some (.inl a_), some (.inl vx20_)], [.inl 257, .inl vx77_], Sx64_)) rfl ?_
          refine sm_T_br (a := 0) (z := 26) rfl (fun cx78_ => ?_) (fun cx78_ => ?_)
          · have cx78_ : vx77_ = 257 := of_decide_eq_true cx78_
            refine sm_T_go 0 (c1 := (89, [some (.inr (.inr (some (13, 0)))), some (.inl a_), some (.inl vx20_)], [], Sx64_)) rfl ?_
            refine sm_T_wk [some (.inr (.inr (some (13, 0)))), some (.inl a_), none] (by exact ⟨rfl, rfl, trivial⟩) ?_
            refine (vl_320g a_ b_ n_ T_ F_ I_ A_ X_ M_ s0_ pr_ p_ o_ g_ c_ res_ S0_ ha_ ht_ hpr_ hz_ hst_ _)  Sx64_ hIx65_ hFx68_ ⟨?_, trivial⟩ (Nat.lt_succ_self _)
            · first | (exact ⟨s4_, e44_.1, by rw [es4_]; exact hB_⟩) | (exfalso; omega) | (refine ⟨s4_, e44_.1, ?_⟩; rcases B1_r hB1_ l1_ with z_ | z_; (exfalso; have z1_ := z_.1; have z3_ := (wl_tp wl4_ ok4_.1).2.2.1.mp (by omega); omega); (exact z_.2))
          · have cx78_ : ¬ (vx77_ = 257) := of_decide_eq_false cx78_
            have bx79_ : 0 ≤ Sx64_.1 13 0 9 ∧ Sx64_.1 13 0 9 ≤ 1280 := hIx65_.1 13 0 9 rfl
            refine sm_T_go 5 (c1 := (75, [some (.inr (.inr (some (13, 0)))), some (.inl a_), some (.inl vx20_)], [.inl (Sx64_.1 13 0 9), .inr (.inr (some (121, 0))), .inr (.inr (some (13, 0)))], Sx64_)) rfl ?_
            refine sm_T_iald (n := 65537) rfl rfl (by omega) (by omega) ?_
            have bx80_ : (-2147483648) ≤ Sx64_.2.2.1 121 0 (Sx64_.1 13 0 9).toNat ∧ Sx64_.2.2.1 121 0 (Sx64_.1 13 0 9).toNat ≤ 2147483647 := hIx65_.2 121 0 _
            refine sm_T_go 2 (c1 := (80, [some (.inr (.inr (some (13, 0)))), some (.inl a_), some (.inl vx20_)], [.inl (Sx64_.1 13 0 9), .inl (Sx64_.2.2.1 121 0 (Sx64_.1 13 0 9).toNat), .inr (.inr (some (13, 0)))], Sx64_)) rfl ?_
            refine sm_T_cal (d1 := 0) (Q1 := vq_311 (Sx64_.2.2.1 121 0 (Sx64_.1 13 0 9).toNat) (Sx64_.1 13 0 9) w4_ Sx64_) rfl rfl (by decide) (vc_311 (Sx64_.2.2.1 121 0 (Sx64_.1 13 0 9).toNat) (Sx64_.1 13 0 9) w4_ Sx64_ hIx65_ (by exact ws4_) (by omega) (by omega) (by omega)) (fun u_ Sx81_ px84_ => ?_)
            obtain ⟨rfl, hIx82_, hFx83_, px84_⟩ := px84_
            have hFx85_ : ai_fr (sx_W vw_320g) S0_ Sx81_ := ai_fr_tr hFx68_ (fr_le hFx83_ rfl)
            have ex86_ : Sx81_.1 13 0 9 = Sx64_.1 13 0 9 := hFx83_.1 13 0 9 rfl
            have ws80_ := px84_
            have g80_ := rg_fr g4_ hFx83_ rfl rfl rfl
            have t80_ := rtab_fr t44_ hFx83_ rfl rfl rfl rfl rfl
            rw [nb44_, at44_, n16_, hi1_] at ws80_
            have x80_ := xg_fr e44_.1.2.1 hFx83_ rfl rfl rfl rfl rfl rfl rfl rfl
            have v80_ := vs_fr vs4_ hFx83_ rfl rfl rfl
            have o80_ := (hFx83_.1 13 0 33 rfl).trans op4_
            have m80_ := (hFx83_.1 13 0 27 rfl).trans m4_
            refine sm_T_go 1 (c1 := (84, [some (.inr (.inr (some (13, 0)))), some (.inl a_), some (.inl vx20_)], [.inr (.inr (some (13, 0)))], Sx81_)) rfl ?_
            refine sm_T_cal (d1 := 2) (Q1 := vq_297 b_ n_ T_ (.inr p_) Sx81_) rfl rfl (by decide) (vc_297 b_ n_ T_ (.inr p_) Sx81_ hIx82_ (by exact t80_) (by exact g80_) (by (intro q_ e_; cases e_; omega))) (fun u_ Sx87_ px90_ => ?_)
            obtain ⟨rfl, hIx88_, hFx89_, px90_⟩ := px90_
            have hFx91_ : ai_fr (sx_W vw_320g) S0_ Sx87_ := ai_fr_tr hFx85_ (fr_le hFx89_ rfl)
            have g84_ := px90_.1
            have ws84_ := ws_fr ws80_ hFx89_ rfl rfl rfl
            have x84_ := xg_fr x80_ hFx89_ rfl rfl rfl rfl rfl rfl rfl rfl
            have v84_ := vs_fr v80_ hFx89_ rfl rfl rfl
            have o84_ := (hFx89_.1 13 0 33 rfl).trans o80_
            have m84_ := (hFx89_.1 13 0 27 rfl).trans m80_
            refine sm_T_go 1 (c1 := (88, [some (.inr (.inr (some (13, 0)))), some (.inl a_), some (.inl vx20_)], [.inl 0], Sx87_)) rfl ?_
            refine sm_T_ri rfl ⟨_, _, rfl, _, rfl, hIx88_, hFx91_, ?_⟩
            obtain ⟨q_, q1_, q2_⟩ : ∃ q_, p_ad b_ n_ p_ = .inr q_ ∧ res_ = .inl (0, false, q_, (p_lv false (lx_kd b_ n_ p_), p_) :: s4_.1, s4_.2.1, s4_.2.2) := by rcases B1_r hB1_ l1_ with z_ | z_; (exact z_.2); (exfalso; have z1_ := z_.1; first | omega | (have z2_ := (wl_tp wl4_ ok4_.1).2.2.1.mpr z1_.2; omega))
            rw [pb_r rfl, q1_] at g84_
            have xk_ : x_ok b_ n_ false (0, false, q_, (p_lv false (lx_kd b_ n_ p_), p_) :: s4_.1, s4_.2.1, s4_.2.2) := x_st ht_.1 hpr_ hz_.2.1 (by rw [hst_, q2_])
            rw [q2_]
            refine ⟨⟨⟨g84_, ⟨_, ws84_, Or.inl ⟨rfl, Or.inl ⟨rfl, ⟨(i_ : Int), w4_, by rw [l3_.1], rp_rtp ht_ hi2_ (by omega), Or.inl ⟨by omega, wl4_⟩⟩⟩⟩⟩, ?_, v84_, m84_⟩, xk_, x84_, ?_⟩, rfl⟩
            · rw [o84_]; show _ = (((if p_lv false (lx_kd b_ n_ p_) < 0 then 1 else 0) + o_mk s4_.1 : Nat) : Int); rw [if_neg (by omega)]; simp
            · show o_wd ((p_lv false (lx_kd b_ n_ p_), p_) :: s4_.1) s4_.2.1; obtain ⟨a9_, g9_, hg9_⟩ := s_ok_1 ok4_; have q9_ := e44_.1.2.2; rw [hg9_] at q9_ ⊢; unfold o_wd; rw [if_neg (by show ¬ p_lv false (lx_kd b_ n_ p_) = -3; omega), if_neg (by show ¬ p_lv false (lx_kd b_ n_ p_) = -4; omega), if_neg (by show ¬ p_lv false (lx_kd b_ n_ p_) < 0; omega)]; exact q9_
