/-! 99.zc9a -/
section
/-! the reference: expressions, second pass; written by wip/p55/gen/vg -/

/-! behind an_ operand, second pass -/
theorem B1_r {b_ : Nat → Int} {n_ p_ : Nat} {L_ : Int} {s_ : pO} {res_ : pX ⊕ pR} (h_ : p_B1 b_ n_ false p_ L_ s_ = .inr res_) (h0_ : 0 < L_) : ((L_ ≠ 4 ∨ o_tp s_.1 ≠ 4) ∧ ∃ q_, p_ad b_ n_ p_ = .inr q_ ∧ res_ = .inl (0, false, q_, (L_, p_) :: s_.1, s_.2.1, s_.2.2)) ∨ ((L_ = 4 ∧ o_tp s_.1 = 4) ∧ p_B2 b_ n_ false p_ s_ = .inr res_) := by
  unfold p_B1 at h_
  by_cases g_ : 0 < L_ ∧ (L_ ≠ 4 ∨ o_tp s_.1 ≠ 4)
  · rw [if_pos g_] at h_
    obtain ⟨q_, q1_, q2_⟩ := pb_inr h_
    cases q2_
    exact Or.inl ⟨g_.2, q_, q1_, rfl⟩
  · rw [if_neg g_] at h_
    exact Or.inr ⟨by omega, h_⟩
theorem B2_q {b_ : Nat → Int} {n_ p_ : Nat} {s_ : pO} {res_ : pX ⊕ pR} (h_ : p_B2 b_ n_ false p_ s_ = .inr res_) (hk_ : lx_kd b_ n_ p_ = 63) : ∃ s1_ q_, p_se2 1 1 s_ = .inr s1_ ∧ o_mk s1_.1 ≠ 60 ∧ h_tp s1_.2.1 = 1 ∧ p_ad b_ n_ p_ = .inr q_ ∧ res_ = .inl (0, false, q_, (-3, p_) :: s1_.1, s1_.2.1, s1_.2.2) := by
  unfold p_B2 at h_
  rw [if_pos ⟨rfl, hk_⟩] at h_
  obtain ⟨s1_, q1_, q2_⟩ := pb_inr h_
  split at q2_
  · cases q2_
  · rename_i g1_
    split at q2_
    · cases q2_
    · rename_i g2_
      obtain ⟨q_, q3_, q4_⟩ := pb_inr q2_
      cases q4_
      refine ⟨s1_, q_, q1_, g1_, ?_, q3_, rfl⟩
      by_cases z_ : h_tp s1_.2.1 = 1
      · exact z_
      · exact absurd z_ g2_
theorem B2_n {b_ : Nat → Int} {n_ p_ : Nat} {s_ : pO} {res_ : pX ⊕ pR} (h_ : p_B2 b_ n_ false p_ s_ = .inr res_) (hk_ : lx_kd b_ n_ p_ ≠ 63) : ∃ s1_, p_sa2 1 s_ = .inr s1_ ∧ p_B3 b_ n_ false p_ s1_ = .inr res_ := by
  unfold p_B2 at h_
  rw [if_neg (fun z_ => hk_ z_.2)] at h_
  exact pb_inr h_
theorem rz_x {b_ : Nat → Int} {n_ T_ p_ F_ I_ m_ : Nat} {A_ : pA} {X_ : Nat → gQ → gE → Option (gQ × gE)} {s0_ : gS} {o_ : List (Int × Nat)} {g_ c_ : List Int} {S_ : sm_S} (h_ : rzx b_ n_ T_ F_ I_ A_ X_ m_ s0_ (1, false, p_, o_, g_, c_) S_) : rz b_ n_ T_ p_ F_ I_ A_ X_ m_ s0_ (o_, g_, c_) S_ := ⟨⟨h_.1, h_.2.1.2.1⟩, h_.2.2.1, h_.2.2.2⟩
theorem rz_ws {b_ : Nat → Int} {n_ T_ p_ F_ I_ m_ : Nat} {A_ : pA} {X_ : Nat → gQ → gE → Option (gQ × gE)} {s0_ : gS} {s_ : pO} {S_ : sm_S} (h_ : rz b_ n_ T_ p_ F_ I_ A_ X_ m_ s0_ s_ S_) : ∃ w_, ws w_ S_ ∧ wl b_ n_ T_ s_.1 w_ ∧ s_ok false 1 s_ ∧ rg b_ n_ T_ (.inr p_) S_ ∧ S_.1 13 0 33 = (o_mk s_.1 : Int) ∧ vs 1 s_.2.1 S_ ∧ S_.1 13 0 27 = 1 := by
  obtain ⟨⟨⟨h1_, ⟨w_, h2_, h3_⟩, h4_, h5_, h6_⟩, h7_⟩, -, -⟩ := h_
  refine ⟨w_, h2_, ?_, h7_, h1_, h4_, h5_, h6_⟩
  rcases h3_ with z_ | z_
  · exact absurd z_.1 (by decide)
  · exact z_.2
def rqg (b_ : Nat → Int) (n_ T_ F_ I_ : Nat) (A_ : pA) (X_ : Nat → gQ → gE → Option (gQ × gE)) (m_ : Nat) (s0_ : gS) (res_ : pX ⊕ pR) (v_ : Int) (S_ : sm_S) : Prop := match res_ with
  | .inl y_ => rzx b_ n_ T_ F_ I_ A_ X_ m_ s0_ y_ S_ ∧ v_ = (y_.1 : Int)
  | .inr r_ => rz b_ n_ T_ r_.1 F_ I_ A_ X_ m_ s0_ ([], r_.2.1, r_.2.2) S_ ∧ v_ = 2
/-! M_.behind -/
def vw_320g : sx_Wl := ([(13, 9), (13, 10), (13, 11), (13, 32), (13, 33), (13, 34), (13, 37)], [136, 137, 138, 139, 140, 141, 142, 143], [])
def vq_320g (a_ : Int) (b_ : Nat → Int) (n_ : Nat) (T_ : Nat) (F_ : Nat) (I_ : Nat) (A_ : pA) (X_ : Nat → gQ → gE → Option (gQ × gE)) (M_ : Nat) (s0_ : gS) (pr_ : pPr) (p_ : Nat) (o_ : List (Int × Nat)) (g_ : List Int) (c_ : List Int) (res_ : pX ⊕ pR) (S0_ : sm_S) (u_ : Option sm_V) (S1_ : sm_S) : Prop := ∃ v_ : Int, u_ = some (.inl v_) ∧ gi S1_ ∧ ai_fr (sx_W vw_320g) S0_ S1_ ∧ (rqg b_ n_ T_ F_ I_ A_ X_ M_ s0_ res_ v_ S1_)
set_option maxHeartbeats 3000000 in
set_option maxRecDepth 20000 in
theorem vl_320g {sc_ : Nat × (Nat → Int)} (a_ : Int) (b_ : Nat → Int) (n_ : Nat) (T_ : Nat) (F_ : Nat) (I_ : Nat) (A_ : pA) (X_ : Nat → gQ → gE → Option (gQ × gE)) (M_ : Nat) (s0_ : gS) (pr_ : pPr) (p_ : Nat) (o_ : List (Int × Nat)) (g_ : List Int) (c_ : List Int) (res_ : pX ⊕ pR) (S0_ : sm_S) (ha_ : a_ = 0) (ht_ : rtab b_ n_ T_ S0_) (hpr_ : pr_ok b_ n_ pr_) (hz_ : rzx b_ n_ T_ F_ I_ A_ X_ M_ s0_ (1, false, p_, o_, g_, c_) S0_) (hst_ : p_st b_ n_ false pr_ (1, false, p_, o_, g_, c_) = .inr res_) : ∀ nn_ : Nat, (∀  (S_ : sm_S), gi S_ → ai_fr (sx_W vw_320g) S0_ S_ → ((∃ s_, rz b_ n_ T_ p_ F_ I_ A_ X_ M_ s0_ s_ S_ ∧ p_B2 b_ n_ false p_ s_ = .inr res_) ∧ True) → ((9 : Nat)) < nn_ → sm_T (mt_P sc_) 7 320 (89, [some (.inr (.inr (some (13, 0)))), some (.inl a_), none], [], S_) (fun ro9_ => ∃ u_ S1_, ro9_ = (.inl u_, S1_, 0) ∧ vq_320g a_ b_ n_ T_ F_ I_ A_ X_ M_ s0_ pr_ p_ o_ g_ c_ res_ S0_ u_ S1_)) := by
  intro nn_
  induction nn_ with
  | zero => exact fun  _ _ _ _ h_ => absurd h_ (Nat.not_lt_zero _)
  | succ nn_ ih_ =>
    rintro  S_ hI_ hF_ ⟨h1_, -⟩ hm_
    obtain ⟨s8_, z1_, z2_⟩ := h1_
    have ht1_ := rtab_fr ht_ hF_ rfl rfl rfl rfl rfl
    have hT_ := ht_.2.1
    obtain ⟨w8_, ws8_, wl8_, ok8_, g8_, op8_, vs8_, m8_⟩ := rz_ws z1_
    have wx8_ := ws8_.1
    have wll8_ := wl_len wl8_
    have lim8_ := o_lim ok8_.1 ok8_.2.1
    have gl8_ : (s8_).2.1.length = o_hl (s8_).1 + 1 := ok8_.2.2.1
    have bx1_ : 0 ≤ S_.1 13 0 27 ∧ S_.1 13 0 27 ≤ 2 := hI_.1 13 0 27 rfl
    refine sm_T_go 3 (c1 := (94, [some (.inr (.inr (some (13, 0)))), some (.inl a_), none], [.inl 2, .inl (S_.1 13 0 27)], S_)) rfl ?_
    refine sm_T_br (a := 3) (z := 89) rfl (fun cx2_ => ?_) (fun cx2_ => ?_)
    · have cx2_ : 2 ≤ (S_.1 13 0 27) := of_decide_eq_true cx2_
      exfalso; (have q9_ := m8_; omega)
    · have cx2_ : ¬ (2 ≤ (S_.1 13 0 27)) := of_decide_eq_false cx2_
      refine sm_T_go 2 (c1 := (100, [some (.inr (.inr (some (13, 0)))), some (.inl a_), none], [.inl 63, .inr (.inr (some (13, 0)))], S_)) rfl ?_
      refine sm_T_cal (d1 := 0) (Q1 := vq_295 63 b_ n_ T_ (.inr p_) S_) rfl rfl (by decide) (vc_295 63 b_ n_ T_ (.inr p_) S_ hI_ (by exact ht1_) (by exact g8_) (by decide)) (fun u_ Sx3_ px6_ => ?_)
      obtain ⟨rfl, vx8_, rfl, px6_⟩ := px6_
      have e100_ := px6_.2 p_ rfl
      have r100_ := px6_.1.1
      refine sm_T_b0 (a := 0) (z := 80) rfl (fun cx9_ => ?_) (fun cx9_ => ?_)
      · have cx9_ : vx8_ = 0 := of_decide_eq_true cx9_
        have k63_ : lx_kd b_ n_ p_ ≠ 63 := fun z_ => by have := e100_.mpr z_; omega
        obtain ⟨s6_, hs6_, hB3_⟩ := B2_n z2_ k63_
        have lt6_ := sa2_lt z1_.1 (show pb (.inr s8_) (p_sa2 1) = .inr s6_ from hs6_)
        refine sm_T_go 1 (c1 := (184, [some (.inr (.inr (some (13, 0)))), some (.inl a_), none], [.inr (.inr (some (13, 0)))], S_)) rfl ?_
        refine sm_T_cal (d1 := 6) (Q1 := vq_316g b_ n_ T_ p_ F_ I_ A_ X_ M_ s0_ s8_ s6_ S_) rfl rfl (by decide) (vc_316g b_ n_ T_ p_ F_ I_ A_ X_ M_ s0_ s8_ s6_ S_ hI_ (by exact ht1_) (by exact z1_) (by exact hs6_)) (fun u_ Sx10_ px13_ => ?_)
        obtain ⟨rfl, hIx11_, hFx12_, px13_⟩ := px13_
        have hFx14_ : ai_fr (sx_W vw_320g) S0_ Sx10_ := ai_fr_tr hF_ (fr_le hFx12_ rfl)
        have ex15_ : Sx10_.1 13 0 27 = S_.1 13 0 27 := hFx12_.1 13 0 27 rfl
        have e184_ := px13_
        obtain ⟨w6_, ws6_, wl6_, ok6_, g6_, op6_, vs6_, m6_⟩ := rz_ws e184_
        have wx6_ := ws6_.1
        have wll6_ := wl_len wl6_
        have lim6_ := o_lim ok6_.1 ok6_.2.1
        have gl6_ : (s6_).2.1.length = o_hl (s6_).1 + 1 := ok6_.2.2.1
        have t184_ := rtab_fr ht1_ hFx12_ rfl rfl rfl rfl rfl
        have tp6_ := wl_tp wl6_ ok6_.1
        obtain ⟨so_, sg_, sc_⟩ := s6_
        refine sm_T_go 1 (c1 := (188, [some (.inr (.inr (some (13, 0)))), some (.inl a_), none], [.inr (.inr (some (13, 0)))], Sx10_)) rfl ?_
        refine sm_T_cal (d1 := 0) (Q1 := vq_292  Sx10_) rfl rfl (by decide) (vc_292  Sx10_ hIx11_ ) (fun u_ Sx16_ px19_ => ?_)
        obtain ⟨rfl, vx21_, rfl, px19_⟩ := px19_
        have e188_ := px19_
        refine sm_T_b0 (a := 0) (z := 11) rfl (fun cx22_ => ?_) (fun cx22_ => ?_)
        · have cx22_ : vx21_ = 0 := of_decide_eq_true cx22_
          exfalso; (rw [if_pos g6_.1] at e188_; omega)
        · have cx22_ : ¬ (vx21_ = 0) := of_decide_eq_false cx22_
          have bx23_ : 0 ≤ Sx10_.1 13 0 32 ∧ Sx10_.1 13 0 32 ≤ 1023 := hIx11_.1 13 0 32 rfl
          refine sm_T_go 3 (c1 := (199, [some (.inr (.inr (some (13, 0)))), some (.inl a_), none], [.inl a_, .inl (Sx10_.1 13 0 32)], Sx10_)) rfl ?_
          refine sm_T_br (a := 1) (z := 5) rfl (fun cx24_ => ?_) (fun cx24_ => ?_)
          · have cx24_ : (Sx10_.1 13 0 32) ≠ a_ := of_decide_eq_true cx24_
            obtain ⟨k8_, q8_, o8_, ho8_, e9_⟩ : ∃ k8_ q8_ o8_, so_ = (k8_, q8_) :: o8_ ∧ o_tp so_ = k8_ := by cases so_ with | nil => (exfalso; have z_ := tp6_.2.2.2.2.2.2.mpr rfl; rw [z_] at wx6_; simp only [List.length_nil] at wx6_; omega) | cons a_ l_ => exact ⟨a_.1, a_.2, l_, rfl, rfl⟩
            subst ho8_
            have k8c := o_ok3 ok6_.1 lt6_.1 lt6_.2
            have bx25_ : 0 ≤ Sx10_.1 13 0 27 ∧ Sx10_.1 13 0 27 ≤ 2 := hIx11_.1 13 0 27 rfl
            refine sm_T_go 3 (c1 := (209, [some (.inr (.inr (some (13, 0)))), some (.inl a_), none], [.inl 2, .inl (Sx10_.1 13 0 27)], Sx10_)) rfl ?_
            refine sm_T_br (a := 3) (z := 42) rfl (fun cx26_ => ?_) (fun cx26_ => ?_)
            · have cx26_ : 2 ≤ (Sx10_.1 13 0 27) := of_decide_eq_true cx26_
              exfalso; omega
            · have cx26_ : ¬ (2 ≤ (Sx10_.1 13 0 27)) := of_decide_eq_false cx26_
              refine sm_T_go 1 (c1 := (213, [some (.inr (.inr (some (13, 0)))), some (.inl a_), none], [.inr (.inr (some (13, 0)))], Sx10_)) rfl ?_
              refine sm_T_cal (d1 := 0) (Q1 := vq_312 w6_ Sx10_) rfl rfl (by decide) (vc_312 w6_ Sx10_ hIx11_ (by exact ws6_)) (fun u_ Sx27_ px30_ => ?_)
              obtain ⟨rfl, vx32_, rfl, px30_⟩ := px30_
              have e213_ := px30_
              refine sm_T_go 1 (c1 := (218, [some (.inr (.inr (some (13, 0)))), some (.inl a_), none], [.inl 63, .inl vx32_], Sx10_)) rfl ?_
              refine sm_T_br (a := 1) (z := 33) rfl (fun cx33_ => ?_) (fun cx33_ => ?_)
              · have cx33_ : vx32_ ≠ 63 := of_decide_eq_true cx33_
                refine sm_T_go 2 (c1 := (254, [some (.inr (.inr (some (13, 0)))), some (.inl a_), none], [.inl 41, .inr (.inr (some (13, 0)))], Sx10_)) rfl ?_
                refine sm_T_cal (d1 := 3) (Q1 := vq_300 41 b_ n_ T_ (.inr p_) Sx10_) rfl rfl (by decide) (vc_300 41 b_ n_ T_ (.inr p_) Sx10_ hIx11_ (by exact t184_) (by exact g6_) (by decide)) (fun u_ Sx34_ px37_ => ?_)
                obtain ⟨rfl, hIx35_, hFx36_, px37_⟩ := px37_
                have hFx38_ : ai_fr (sx_W vw_320g) S0_ Sx34_ := ai_fr_tr hFx14_ (fr_le hFx36_ rfl)
                have ex39_ : Sx34_.1 13 0 27 = Sx10_.1 13 0 27 := hFx36_.1 13 0 27 rfl
                have ex40_ : Sx34_.1 13 0 32 = Sx10_.1 13 0 32 := hFx36_.1 13 0 32 rfl
                have k12_ : k8_ = -1 ∨ k8_ = -2 := by rcases k8c with z_ | z_; (exfalso; have z2_ := tp6_.2.2.2.2.1.mpr (by show o_tp _ = -3; rw [e9_]; exact z_.1); omega); exact z_
                rw [b3_c (by omega)] at hB3_
                obtain ⟨q7_, hq7_, hr7_⟩ := pb_inr hB3_
                have hr7_ := Sum.inr.inj hr7_
                have g254_ := px37_
                rw [pb_r rfl, hq7_] at g254_
                have m254_ : Sx34_.1 13 0 27 = 1 := (hFx36_.1 13 0 27 rfl).trans m6_
                have op254_ := (hFx36_.1 13 0 33 rfl).trans op6_
                have vs254_ := vs_fr vs6_ hFx36_ rfl rfl rfl
                have ws254_ := ws_fr ws6_ hFx36_ rfl rfl rfl
                have x254_ := xg_fr e184_.2.1 hFx36_ rfl rfl rfl rfl rfl rfl rfl rfl
                obtain ⟨t8_, u8_, hw8_, wt8_⟩ := wl_12 k12_ wl6_
                subst hw8_
                obtain ⟨x8_, g9_, hg8_⟩ := s_ok_1 ok6_
                have hg8_ : sg_ = x8_ :: g9_ := hg8_
                subst hg8_
                have gl8_ : (x8_ :: g9_).length = o_hl ((k8_, q8_) :: o8_) + 1 := gl6_
                have gl7_ : o_hl ((k8_, q8_) :: o8_) ≤ 425 := lim6_.2
                simp only [List.length_cons] at gl8_
                have wlx3_ : Sx34_.1 13 0 32 = (u8_.length : Int) + 1 := by rw [ws254_.1, List.length_cons]; push_cast; rfl
                have op8b : Sx34_.1 13 0 33 = (o_mk o8_ : Int) + 1 := by rw [op254_]; show (((if k8_ < 0 then 1 else 0) + o_mk o8_ : Nat) : Int) = _; rw [if_pos (by omega)]; push_cast; omega
                have vl254_ : Sx34_.1 13 0 34 = (g9_.length : Int) + 1 := by rw [vs254_.1]; simp only [List.length_cons]; push_cast; rfl
                refine sm_T_go 1 (c1 := (258, [some (.inr (.inr (some (13, 0)))), some (.inl a_), none], [.inr (.inr (some (13, 0)))], Sx34_)) rfl ?_
                refine sm_T_cal (d1 := 0) (Q1 := vq_292  Sx34_) rfl rfl (by decide) (vc_292  Sx34_ hIx35_ ) (fun u_ Sx41_ px44_ => ?_)
                obtain ⟨rfl, vx46_, rfl, px44_⟩ := px44_
                have e258_ := px44_
                refine sm_T_b0 (a := 0) (z := 27) rfl (fun cx47_ => ?_) (fun cx47_ => ?_)
                · have cx47_ : vx46_ = 0 := of_decide_eq_true cx47_
                  exfalso; (rw [if_pos g254_.1] at e258_; omega)
                · have cx47_ : ¬ (vx46_ = 0) := of_decide_eq_false cx47_
                  have bx48_ : 0 ≤ Sx34_.1 13 0 32 ∧ Sx34_.1 13 0 32 ≤ 1023 := hIx35_.1 13 0 32 rfl
                  refine sm_T_go 4 (c1 := (270, [some (.inr (.inr (some (13, 0)))), some (.inl a_), none], [.inl 1, .inl (Sx34_.1 13 0 32), .inr (.inr (some (13, 0)))], Sx34_)) rfl ?_
                  refine sm_T_bin (w := (Sx34_.1 13 0 32) - 1) rfl (bi_sub (by omega) (by omega) (by omega)) ?_
                  have hIx49_ : gi (sm_pI Sx34_ 13 0 32 ((Sx34_.1 13 0 32) - 1)) := gi_pI hIx35_ (show 0 ≤ (Sx34_.1 13 0 32) - 1 ∧ (Sx34_.1 13 0 32) - 1 ≤ 1023 from ⟨by omega, by omega⟩)
                  have hFx50_ : ai_fr (sx_W vw_320g) S0_ (sm_pI Sx34_ 13 0 32 ((Sx34_.1 13 0 32) - 1)) := ai_fr_tr hFx38_ (ai_fr_pI rfl)
                  have bx51_ : 0 ≤ Sx34_.1 13 0 33 ∧ Sx34_.1 13 0 33 ≤ 60 := hIx35_.1 13 0 33 rfl
                  refine sm_T_go 5 (c1 := (280, [some (.inr (.inr (some (13, 0)))), some (.inl a_), none], [.inl 1, .inl (Sx34_.1 13 0 33), .inr (.inr (some (13, 0)))], sm_pI Sx34_ 13 0 32 ((Sx34_.1 13 0 32) - 1))) rfl ?_
                  refine sm_T_bin (w := (Sx34_.1 13 0 33) - 1) rfl (bi_sub (by omega) (by omega) (by omega)) ?_
                  have hIx52_ : gi (sm_pI (sm_pI Sx34_ 13 0 32 ((Sx34_.1 13 0 32) - 1)) 13 0 33 ((Sx34_.1 13 0 33) - 1)) := gi_pI hIx49_ (show 0 ≤ (Sx34_.1 13 0 33) - 1 ∧ (Sx34_.1 13 0 33) - 1 ≤ 60 from ⟨by omega, by omega⟩)
                  have hFx53_ : ai_fr (sx_W vw_320g) S0_ (sm_pI (sm_pI Sx34_ 13 0 32 ((Sx34_.1 13 0 32) - 1)) 13 0 33 ((Sx34_.1 13 0 33) - 1)) := ai_fr_tr hFx50_ (ai_fr_pI rfl)
                  refine sm_T_go 2 (c1 := (285, [some (.inr (.inr (some (13, 0)))), some (.inl a_), none], [.inr (.inr (some (13, 0)))], sm_pI (sm_pI Sx34_ 13 0 32 ((Sx34_.1 13 0 32) - 1)) 13 0 33 ((Sx34_.1 13 0 33) - 1))) rfl ?_
                  refine sm_T_cal (d1 := 1) (Q1 := vq_317g b_ n_ T_ F_ I_ A_ X_ M_ s0_ (decide (k8_ = -2)) o8_ x8_ g9_ sc_ u8_ (sm_pI (sm_pI Sx34_ 13 0 32 ((Sx34_.1 13 0 32) - 1)) 13 0 33 ((Sx34_.1 13 0 33) - 1))) rfl rfl (by decide) (vc_317g b_ n_ T_ F_ I_ A_ X_ M_ s0_ (decide (k8_ = -2)) o8_ x8_ g9_ sc_ u8_ (sm_pI (sm_pI Sx34_ 13 0 32 ((Sx34_.1 13 0 32) - 1)) 13 0 33 ((Sx34_.1 13 0 33) - 1)) hIx52_ (by exact ws_pop ws254_ rfl rfl rfl) (by exact wt8_) (by exact ok6_.1.2.2) (by exact vl254_) (by exact m254_) (by omega) (by exact xg_fr (w_ := ([(13, 32), (13, 33)], [], [])) x254_ (ai_fr_tr (ai_fr_pI rfl) (ai_fr_pI rfl)) rfl rfl rfl rfl rfl rfl rfl rfl)) (fun u_ Sx54_ px57_ => ?_)
                  obtain ⟨rfl, hIx55_, hFx56_, px57_⟩ := px57_
                  have hFx58_ : ai_fr (sx_W vw_320g) S0_ Sx54_ := ai_fr_tr hFx53_ (fr_le hFx56_ rfl)
                  obtain ⟨w9_, ws9_, wl9_, x9_⟩ := px57_
                  have op285_ : Sx54_.1 13 0 33 = (o_mk o8_ : Int) := (hFx56_.1 13 0 33 rfl).trans (by (try simp only [rd_eq, rd_ne, rf_eq, rf_nk, rf_nt, rd_fa, rd_af, rd_fl, rd_al, rd_lf, rd_la, rd_leq, rd_lne, rd_fr, rd_ar, ne_eq, Nat.reduceEqDiff, not_false_eq_true]); omega)
                  have m285_ := (hFx56_.1 13 0 27 rfl).trans m254_
                  have g285_ := rg_fr (b_ := b_) (n_ := n_) (T_ := T_) (x_ := .inr q7_) (S_ := (sm_pI (sm_pI Sx34_ 13 0 32 ((Sx34_.1 13 0 32) - 1)) 13 0 33 ((Sx34_.1 13 0 33) - 1))) g254_ hFx56_ rfl rfl rfl
                  have vl285_ : Sx54_.1 13 0 34 = (g9_.length : Int) + 1 := (hFx56_.1 13 0 34 rfl).trans vl254_
                  refine sm_T_go 1 (c1 := (289, [some (.inr (.inr (some (13, 0)))), some (.inl a_), none], [.inl 1], Sx54_)) rfl ?_
                  refine sm_T_ri rfl ⟨_, _, rfl, _, rfl, hIx55_, hFx58_, ?_⟩
                  have t1_ : (p_ti false (decide (k8_ = -2)) (x8_ :: g9_) sc_).1 = x8_ :: g9_ := by rw [ti2]
                  have xk_ : x_ok b_ n_ false (1, false, q7_, o8_, (p_ti false (decide (k8_ = -2)) (x8_ :: g9_) sc_).1, (p_ti false (decide (k8_ = -2)) (x8_ :: g9_) sc_).2) := x_st ht_.1 hpr_ hz_.2.1 (by rw [hst_, ← hr7_])
                  rw [← hr7_]
                  refine ⟨⟨⟨g285_, ⟨w9_, ws9_, Or.inr ⟨rfl, wl9_⟩⟩, op285_, ⟨?_, fun _ => ?_, fun z_ => absurd z_ (by decide)⟩, m285_⟩, xk_, ?_, ?_⟩, rfl⟩
                  · show _ = ((p_ti false (decide (k8_ = -2)) (x8_ :: g9_) sc_).1.length : Int); rw [t1_, vl285_, List.length_cons]; push_cast; rfl
                  · show stk _ (p_ti false (decide (k8_ = -2)) (x8_ :: g9_) sc_).1; rw [t1_]; obtain ⟨G9_, V9_, y1_, y2_, y3_, y4_⟩ := x9_; rw [← y2_]; exact svl_stk y4_
                  · show xg F_ I_ A_ X_ M_ s0_ (p_ti false (decide (k8_ = -2)) (x8_ :: g9_) sc_).1 _ _; rw [t1_]; exact x9_
                  · show o_wd o8_ (p_ti false (decide (k8_ = -2)) (x8_ :: g9_) sc_).1.tail; rw [t1_]; have q9_ : o_wd ((k8_, q8_) :: o8_) g9_ := e184_.2.2; unfold o_wd at q9_; rw [if_neg (by show ¬ k8_ = -3; omega), if_neg (by show ¬ k8_ = -4; omega), if_pos (by show k8_ < 0; omega)] at q9_; exact q9_
              · have cx33_ : ¬ (vx32_ ≠ 63) := of_decide_eq_false cx33_
                have k3_ : k8_ = -3 := by rw [← e9_]; exact tp6_.2.2.2.2.1.mp (by omega)
                subst k3_
                obtain ⟨t8_, u8_, hw8_, wl84_⟩ := wl_34 wl6_
                subst hw8_
                rw [b3_q] at hB3_
                obtain ⟨q7_, hq7_, hr7_⟩ := pb_inr hB3_
                have hr7_ := Sum.inr.inj hr7_
                have kd8_ : lx_kd b_ n_ p_ = 58 := by by_cases z_ : lx_kd b_ n_ p_ = 58; exact z_; (exfalso; unfold p_nd at hq7_; rw [if_neg z_] at hq7_; cases hq7_)
                have wlx2_ : (((63, t8_) :: u8_ : List (Int × Int)).length : Int) = (u8_.length : Int) + 1 := by rw [List.length_cons]; push_cast; rfl
                refine sm_T_go 2 (c1 := (224, [some (.inr (.inr (some (13, 0)))), some (.inl a_), none], [.inl 58, .inr (.inr (some (13, 0)))], Sx10_)) rfl ?_
                refine sm_T_cal (d1 := 0) (Q1 := vq_295 58 b_ n_ T_ (.inr p_) Sx10_) rfl rfl (by decide) (vc_295 58 b_ n_ T_ (.inr p_) Sx10_ hIx11_ (by exact t184_) (by exact g6_) (by decide)) (fun u_ Sx59_ px62_ => ?_)
                obtain ⟨rfl, vx64_, rfl, px62_⟩ := px62_
                have e224_ := px62_.2 p_ rfl
                have r224_ := px62_.1.1
                refine sm_T_b0 (a := 0) (z := 16) rfl (fun cx65_ => ?_) (fun cx65_ => ?_)
                · have cx65_ : vx64_ = 0 := of_decide_eq_true cx65_
                  exfalso; (have := e224_.mpr kd8_; omega)
                · have cx65_ : ¬ (vx64_ = 0) := of_decide_eq_false cx65_
                  refine sm_T_go 5 (c1 := (239, [some (.inr (.inr (some (13, 0)))), some (.inl a_), none], [.inl 1, .inl (Sx10_.1 13 0 32), .inr (.inr (some (136, 0)))], Sx10_)) rfl ?_
                  refine sm_T_bin (w := (Sx10_.1 13 0 32) - 1) rfl (bi_sub (by omega) (by omega) (by omega)) ?_
                  refine sm_T_go 1 (c1 := (242, [some (.inr (.inr (some (13, 0)))), some (.inl a_), none], [.inl 58, .inl ((Sx10_.1 13 0 32) - 1), .inr (.inr (some (136, 0)))], Sx10_)) rfl ?_
                  refine sm_T_iast (n := 1024) rfl rfl (by omega) (by omega) ?_
                  have hIx66_ : gi (sm_aI Sx10_ 136 0 ((Sx10_.1 13 0 32) - 1).toNat 58) := gi_aI hIx11_ (show (-2147483648) ≤ 58 ∧ 58 ≤ 2147483647 from ⟨by omega, by omega⟩)
                  have hFx67_ : ai_fr (sx_W vw_320g) S0_ (sm_aI Sx10_ 136 0 ((Sx10_.1 13 0 32) - 1).toNat 58) := ai_fr_tr hFx14_ (ai_fr_aI rfl)
                  refine sm_T_go 2 (c1 := (246, [some (.inr (.inr (some (13, 0)))), some (.inl a_), none], [.inl 58, .inr (.inr (some (13, 0)))], sm_aI Sx10_ 136 0 ((Sx10_.1 13 0 32) - 1).toNat 58)) rfl ?_
                  refine sm_T_cal (d1 := 3) (Q1 := vq_300 58 b_ n_ T_ (.inr p_) (sm_aI Sx10_ 136 0 ((Sx10_.1 13 0 32) - 1).toNat 58)) rfl rfl (by decide) (vc_300 58 b_ n_ T_ (.inr p_) (sm_aI Sx10_ 136 0 ((Sx10_.1 13 0 32) - 1).toNat 58) hIx66_ (by exact rtab_fr t184_ (w_ := ([], [136], [])) (ai_fr_aI rfl) rfl rfl rfl rfl rfl) (by exact g6_) (by decide)) (fun u_ Sx68_ px71_ => ?_)
                  obtain ⟨rfl, hIx69_, hFx70_, px71_⟩ := px71_
                  have hFx72_ : ai_fr (sx_W vw_320g) S0_ Sx68_ := ai_fr_tr hFx67_ (fr_le hFx70_ rfl)
                  have g246_ := px71_
                  rw [pb_r rfl, hq7_] at g246_
                  have m246_ : Sx68_.1 13 0 27 = 1 := (hFx70_.1 13 0 27 rfl).trans m6_
                  have op246_ : Sx68_.1 13 0 33 = _ := (hFx70_.1 13 0 33 rfl).trans op6_
                  have ws246_ := ws_fr (ws_top1 (z_ := 58) ws6_ (by omega)) hFx70_ rfl rfl rfl
                  have v246_ : vs 1 sg_ Sx68_ := vs_fr (S_ := (sm_aI Sx10_ 136 0 ((Sx10_.1 13 0 32) - 1).toNat 58)) (show vs 1 sg_ (sm_aI Sx10_ 136 0 ((Sx10_.1 13 0 32) - 1).toNat 58) from ⟨vs6_.1, fun q_ => stk_ot (vs6_.2.1 q_) (by decide), fun q_ => absurd q_ (by decide)⟩) hFx70_ rfl rfl rfl
                  have x246_ := xg_fr (S_ := (sm_aI Sx10_ 136 0 ((Sx10_.1 13 0 32) - 1).toNat 58)) (xg_fr (w_ := ([], [136], [])) e184_.2.1 (ai_fr_aI rfl) rfl rfl rfl rfl rfl rfl rfl rfl) hFx70_ rfl rfl rfl rfl rfl rfl rfl rfl
                  refine sm_T_go 1 (c1 := (250, [some (.inr (.inr (some (13, 0)))), some (.inl a_), none], [.inl 0], Sx68_)) rfl ?_
                  refine sm_T_ri rfl ⟨_, _, rfl, _, rfl, hIx69_, hFx72_, ?_⟩
                  have xk_ : x_ok b_ n_ false (0, false, q7_, (-4, q8_) :: o8_, sg_, sc_) := x_st ht_.1 hpr_ hz_.2.1 (by rw [hst_, ← hr7_])
                  rw [← hr7_]
                  refine ⟨⟨⟨g246_, ⟨_, ws246_, Or.inl ⟨rfl, Or.inl ⟨rfl, wl84_⟩⟩⟩, op246_, v246_, m246_⟩, xk_, x246_, ?_⟩, rfl⟩
                  show o_wd ((-4, q8_) :: o8_) sg_
                  obtain ⟨a9_, g9_, hg9_⟩ := s_ok_1 ok6_
                  have hg9_ : sg_ = a9_ :: g9_ := hg9_
                  have q9_ := e184_.2.2
                  have q9_ : o_wd ((-3, q8_) :: o8_) sg_.tail := q9_
                  rw [hg9_] at q9_ ⊢
                  have q9_ : o_wd ((-3, q8_) :: o8_) g9_ := q9_
                  unfold o_wd at q9_ ⊢
                  rw [if_pos rfl] at q9_
                  rw [if_neg (by show ¬ (-4 : Int) = -3; decide), if_pos rfl]
                  cases g9_ with
                  | nil => exact q9_.elim
                  | cons c9_ l9_ => exact q9_
          · have cx24_ : ¬ ((Sx10_.1 13 0 32) ≠ a_) := of_decide_eq_false cx24_
            have w0_ : w6_ = [] := by cases w6_ with | nil => rfl | cons a_ l_ => (exfalso; simp only [List.length_cons] at wx6_; omega)
            have so0_ : so_ = [] := tp6_.2.2.2.2.2.2.mp w0_
            subst so0_
            refine sm_T_go 1 (c1 := (203, [some (.inr (.inr (some (13, 0)))), some (.inl a_), none], [.inl 2], Sx10_)) rfl ?_
            refine sm_T_ri rfl ⟨_, _, rfl, _, rfl, hIx11_, hFx14_, ?_⟩
            have q9_ : res_ = .inr (p_, sg_, sc_) := (Sum.inr.inj hB3_).symm
            rw [q9_]
            exact ⟨e184_, rfl⟩
      · have cx9_ : ¬ (vx8_ = 0) := of_decide_eq_false cx9_
        have k63_ : lx_kd b_ n_ p_ = 63 := e100_.mp (by omega)
        obtain ⟨s5_, q5_, hs5_, n60_, ht5_, hq5_, hr5_⟩ := B2_q z2_ k63_
        refine sm_T_go 2 (c1 := (108, [some (.inr (.inr (some (13, 0)))), some (.inl a_), none], [.inl 1, .inr (.inr (some (13, 0)))], S_)) rfl ?_
        refine sm_T_cal (d1 := 5) (Q1 := vq_315g 1 b_ n_ T_ p_ F_ I_ A_ X_ M_ s0_ s8_ s5_ S_) rfl rfl (by decide) (vc_315g 1 b_ n_ T_ p_ F_ I_ A_ X_ M_ s0_ s8_ s5_ S_ hI_ (by exact ht1_) (by exact z1_) (by decide) (by exact hs5_)) (fun u_ Sx73_ px76_ => ?_)
        obtain ⟨rfl, hIx74_, hFx75_, px76_⟩ := px76_
        have hFx77_ : ai_fr (sx_W vw_320g) S0_ Sx73_ := ai_fr_tr hF_ (fr_le hFx75_ rfl)
        have ex78_ : Sx73_.1 13 0 27 = S_.1 13 0 27 := hFx75_.1 13 0 27 rfl
        have e108_ := px76_
        obtain ⟨w5_, ws5_, wl5_, ok5_, g5_, op5_, vs5_, m5_⟩ := rz_ws e108_.1
        have wx5_ := ws5_.1
        have wll5_ := wl_len wl5_
        have lim5_ := o_lim ok5_.1 ok5_.2.1
        have gl5_ : (s5_).2.1.length = o_hl (s5_).1 + 1 := ok5_.2.2.1
        have t108_ := rtab_fr ht1_ hFx75_ rfl rfl rfl rfl rfl
        obtain ⟨x5_, g5b, hg5_⟩ := s_ok_1 ok5_
        have gl5b : s5_.2.1.length = g5b.length + 1 := by rw [hg5_]; rfl
        have vk5_ := vs5_.2.1 (by decide)
        rw [hg5_] at vk5_ ht5_
        have x51_ : x5_ = 1 := ht5_
        have v51_ := vs5_.1
        have wd5_ : Sx73_.2.2.1 138 0 (Sx73_.1 13 0 34 - 1).toNat = x5_ := by rw [show (Sx73_.1 13 0 34 - 1).toNat = g5b.length by omega]; exact vk5_.1
        obtain ⟨i5_, hi51_, hi52_⟩ := id g5_.2
        refine sm_T_go 1 (c1 := (112, [some (.inr (.inr (some (13, 0)))), some (.inl a_), none], [.inr (.inr (some (13, 0)))], Sx73_)) rfl ?_
        refine sm_T_cal (d1 := 0) (Q1 := vq_292  Sx73_) rfl rfl (by decide) (vc_292  Sx73_ hIx74_ ) (fun u_ Sx79_ px82_ => ?_)
        obtain ⟨rfl, vx84_, rfl, px82_⟩ := px82_
        have e112_ := px82_
        refine sm_T_b0 (a := 0) (z := 21) rfl (fun cx85_ => ?_) (fun cx85_ => ?_)
        · have cx85_ : vx84_ = 0 := of_decide_eq_true cx85_
          exfalso; (rw [if_pos g5_.1] at e112_; omega)
        · have cx85_ : ¬ (vx84_ = 0) := of_decide_eq_false cx85_
          have bx86_ : 0 ≤ Sx73_.1 13 0 33 ∧ Sx73_.1 13 0 33 ≤ 60 := hIx74_.1 13 0 33 rfl
          refine sm_T_go 3 (c1 := (124, [some (.inr (.inr (some (13, 0)))), some (.inl a_), none], [.inl 60, .inl (Sx73_.1 13 0 33)], Sx73_)) rfl ?_
          refine sm_T_br (a := 1) (z := 12) rfl (fun cx87_ => ?_) (fun cx87_ => ?_)
          · have cx87_ : (Sx73_.1 13 0 33) ≠ 60 := of_decide_eq_true cx87_
            refine sm_T_go 1 (c1 := (137, [some (.inr (.inr (some (13, 0)))), some (.inl a_), none], [.inr (.inr (some (13, 0)))], Sx73_)) rfl ?_
            refine sm_T_cal (d1 := 0) (Q1 := vq_292  Sx73_) rfl rfl (by decide) (vc_292  Sx73_ hIx74_ ) (fun u_ Sx88_ px91_ => ?_)
            obtain ⟨rfl, vx93_, rfl, px91_⟩ := px91_
            have e137_ := px91_
            refine sm_T_b0 (a := 0) (z := 28) rfl (fun cx94_ => ?_) (fun cx94_ => ?_)
            · have cx94_ : vx93_ = 0 := of_decide_eq_true cx94_
              exfalso; (rw [if_pos g5_.1] at e137_; omega)
            · have cx94_ : ¬ (vx93_ = 0) := of_decide_eq_false cx94_
              have bx95_ : 0 ≤ Sx73_.1 13 0 34 ∧ Sx73_.1 13 0 34 ≤ 1023 := hIx74_.1 13 0 34 rfl
              refine sm_T_go 5 (c1 := (152, [some (.inr (.inr (some (13, 0)))), some (.inl a_), none], [.inl 1, .inl (Sx73_.1 13 0 34), .inr (.inr (some (138, 0)))], Sx73_)) rfl ?_
              refine sm_T_bin (w := (Sx73_.1 13 0 34) - 1) rfl (bi_sub (by omega) (by omega) (by omega)) ?_
              refine sm_T_iald (n := 1024) rfl rfl (by omega) (by omega) ?_
              have bx96_ : (-2147483648) ≤ Sx73_.2.2.1 138 0 ((Sx73_.1 13 0 34) - 1).toNat ∧ Sx73_.2.2.1 138 0 ((Sx73_.1 13 0 34) - 1).toNat ≤ 2147483647 := hIx74_.2 138 0 _
              refine sm_T_go 1 (c1 := (155, [some (.inr (.inr (some (13, 0)))), some (.inl a_), none], [.inl 1, .inl (Sx73_.2.2.1 138 0 ((Sx73_.1 13 0 34) - 1).toNat)], Sx73_)) rfl ?_
              refine sm_T_br (a := 0) (z := 13) rfl (fun cx97_ => ?_) (fun cx97_ => ?_)
              · have cx97_ : (Sx73_.2.2.1 138 0 ((Sx73_.1 13 0 34) - 1).toNat) = 1 := of_decide_eq_true cx97_
                refine sm_T_go 1 (c1 := (169, [some (.inr (.inr (some (13, 0)))), some (.inl a_), none], [.inr (.inr (some (13, 0)))], Sx73_)) rfl ?_
                refine sm_T_cal (d1 := 0) (Q1 := vq_292  Sx73_) rfl rfl (by decide) (vc_292  Sx73_ hIx74_ ) (fun u_ Sx98_ px101_ => ?_)
                obtain ⟨rfl, vx103_, rfl, px101_⟩ := px101_
                have e169_ := px101_
                refine sm_T_b0 (a := 0) (z := 9) rfl (fun cx104_ => ?_) (fun cx104_ => ?_)
                · have cx104_ : vx103_ = 0 := of_decide_eq_true cx104_
                  exfalso; (rw [if_pos g5_.1] at e169_; omega)
                · have cx104_ : ¬ (vx103_ = 0) := of_decide_eq_false cx104_
                  refine sm_T_go 2 (c1 := (178, [some (.inr (.inr (some (13, 0)))), some (.inl a_), none], [.inl 63, .inr (.inr (some (13, 0)))], Sx73_)) rfl ?_
                  refine sm_T_cal (d1 := 3) (Q1 := vq_318 63 b_ n_ T_ 1 p_ i5_ (o_mk s5_.1) w5_ Sx73_) rfl rfl (by decide) (vc_318 63 b_ n_ T_ 1 p_ i5_ (o_mk s5_.1) w5_ Sx73_ hIx74_ (by exact t108_) (by exact g5_.1) (by exact ⟨hi51_, hi52_⟩) (by omega) (by exact ws5_) (by omega) (by exact ⟨op5_, ok5_.2.1⟩) (by decide) (by exact m5_)) (fun u_ Sx105_ px108_ => ?_)
                  obtain ⟨rfl, hIx106_, hFx107_, px108_⟩ := px108_
                  have hFx109_ : ai_fr (sx_W vw_320g) S0_ Sx105_ := ai_fr_tr hFx77_ (fr_le hFx107_ rfl)
                  have ex110_ : Sx105_.1 13 0 34 = Sx73_.1 13 0 34 := hFx107_.1 13 0 34 rfl
                  have e178_ := (px108_.2 n60_).2 q5_ hq5_
                  have m178_ := (hFx107_.1 13 0 27 rfl).trans m5_
                  have v178_ := vs_fr vs5_ hFx107_ rfl rfl rfl
                  have x178_ := xg_fr e108_.1.2.1 hFx107_ rfl rfl rfl rfl rfl rfl rfl rfl
                  refine sm_T_go 1 (c1 := (182, [some (.inr (.inr (some (13, 0)))), some (.inl a_), none], [.inl 0], Sx105_)) rfl ?_
                  refine sm_T_ri rfl ⟨_, _, rfl, _, rfl, hIx106_, hFx109_, ?_⟩
                  have xk_ : x_ok b_ n_ false (0, false, q5_, (-3, p_) :: s5_.1, s5_.2.1, s5_.2.2) := x_st ht_.1 hpr_ hz_.2.1 (by rw [hst_, hr5_])
                  rw [hr5_]
                  obtain ⟨q1_, q2_, q3_⟩ := e178_
                  refine ⟨⟨⟨q1_, ⟨_, q2_, Or.inl ⟨rfl, Or.inl ⟨rfl, ⟨_, w5_, rfl, rp_rtp t108_ hi52_ (by omega), Or.inl ⟨by decide, wl5_⟩⟩⟩⟩⟩, by rw [q3_]; show _ = ((1 + o_mk s5_.1 : Nat) : Int); push_cast; omega, v178_, m178_⟩, xk_, x178_, ?_⟩, rfl⟩
                  show o_wd ((-3, p_) :: s5_.1) s5_.2.1
                  have q9_ := e108_.1.2.2
                  rw [hg5_] at q9_ ⊢
                  unfold o_wd
                  rw [if_pos rfl]
                  exact ⟨x51_, q9_⟩
              · have cx97_ : ¬ ((Sx73_.2.2.1 138 0 ((Sx73_.1 13 0 34) - 1).toNat) = 1) := of_decide_eq_false cx97_
                exfalso; omega
          · have cx87_ : ¬ ((Sx73_.1 13 0 33) ≠ 60) := of_decide_eq_false cx87_
            exfalso; (have q9_ := op5_; omega)
set_option maxHeartbeats 3000000 in
set_option maxRecDepth 20000 in
theorem vc_320g {sc_ : Nat × (Nat → Int)} (a_ : Int) (b_ : Nat → Int) (n_ : Nat) (T_ : Nat) (F_ : Nat) (I_ : Nat) (A_ : pA) (X_ : Nat → gQ → gE → Option (gQ × gE)) (M_ : Nat) (s0_ : gS) (pr_ : pPr) (p_ : Nat) (o_ : List (Int × Nat)) (g_ : List Int) (c_ : List Int) (res_ : pX ⊕ pR) (S0_ : sm_S) (hI_ : gi S0_) (ha_ : a_ = 0) (ht_ : rtab b_ n_ T_ S0_) (hpr_ : pr_ok b_ n_ pr_) (hz_ : rzx b_ n_ T_ F_ I_ A_ X_ M_ s0_ (1, false, p_, o_, g_, c_) S0_) (hst_ : p_st b_ n_ false pr_ (1, false, p_, o_, g_, c_) = .inr res_) : sm_T (mt_P sc_) 7 320 (0, [some (.inr (.inr (some (13, 0)))), some (.inl a_), none], [], S0_) (fun ro9_ => ∃ u_ S1_, ro9_ = (.inl u_, S1_, 0) ∧ vq_320g a_ b_ n_ T_ F_ I_ A_ X_ M_ s0_ pr_ p_ o_ g_ c_ res_ S0_ u_ S1_) := by
  have hF_ : ai_fr (sx_W vw_320g) S0_ S0_ := ai_fr_rf
  obtain ⟨i_, hi1_, hi2_⟩ := id hz_.1.1.2
  have hT_ := ht_.2.1
  have hi9_ := hi2_.1
  refine sm_T_go 1 (c1 := (1, [some (.inr (.inr (some (13, 0)))), some (.inl a_), none], [.inr (.inr (some (13, 0)))], S0_)) rfl ?_
  refine sm_T_cal (d1 := 1) (Q1 := vq_310 b_ n_ T_ (.inr p_) 1 S0_) rfl rfl (by decide) (vc_310 b_ n_ T_ (.inr p_) 1 S0_ hI_ (by exact ht_) (by exact hz_.1.1) (by exact ⟨hz_.1.2.2.2.2, by decide⟩)) (fun u_ Sx1_ px4_ => ?_)
  obtain ⟨rfl, vx6_, rfl, px4_⟩ := px4_
  have e1_ : (vx6_ = 1 ↔ 0 < p_lv false (lx_kd b_ n_ p_)) ∧ (vx6_ = 1 → S0_.2.2.1 119 0 (S0_.1 13 0 9).toNat = 3 ∧ S0_.2.2.1 121 0 (S0_.1 13 0 9).toNat = lx_kd b_ n_ p_ ∧ p_lv false (lx_kd b_ n_ p_) = p_lv false (lx_kd b_ n_ p_)) := px4_.2 p_ rfl
  have r1_ := px4_.1
  refine sm_T_b0 (a := 0) (z := 18) rfl (fun cx7_ => ?_) (fun cx7_ => ?_)
  · have cx7_ : vx6_ = 0 := of_decide_eq_true cx7_
    have l0_ : ¬ 0 < p_lv false (lx_kd b_ n_ p_) := fun z_ => by have := e1_.1.mpr z_; omega
    have hB_ : p_B2 b_ n_ false p_ (o_, g_, c_) = .inr res_ := by have q9_ := hst_; rw [pB_n l0_] at q9_; exact q9_
    obtain ⟨s4_, es4_, hs4_⟩ : ∃ s4_, s4_ = (o_, g_, c_) ∧ p_se2 1 6 (o_, g_, c_) = .inr s4_ := ⟨_, rfl, p_se_st (by have z9_ : -4 ≤ o_tp o_ ∧ o_tp o_ ≤ 5 := o_tp5 hz_.2.1.2.1.1; show o_tp o_ < 6; omega)⟩
    refine sm_T_go 9 (c1 := (44, [some (.inr (.inr (some (13, 0)))), some (.inl a_), some (.inl 0)], [.inl 6, .inr (.inr (some (13, 0)))], S0_)) rfl ?_
    refine sm_T_cal (d1 := 5) (Q1 := vq_315g 6 b_ n_ T_ p_ F_ I_ A_ X_ M_ s0_ (o_, g_, c_) s4_ S0_) rfl rfl (by decide) (vc_315g 6 b_ n_ T_ p_ F_ I_ A_ X_ M_ s0_ (o_, g_, c_) s4_ S0_ hI_ (by exact ht_) (by exact rz_x hz_) (by omega) (by first | exact hs4_ | (have q9_ := hs4_; rw [if_pos (by omega)] at q9_; exact q9_) | (have q9_ := hs4_; rw [if_neg (by omega), ← l16_] at q9_; exact q9_))) (fun u_ Sx8_ px11_ => ?_)
    obtain ⟨rfl, hIx9_, hFx10_, px11_⟩ := px11_
    have hFx12_ : ai_fr (sx_W vw_320g) S0_ Sx8_ := ai_fr_tr hF_ (fr_le hFx10_ rfl)
    have e44_ := px11_
    obtain ⟨w4_, ws4_, wl4_, ok4_, g4_, op4_, vs4_, m4_⟩ := rz_ws e44_.1
    have wx4_ := ws4_.1
    have wll4_ := wl_len wl4_
    have lim4_ := o_lim ok4_.1 ok4_.2.1
    have gl4_ : (s4_).2.1.length = o_hl (s4_).1 + 1 := ok4_.2.2.1
    have t44_ := rtab_fr ht_ hFx10_ rfl rfl rfl rfl rfl
    have at44_ := hFx10_.1 13 0 9 rfl
    have nb44_ : Sx8_.2.2.1 121 0 (Sx8_.1 13 0 9).toNat = S0_.2.2.1 121 0 (S0_.1 13 0 9).toNat := by rw [fr_arr hFx10_ rfl, at44_]
    refine sm_T_go 2 (c1 := (89, [some (.inr (.inr (some (13, 0)))), some (.inl a_), some (.inl 0)], [], Sx8_)) rfl ?_
    refine sm_T_wk [some (.inr (.inr (some (13, 0)))), some (.inl a_), none] (by exact ⟨rfl, rfl, trivial⟩) ?_
    refine (vl_320g a_ b_ n_ T_ F_ I_ A_ X_ M_ s0_ pr_ p_ o_ g_ c_ res_ S0_ ha_ ht_ hpr_ hz_ hst_ _)  Sx8_ hIx9_ hFx12_ ⟨?_, trivial⟩ (Nat.lt_succ_self _)
    · first | (exact ⟨s4_, e44_.1, by rw [es4_]; exact hB_⟩) | (exfalso; omega) | (refine ⟨s4_, e44_.1, ?_⟩; rcases B1_r hB1_ l1_ with z_ | z_; (exfalso; have z1_ := z_.1; have z3_ := (wl_tp wl4_ ok4_.1).2.2.1.mp (by omega); omega); (exact z_.2))
  · have cx7_ : ¬ (vx6_ = 0) := of_decide_eq_false cx7_
    have l1_ : 0 < p_lv false (lx_kd b_ n_ p_) := e1_.1.mp (by omega)
    have l2_ := e1_.2 (by omega)
    have l3_ := lv_all l1_
    obtain ⟨s4_, hs4_, hB1_⟩ : ∃ s4_, p_se2 1 (if p_lv false (lx_kd b_ n_ p_) = 4 then 5 else p_lv false (lx_kd b_ n_ p_)) (o_, g_, c_) = .inr s4_ ∧ p_B1 b_ n_ false p_ (p_lv false (lx_kd b_ n_ p_)) s4_ = .inr res_ := by have q9_ := hst_; rw [pB_l l1_] at q9_; exact pb_inr q9_
    have bx13_ : 0 ≤ S0_.1 13 0 9 ∧ S0_.1 13 0 9 ≤ 1280 := hI_.1 13 0 9 rfl
    refine sm_T_go 4 (c1 := (15, [some (.inr (.inr (some (13, 0)))), some (.inl a_), none], [.inl (S0_.1 13 0 9), .inr (.inr (some (121, 0)))], S0_)) rfl ?_
    refine sm_T_iald (n := 65537) rfl rfl (by omega) (by omega) ?_
    have bx14_ : (-2147483648) ≤ S0_.2.2.1 121 0 (S0_.1 13 0 9).toNat ∧ S0_.2.2.1 121 0 (S0_.1 13 0 9).toNat ≤ 2147483647 := hI_.2 121 0 _
    refine sm_T_cal (d1 := 0) (Q1 := vq_309 (S0_.2.2.1 121 0 (S0_.1 13 0 9).toNat) S0_) rfl rfl (by decide) (vc_309 (S0_.2.2.1 121 0 (S0_.1 13 0 9).toNat) S0_ hI_ ) (fun u_ Sx15_ px18_ => ?_)
    obtain ⟨rfl, vx20_, rfl, px18_⟩ := px18_
    have l16_ : vx20_ = p_lv false (lx_kd b_ n_ p_) := by rw [px18_, l2_.2.1]
    have n16_ := l2_.2.1
    refine sm_T_go 5 (c1 := (27, [some (.inr (.inr (some (13, 0)))), some (.inl a_), some (.inl vx20_)], [.inl 4, .inl vx20_, .inr (.inr (some (13, 0)))], S0_)) rfl ?_
    refine sm_T_br (a := 1) (z := 7) rfl (fun cx21_ => ?_) (fun cx21_ => ?_)
    · have cx21_ : vx20_ ≠ 4 := of_decide_eq_true cx21_
      refine sm_T_go 1 (c1 := (35, [some (.inr (.inr (some (13, 0)))), some (.inl a_), some (.inl vx20_)], [.inl vx20_, .inr (.inr (some (13, 0)))], S0_)) rfl ?_
      refine sm_T_b0 (a := 5) (z := 7) rfl (fun cx22_ => ?_) (fun cx22_ => ?_)
      · have cx22_ : vx20_ ≤ 0 := of_decide_eq_true cx22_
        exfalso; omega
      · have cx22_ : ¬ (vx20_ ≤ 0) := of_decide_eq_false cx22_
        refine sm_T_go 2 (c1 := (44, [some (.inr (.inr (some (13, 0)))), some (.inl a_), some (.inl vx20_)], [.inl vx20_, .inr (.inr (some (13, 0)))], S0_)) rfl ?_
        refine sm_T_cal (d1 := 5) (Q1 := vq_315g vx20_ b_ n_ T_ p_ F_ I_ A_ X_ M_ s0_ (o_, g_, c_) s4_ S0_) rfl rfl (by decide) (vc_315g vx20_ b_ n_ T_ p_ F_ I_ A_ X_ M_ s0_ (o_, g_, c_) s4_ S0_ hI_ (by exact ht_) (by exact rz_x hz_) (by omega) (by first | exact hs4_ | (have q9_ := hs4_; rw [if_pos (by omega)] at q9_; exact q9_) | (have q9_ := hs4_; rw [if_neg (by omega), ← l16_] at q9_; exact q9_))) (fun u_ Sx23_ px26_ => ?_)
        obtain ⟨rfl, hIx24_, hFx25_, px26_⟩ := px26_
        have hFx27_ : ai_fr (sx_W vw_320g) S0_ Sx23_ := ai_fr_tr hF_ (fr_le hFx25_ rfl)
        have ex28_ : Sx23_.1 13 0 9 = S0_.1 13 0 9 := hFx25_.1 13 0 9 rfl
        have e44_ := px26_
        obtain ⟨w4_, ws4_, wl4_, ok4_, g4_, op4_, vs4_, m4_⟩ := rz_ws e44_.1
        have wx4_ := ws4_.1
        have wll4_ := wl_len wl4_
        have lim4_ := o_lim ok4_.1 ok4_.2.1
        have gl4_ : (s4_).2.1.length = o_hl (s4_).1 + 1 := ok4_.2.2.1
        have t44_ := rtab_fr ht_ hFx25_ rfl rfl rfl rfl rfl
        have at44_ := hFx25_.1 13 0 9 rfl
        have nb44_ : Sx23_.2.2.1 121 0 (Sx23_.1 13 0 9).toNat = S0_.2.2.1 121 0 (S0_.1 13 0 9).toNat := by rw [fr_arr hFx25_ rfl, at44_]
        refine sm_T_go 1 (c1 := (48, [some (.inr (.inr (some (13, 0)))), some (.inl a_), some (.inl vx20_)], [.inl vx20_], Sx23_)) rfl ?_
        refine sm_T_b0 (a := 5) (z := 41) rfl (fun cx29_ => ?_) (fun cx29_ => ?_)
        · have cx29_ : vx20_ ≤ 0 := of_decide_eq_true cx29_
          exfalso; omega
        · have cx29_ : ¬ (vx20_ ≤ 0) := of_decide_eq_false cx29_
          refine sm_T_go 2 (c1 := (53, [some (.inr (.inr (some (13, 0)))), some (.inl a_), some (.inl vx20_)], [.inl 4, .inl vx20_], Sx23_)) rfl ?_
          refine sm_T_br (a := 1) (z := 13) rfl (fun cx30_ => ?_) (fun cx30_ => ?_)
          · have cx30_ : vx20_ ≠ 4 := of_decide_eq_true cx30_
            have bx31_ : 0 ≤ Sx23_.1 13 0 9 ∧ Sx23_.1 13 0 9 ≤ 1280 := hIx24_.1 13 0 9 rfl
            refine sm_T_go 5 (c1 := (75, [some (.inr (.inr (some (13, 0)))), some (.inl a_), some (.inl vx20_)], [.inl (Sx23_.1 13 0 9), .inr (.inr (some (121, 0))), .inr (.inr (some (13, 0)))], Sx23_)) rfl ?_
            refine sm_T_iald (n := 65537) rfl rfl (by omega) (by omega) ?_
            have bx32_ : (-2147483648) ≤ Sx23_.2.2.1 121 0 (Sx23_.1 13 0 9).toNat ∧ Sx23_.2.2.1 121 0 (Sx23_.1 13 0 9).toNat ≤ 2147483647 := hIx24_.2 121 0 _
            refine sm_T_go 2 (c1 := (80, [some (.inr (.inr (some (13, 0)))), some (.inl a_), some (.inl vx20_)], [.inl (Sx23_.1 13 0 9), .inl (Sx23_.2.2.1 121 0 (Sx23_.1 13 0 9).toNat), .inr (.inr (some (13, 0)))], Sx23_)) rfl ?_
            refine sm_T_cal (d1 := 0) (Q1 := vq_311 (Sx23_.2.2.1 121 0 (Sx23_.1 13 0 9).toNat) (Sx23_.1 13 0 9) w4_ Sx23_) rfl rfl (by decide) (vc_311 (Sx23_.2.2.1 121 0 (Sx23_.1 13 0 9).toNat) (Sx23_.1 13 0 9) w4_ Sx23_ hIx24_ (by exact ws4_) (by omega) (by omega) (by omega)) (fun u_ Sx33_ px36_ => ?_)
            obtain ⟨rfl, hIx34_, hFx35_, px36_⟩ := px36_
            have hFx37_ : ai_fr (sx_W vw_320g) S0_ Sx33_ := ai_fr_tr hFx27_ (fr_le hFx35_ rfl)
            have ex38_ : Sx33_.1 13 0 9 = Sx23_.1 13 0 9 := hFx35_.1 13 0 9 rfl
            have ws80_ := px36_
            have g80_ := rg_fr g4_ hFx35_ rfl rfl rfl
            have t80_ := rtab_fr t44_ hFx35_ rfl rfl rfl rfl rfl
            rw [nb44_, at44_, n16_, hi1_] at ws80_
            have x80_ := xg_fr e44_.1.2.1 hFx35_ rfl rfl rfl rfl rfl rfl rfl rfl
            have v80_ := vs_fr vs4_ hFx35_ rfl rfl rfl
            have o80_ := (hFx35_.1 13 0 33 rfl).trans op4_
            have m80_ := (hFx35_.1 13 0 27 rfl).trans m4_
            refine sm_T_go 1 (c1 := (84, [some (.inr (.inr (some (13, 0)))), some (.inl a_), some (.inl vx20_)], [.inr (.inr (some (13, 0)))], Sx33_)) rfl ?_
            refine sm_T_cal (d1 := 2) (Q1 := vq_297 b_ n_ T_ (.inr p_) Sx33_) rfl rfl (by decide) (vc_297 b_ n_ T_ (.inr p_) Sx33_ hIx34_ (by exact t80_) (by exact g80_) (by (intro q_ e_; cases e_; omega))) (fun u_ Sx39_ px42_ => ?_)
            obtain ⟨rfl, hIx40_, hFx41_, px42_⟩ := px42_
            have hFx43_ : ai_fr (sx_W vw_320g) S0_ Sx39_ := ai_fr_tr hFx37_ (fr_le hFx41_ rfl)
            have g84_ := px42_.1
            have ws84_ := ws_fr ws80_ hFx41_ rfl rfl rfl
            have x84_ := xg_fr x80_ hFx41_ rfl rfl rfl rfl rfl rfl rfl rfl
            have v84_ := vs_fr v80_ hFx41_ rfl rfl rfl
            have o84_ := (hFx41_.1 13 0 33 rfl).trans o80_
            have m84_ := (hFx41_.1 13 0 27 rfl).trans m80_
            refine sm_T_go 1 (c1 := (88, [some (.inr (.inr (some (13, 0)))), some (.inl a_), some (.inl vx20_)], [.inl 0], Sx39_)) rfl ?_
            refine sm_T_ri rfl ⟨_, _, rfl, _, rfl, hIx40_, hFx43_, ?_⟩
            obtain ⟨q_, q1_, q2_⟩ : ∃ q_, p_ad b_ n_ p_ = .inr q_ ∧ res_ = .inl (0, false, q_, (p_lv false (lx_kd b_ n_ p_), p_) :: s4_.1, s4_.2.1, s4_.2.2) := by rcases B1_r hB1_ l1_ with z_ | z_; (exact z_.2); (exfalso; have z1_ := z_.1; first | omega | (have z2_ := (wl_tp wl4_ ok4_.1).2.2.1.mpr z1_.2; omega))
            rw [pb_r rfl, q1_] at g84_
            have xk_ : x_ok b_ n_ false (0, false, q_, (p_lv false (lx_kd b_ n_ p_), p_) :: s4_.1, s4_.2.1, s4_.2.2) := x_st ht_.1 hpr_ hz_.2.1 (by rw [hst_, q2_])
            rw [q2_]
            refine ⟨⟨⟨g84_, ⟨_, ws84_, Or.inl ⟨rfl, Or.inl ⟨rfl, ⟨(i_ : Int), w4_, by rw [l3_.1], rp_rtp ht_ hi2_ (by omega), Or.inl ⟨by omega, wl4_⟩⟩⟩⟩⟩, ?_, v84_, m84_⟩, xk_, x84_, ?_⟩, rfl⟩
            · rw [o84_]; show _ = (((if p_lv false (lx_kd b_ n_ p_) < 0 then 1 else 0) + o_mk s4_.1 : Nat) : Int); rw [if_neg (by omega)]; simp
            · show o_wd ((p_lv false (lx_kd b_ n_ p_), p_) :: s4_.1) s4_.2.1; obtain ⟨a9_, g9_, hg9_⟩ := s_ok_1 ok4_; have q9_ := e44_.1.2.2; rw [hg9_] at q9_ ⊢; unfold o_wd; rw [if_neg (by show ¬ p_lv false (lx_kd b_ n_ p_) = -3; omega), if_neg (by show ¬ p_lv false (lx_kd b_ n_ p_) = -4; omega), if_neg (by show ¬ p_lv false (lx_kd b_ n_ p_) < 0; omega)]; exact q9_
          · have cx30_ : ¬ (vx20_ ≠ 4) := of_decide_eq_false cx30_
            refine sm_T_go 1 (c1 := (57, [some (.inr (.inr (some (13, 0)))), some (.inl a_), some (.inl vx20_)], [.inr (.inr (some (13, 0)))], Sx23_)) rfl ?_
            refine sm_T_cal (d1 := 0) (Q1 := vq_312 w4_ Sx23_) rfl rfl (by decide) (vc_312 w4_ Sx23_ hIx24_ (by exact ws4_)) (fun u_ Sx44_ px47_ => ?_)
            obtain ⟨rfl, vx49_, rfl, px47_⟩ := px47_
            have e57_ := px47_
            refine sm_T_go 1 (c1 := (63, [some (.inr (.inr (some (13, 0)))), some (.inl a_), some (.inl vx20_)], [.inl 257, .inl vx49_], Sx23_)) rfl ?_
            refine sm_T_br (a := 0) (z := 26) rfl (fun cx50_ => ?_) (fun cx50_ => ?_)
            · have cx50_ : vx49_ = 257 := of_decide_eq_true cx50_
              refine sm_T_go 0 (c1 := (89, [some (.inr (.inr (some (13, 0)))), some (.inl a_), some (.inl vx20_)], [], Sx23_)) rfl ?_
              refine sm_T_wk [some (.inr (.inr (some (13, 0)))), some (.inl a_), none] (by exact ⟨rfl, rfl, trivial⟩) ?_
              refine (vl_320g a_ b_ n_ T_ F_ I_ A_ X_ M_ s0_ pr_ p_ o_ g_ c_ res_ S0_ ha_ ht_ hpr_ hz_ hst_ _)  Sx23_ hIx24_ hFx27_ ⟨?_, trivial⟩ (Nat.lt_succ_self _)
              · first | (exact ⟨s4_, e44_.1, by rw [es4_]; exact hB_⟩) | (exfalso; omega) | (refine ⟨s4_, e44_.1, ?_⟩; rcases B1_r hB1_ l1_ with z_ | z_; (exfalso; have z1_ := z_.1; have z3_ := (wl_tp wl4_ ok4_.1).2.2.1.mp (by omega); omega); (exact z_.2))
            · have cx50_ : ¬ (vx49_ = 257) := of_decide_eq_false cx50_
              have bx51_ : 0 ≤ Sx23_.1 13 0 9 ∧ Sx23_.1 13 0 9 ≤ 1280 := hIx24_.1 13 0 9 rfl
              refine sm_T_go 5 (c1 := (75, [some (.inr (.inr (some (13, 0)))), some (.inl a_), some (.inl vx20_)], [.inl (Sx23_.1 13 0 9), .inr (.inr (some (121, 0))), .inr (.inr (some (13, 0)))], Sx23_)) rfl ?_
              refine sm_T_iald (n := 65537) rfl rfl (by omega) (by omega) ?_
              have bx52_ : (-2147483648) ≤ Sx23_.2.2.1 121 0 (Sx23_.1 13 0 9).toNat ∧ Sx23_.2.2.1 121 0 (Sx23_.1 13 0 9).toNat ≤ 2147483647 := hIx24_.2 121 0 _
              refine sm_T_go 2 (c1 := (80, [some (.inr (.inr (some (13, 0)))), some (.inl a_), some (.inl vx20_)], [.inl (Sx23_.1 13 0 9), .inl (Sx23_.2.2.1 121 0 (Sx23_.1 13 0 9).toNat), .inr (.inr (some (13, 0)))], Sx23_)) rfl ?_
              refine sm_T_cal (d1 := 0) (Q1 := vq_311 (Sx23_.2.2.1 121 0 (Sx23_.1 13 0 9).toNat) (Sx23_.1 13 0 9) w4_ Sx23_) rfl rfl (by decide) (vc_311 (Sx23_.2.2.1 121 0 (Sx23_.1 13 0 9).toNat) (Sx23_.1 13 0 9) w4_ Sx23_ hIx24_ (by exact ws4_) (by omega) (by omega) (by omega)) (fun u_ Sx53_ px56_ => ?_)
              obtain ⟨rfl, hIx54_, hFx55_, px56_⟩ := px56_
              have hFx57_ : ai_fr (sx_W vw_320g) S0_ Sx53_ := ai_fr_tr hFx27_ (fr_le hFx55_ rfl)
              have ex58_ : Sx53_.1 13 0 9 = Sx23_.1 13 0 9 := hFx55_.1 13 0 9 rfl
              have ws80_ := px56_
              have g80_ := rg_fr g4_ hFx55_ rfl rfl rfl
              have t80_ := rtab_fr t44_ hFx55_ rfl rfl rfl rfl rfl
              rw [nb44_, at44_, n16_, hi1_] at ws80_
              have x80_ := xg_fr e44_.1.2.1 hFx55_ rfl rfl rfl rfl rfl rfl rfl rfl
              have v80_ := vs_fr vs4_ hFx55_ rfl rfl rfl
              have o80_ := (hFx55_.1 13 0 33 rfl).trans op4_
              have m80_ := (hFx55_.1 13 0 27 rfl).trans m4_
              refine sm_T_go 1 (c1 := (84, [some (.inr (.inr (some (13, 0)))), some (.inl a_), some (.inl vx20_)], [.inr (.inr (some (13, 0)))], Sx53_)) rfl ?_
              refine sm_T_cal (d1 := 2) (Q1 := vq_297 b_ n_ T_ (.inr p_) Sx53_) rfl rfl (by decide) (vc_297 b_ n_ T_ (.inr p_) Sx53_ hIx54_ (by exact t80_) (by exact g80_) (by (intro q_ e_; cases e_; omega))) (fun u_ Sx59_ px62_ => ?_)
              obtain ⟨rfl, hIx60_, hFx61_, px62_⟩ := px62_
              have hFx63_ : ai_fr (sx_W vw_320g) S0_ Sx59_ := ai_fr_tr hFx57_ (fr_le hFx61_ rfl)
              have g84_ := px62_.1
              have ws84_ := ws_fr ws80_ hFx61_ rfl rfl rfl
              have x84_ := xg_fr x80_ hFx61_ rfl rfl rfl rfl rfl rfl rfl rfl
              have v84_ := vs_fr v80_ hFx61_ rfl rfl rfl
              have o84_ := (hFx61_.1 13 0 33 rfl).trans o80_
              have m84_ := (hFx61_.1 13 0 27 rfl).trans m80_
              refine sm_T_go 1 (c1 := (88, [some (.inr (.inr (some (13, 0)))), some (.inl a_), some (.inl vx20_)], [.inl 0], Sx59_)) rfl ?_
              refine sm_T_ri rfl ⟨_, _, rfl, _, rfl, hIx60_, hFx63_, ?_⟩
              obtain ⟨q_, q1_, q2_⟩ : ∃ q_, p_ad b_ n_ p_ = .inr q_ ∧ res_ = .inl (0, false, q_, (p_lv false (lx_kd b_ n_ p_), p_) :: s4_.1, s4_.2.1, s4_.2.2) := by rcases B1_r hB1_ l1_ with z_ | z_; (exact z_.2); (exfalso; have z1_ := z_.1; first | omega | (have z2_ := (wl_tp wl4_ ok4_.1).2.2.1.mpr z1_.2; omega))
              rw [pb_r rfl, q1_] at g84_
              have xk_ : x_ok b_ n_ false (0, false, q_, (p_lv false (lx_kd b_ n_ p_), p_) :: s4_.1, s4_.2.1, s4_.2.2) := x_st ht_.1 hpr_ hz_.2.1 (by rw [hst_, q2_])
              rw [q2_]
              refine ⟨⟨⟨g84_, ⟨_, ws84_, Or.inl ⟨rfl, Or.inl ⟨rfl, ⟨(i_ : Int), w4_, by rw [l3_.1], rp_rtp ht_ hi2_ (by omega), Or.inl ⟨by omega, wl4_⟩⟩⟩⟩⟩, ?_, v84_, m84_⟩, xk_, x84_, ?_⟩, rfl⟩
              · rw [o84_]; show _ = (((if p_lv false (lx_kd b_ n_ p_) < 0 then 1 else 0) + o_mk s4_.1 : Nat) : Int); rw [if_neg (by omega)]; simp
              · show o_wd ((p_lv false (lx_kd b_ n_ p_), p_) :: s4_.1) s4_.2.1; obtain ⟨a9_, g9_, hg9_⟩ := s_ok_1 ok4_; have q9_ := e44_.1.2.2; rw [hg9_] at q9_ ⊢; unfold o_wd; rw [if_neg (by show ¬ p_lv false (lx_kd b_ n_ p_) = -3; omega), if_neg (by show ¬ p_lv false (lx_kd b_ n_ p_) = -4; omega), if_neg (by show ¬ p_lv false (lx_kd b_ n_ p_) < 0; omega)]; exact q9_
    · have cx21_ : ¬ (vx20_ ≠ 4) := of_decide_eq_false cx21_
      refine sm_T_go 2 (c1 := (44, [some (.inr (.inr (some (13, 0)))), some (.inl a_), some (.inl vx20_)], [.inl 5, .inr (.inr (some (13, 0)))], S0_)) rfl ?_
      refine sm_T_cal (d1 := 5) (Q1 := vq_315g 5 b_ n_ T_ p_ F_ I_ A_ X_ M_ s0_ (o_, g_, c_) s4_ S0_) rfl rfl (by decide) (vc_315g 5 b_ n_ T_ p_ F_ I_ A_ X_ M_ s0_ (o_, g_, c_) s4_ S0_ hI_ (by exact ht_) (by exact rz_x hz_) (by omega) (by first | exact hs4_ | (have q9_ := hs4_; rw [if_pos (by omega)] at q9_; exact q9_) | (have q9_ := hs4_; rw [if_neg (by omega), ← l16_] at q9_; exact q9_))) (fun u_ Sx64_ px67_ => ?_)
      obtain ⟨rfl, hIx65_, hFx66_, px67_⟩ := px67_
      have hFx68_ : ai_fr (sx_W vw_320g) S0_ Sx64_ := ai_fr_tr hF_ (fr_le hFx66_ rfl)
      have ex69_ : Sx64_.1 13 0 9 = S0_.1 13 0 9 := hFx66_.1 13 0 9 rfl
      have e44_ := px67_
      obtain ⟨w4_, ws4_, wl4_, ok4_, g4_, op4_, vs4_, m4_⟩ := rz_ws e44_.1
      have wx4_ := ws4_.1
      have wll4_ := wl_len wl4_
      have lim4_ := o_lim ok4_.1 ok4_.2.1
      have gl4_ : (s4_).2.1.length = o_hl (s4_).1 + 1 := ok4_.2.2.1
      have t44_ := rtab_fr ht_ hFx66_ rfl rfl rfl rfl rfl
      have at44_ := hFx66_.1 13 0 9 rfl
      have nb44_ : Sx64_.2.2.1 121 0 (Sx64_.1 13 0 9).toNat = S0_.2.2.1 121 0 (S0_.1 13 0 9).toNat := by rw [fr_arr hFx66_ rfl, at44_]
      refine sm_T_go 1 (c1 := (48, [some (.inr (.inr (some (13, 0)))), some (.inl a_), some (.inl vx20_)], [.inl vx20_], Sx64_)) rfl ?_
      refine sm_T_b0 (a := 5) (z := 41) rfl (fun cx70_ => ?_) (fun cx70_ => ?_)
      · have cx70_ : vx20_ ≤ 0 := of_decide_eq_true cx70_
        exfalso; omega
      · have cx70_ : ¬ (vx20_ ≤ 0) := of_decide_eq_false cx70_
        refine sm_T_go 2 (c1 := (53, [some (.inr (.inr (some (13, 0)))), some (.inl a_), some (.inl vx20_)], [.inl 4, .inl vx20_], Sx64_)) rfl ?_
        refine sm_T_br (a := 1) (z := 13) rfl (fun cx71_ => ?_) (fun cx71_ => ?_)
        · have cx71_ : vx20_ ≠ 4 := of_decide_eq_true cx71_
          exfalso; omega
        · have cx71_ : ¬ (vx20_ ≠ 4) := of_decide_eq_false cx71_
          refine sm_T_go 1 (c1 := (57, [some (.inr (.inr (some (13, 0)))), some (.inl a_), some (.inl vx20_)], [.inr (.inr (some (13, 0)))], Sx64_)) rfl ?_
          refine sm_T_cal (d1 := 0) (Q1 := vq_312 w4_ Sx64_) rfl rfl (by decide) (vc_312 w4_ Sx64_ hIx65_ (by exact ws4_)) (fun u_ Sx72_ px75_ => ?_)
          obtain ⟨rfl, vx77_, rfl, px75_⟩ := px75_
          have e57_ := px75_
          refine sm_T_go 1 (c1 := (63, [some (.inr (.inr (some (13, 0)))), some (.inl a_), some (.inl vx20_)], [.inl 257, .inl vx77_], Sx64_)) rfl ?_
          refine sm_T_br (a := 0) (z := 26) rfl (fun cx78_ => ?_) (fun cx78_ => ?_)
          · have cx78_ : vx77_ = 257 := of_decide_eq_true cx78_
            refine sm_T_go 0 (c1 := (89, [some (.inr (.inr (some (13, 0)))), some (.inl a_), some (.inl vx20_)], [], Sx64_)) rfl ?_
            refine sm_T_wk [some (.inr (.inr (some (13, 0)))), some (.inl a_), none] (by exact ⟨rfl, rfl, trivial⟩) ?_
            refine (vl_320g a_ b_ n_ T_ F_ I_ A_ X_ M_ s0_ pr_ p_ o_ g_ c_ res_ S0_ ha_ ht_ hpr_ hz_ hst_ _)  Sx64_ hIx65_ hFx68_ ⟨?_, trivial⟩ (Nat.lt_succ_self _)
            · first | (exact ⟨s4_, e44_.1, by rw [es4_]; exact hB_⟩) | (exfalso; omega) | (refine ⟨s4_, e44_.1, ?_⟩; rcases B1_r hB1_ l1_ with z_ | z_; (exfalso; have z1_ := z_.1; have z3_ := (wl_tp wl4_ ok4_.1).2.2.1.mp (by omega); omega); (exact z_.2))
          · have cx78_ : ¬ (vx77_ = 257) := of_decide_eq_false cx78_
            have bx79_ : 0 ≤ Sx64_.1 13 0 9 ∧ Sx64_.1 13 0 9 ≤ 1280 := hIx65_.1 13 0 9 rfl
            refine sm_T_go 5 (c1 := (75, [some (.inr (.inr (some (13, 0)))), some (.inl a_), some (.inl vx20_)], [.inl (Sx64_.1 13 0 9), .inr (.inr (some (121, 0))), .inr (.inr (some (13, 0)))], Sx64_)) rfl ?_
            refine sm_T_iald (n := 65537) rfl rfl (by omega) (by omega) ?_
            have bx80_ : (-2147483648) ≤ Sx64_.2.2.1 121 0 (Sx64_.1 13 0 9).toNat ∧ Sx64_.2.2.1 121 0 (Sx64_.1 13 0 9).toNat ≤ 2147483647 := hIx65_.2 121 0 _
            refine sm_T_go 2 (c1 := (80, [some (.inr (.inr (some (13, 0)))), some (.inl a_), some (.inl vx20_)], [.inl (Sx64_.1 13 0 9), .inl (Sx64_.2.2.1 121 0 (Sx64_.1 13 0 9).toNat), .inr (.inr (some (13, 0)))], Sx64_)) rfl ?_
            refine sm_T_cal (d1 := 0) (Q1 := vq_311 (Sx64_.2.2.1 121 0 (Sx64_.1 13 0 9).toNat) (Sx64_.1 13 0 9) w4_ Sx64_) rfl rfl (by decide) (vc_311 (Sx64_.2.2.1 121 0 (Sx64_.1 13 0 9).toNat) (Sx64_.1 13 0 9) w4_ Sx64_ hIx65_ (by exact ws4_) (by omega) (by omega) (by omega)) (fun u_ Sx81_ px84_ => ?_)
            obtain ⟨rfl, hIx82_, hFx83_, px84_⟩ := px84_
            have hFx85_ : ai_fr (sx_W vw_320g) S0_ Sx81_ := ai_fr_tr hFx68_ (fr_le hFx83_ rfl)
            have ex86_ : Sx81_.1 13 0 9 = Sx64_.1 13 0 9 := hFx83_.1 13 0 9 rfl
            have ws80_ := px84_
            have g80_ := rg_fr g4_ hFx83_ rfl rfl rfl
            have t80_ := rtab_fr t44_ hFx83_ rfl rfl rfl rfl rfl
            rw [nb44_, at44_, n16_, hi1_] at ws80_
            have x80_ := xg_fr e44_.1.2.1 hFx83_ rfl rfl rfl rfl rfl rfl rfl rfl
            have v80_ := vs_fr vs4_ hFx83_ rfl rfl rfl
            have o80_ := (hFx83_.1 13 0 33 rfl).trans op4_
            have m80_ := (hFx83_.1 13 0 27 rfl).trans m4_
            refine sm_T_go 1 (c1 := (84, [some (.inr (.inr (some (13, 0)))), some (.inl a_), some (.inl vx20_)], [.inr (.inr (some (13, 0)))], Sx81_)) rfl ?_
            refine sm_T_cal (d1 := 2) (Q1 := vq_297 b_ n_ T_ (.inr p_) Sx81_) rfl rfl (by decide) (vc_297 b_ n_ T_ (.inr p_) Sx81_ hIx82_ (by exact t80_) (by exact g80_) (by (intro q_ e_; cases e_; omega))) (fun u_ Sx87_ px90_ => ?_)
            obtain ⟨rfl, hIx88_, hFx89_, px90_⟩ := px90_
            have hFx91_ : ai_fr (sx_W vw_320g) S0_ Sx87_ := ai_fr_tr hFx85_ (fr_le hFx89_ rfl)
            have g84_ := px90_.1
            have ws84_ := ws_fr ws80_ hFx89_ rfl rfl rfl
            have x84_ := xg_fr x80_ hFx89_ rfl rfl rfl rfl rfl rfl rfl rfl
            have v84_ := vs_fr v80_ hFx89_ rfl rfl rfl
            have o84_ := (hFx89_.1 13 0 33 rfl).trans o80_
            have m84_ := (hFx89_.1 13 0 27 rfl).trans m80_
            refine sm_T_go 1 (c1 := (88, [some (.inr (.inr (some (13, 0)))), some (.inl a_), some (.inl vx20_)], [.inl 0], Sx87_)) rfl ?_
            refine sm_T_ri rfl ⟨_, _, rfl, _, rfl, hIx88_, hFx91_, ?_⟩
            obtain ⟨q_, q1_, q2_⟩ : ∃ q_, p_ad b_ n_ p_ = .inr q_ ∧ res_ = .inl (0, false, q_, (p_lv false (lx_kd b_ n_ p_), p_) :: s4_.1, s4_.2.1, s4_.2.2) := by rcases B1_r hB1_ l1_ with z_ | z_; (exact z_.2); (exfalso; have z1_ := z_.1; first | omega | (have z2_ := (wl_tp wl4_ ok4_.1).2.2.1.mpr z1_.2; omega))
            rw [pb_r rfl, q1_] at g84_
            have xk_ : x_ok b_ n_ false (0, false, q_, (p_lv false (lx_kd b_ n_ p_), p_) :: s4_.1, s4_.2.1, s4_.2.2) := x_st ht_.1 hpr_ hz_.2.1 (by rw [hst_, q2_])
            rw [q2_]
            refine ⟨⟨⟨g84_, ⟨_, ws84_, Or.inl ⟨rfl, Or.inl ⟨rfl, ⟨(i_ : Int), w4_, by rw [l3_.1], rp_rtp ht_ hi2_ (by omega), Or.inl ⟨by omega, wl4_⟩⟩⟩⟩⟩, ?_, v84_, m84_⟩, xk_, x84_, ?_⟩, rfl⟩
            · rw [o84_]; show _ = (((if p_lv false (lx_kd b_ n_ p_) < 0 then 1 else 0) + o_mk s4_.1 : Nat) : Int); rw [if_neg (by omega)]; simp
            · show o_wd ((p_lv false (lx_kd b_ n_ p_), p_) :: s4_.1) s4_.2.1; obtain ⟨a9_, g9_, hg9_⟩ := s_ok_1 ok4_; have q9_ := e44_.1.2.2; rw [hg9_] at q9_ ⊢; unfold o_wd; rw [if_neg (by show ¬ p_lv false (lx_kd b_ n_ p_) = -3; omega), if_neg (by show ¬ p_lv false (lx_kd b_ n_ p_) = -4; omega), if_neg (by show ¬ p_lv false (lx_kd b_ n_ p_) < 0; omega)]; exact q9_
end
/-! 99.zc9b -/
section
/-! M_.expression -/
def vw_321g : sx_Wl := ([(13, 9), (13, 10), (13, 11), (13, 32), (13, 33), (13, 34), (13, 37)], [136, 137, 138, 139, 140, 141, 142, 143], [])
def vq_321g (b_ : Nat → Int) (n_ : Nat) (T_ : Nat) (F_ : Nat) (I_ : Nat) (A_ : pA) (X_ : Nat → gQ → gE → Option (gQ × gE)) (M_ : Nat) (s0_ : gS) (pr_ : pPr) (K_ : Nat) (fr_ : Nat) (p_ : Nat) (r_ : pR) (S0_ : sm_S) (u_ : Option sm_V) (S1_ : sm_S) : Prop := u_ = none ∧ gi S1_ ∧ ai_fr (sx_W vw_321g) S0_ S1_ ∧ (rg b_ n_ T_ (.inr r_.1) S1_ ∧ ∃ G_ v9_, ev F_ I_ A_ X_ M_ s0_ r_.2.2 = some ((G_, s0_.1.2), s0_.2.1, s0_.2.2.1, [v9_]) ∧ h_tp r_.2.1 = (v9_.length : Int) ∧ (1 ≤ v9_.length ∧ v9_.length ≤ 8) ∧ S1_.2.2.1 138 0 0 = (v9_.length : Int) ∧ rgl F_ G_ S1_ ∧ (imq (G_.length ≤ 1001) (rwv (S1_.2.2.1 139 0) 0 v9_)))
set_option maxHeartbeats 3000000 in
theorem vl_321g {sc_ : Nat × (Nat → Int)} (b_ : Nat → Int) (n_ : Nat) (T_ : Nat) (F_ : Nat) (I_ : Nat) (A_ : pA) (X_ : Nat → gQ → gE → Option (gQ × gE)) (M_ : Nat) (s0_ : gS) (pr_ : pPr) (K_ : Nat) (fr_ : Nat) (p_ : Nat) (r_ : pR) (S0_ : sm_S) (ht_ : rtab b_ n_ T_ S0_) (hpr_ : pr_ok b_ n_ pr_) (hmon : ∀ p_ r_, pr_ p_ = .inr r_ → p_pd b_ n_ A_ M_ p_ = .inr r_ ∧ (lx_kd b_ n_ p_ = 1 → p_fn b_ n_ A_ M_ p_ < (K_ : Int))) (hX_ : ∀ d_ q_ e_ z_, X_ d_ q_ e_ = some z_ → q_.1.length ≤ z_.1.1.length) (hen_ : r_e1 b_ n_ T_ A_ M_ fr_ S0_) (hte_ : ten A_ M_ K_ s0_.2.1 s0_.2.2.1) (hev_ : rev fr_ K_ s0_.2.1 s0_.2.2.1 (s0_.1.1.length ≤ 1001) S0_) (hx_ : rg b_ n_ T_ (.inr p_) S0_) (hm1_ : (S0_.1 13 0 27) = 1) (hs0_ : s0_.2.2.2 = [] ∧ rgl F_ s0_.1.1 S0_) (hr_ : p_ex b_ n_ false pr_ [] p_ = .inr r_) : ∀ nn_ : Nat, (∀ (k_ : Int) (S_ : sm_S), gi S_ → ai_fr (sx_W vw_321g) S0_ S_ → (((∃ x_, k_ = (x_.1 : Int) ∧ rzx b_ n_ T_ F_ I_ A_ X_ M_ s0_ x_ S_ ∧ p_xx b_ n_ false pr_ x_ (.inr r_) ∧ (x_.1 = 1 → x_.2.1 = false)) ∨ (k_ = 2 ∧ rz b_ n_ T_ r_.1 F_ I_ A_ X_ M_ s0_ ([], r_.2.1, r_.2.2) S_)) ∧ True) → (r_ms k_ S_) < nn_ → sm_T (mt_P sc_) 8 321 (17, [some (.inr (.inr (some (13, 0)))), some (.inl k_)], [], S_) (fun ro9_ => ∃ u_ S1_, ro9_ = (.inl u_, S1_, 0) ∧ vq_321g b_ n_ T_ F_ I_ A_ X_ M_ s0_ pr_ K_ fr_ p_ r_ S0_ u_ S1_)) := by
  intro nn_
  induction nn_ with
  | zero => exact fun _ _ _ _ _ h_ => absurd h_ (Nat.not_lt_zero _)
  | succ nn_ ih_ =>
    rintro k_ S_ hI_ hF_ ⟨h1_, -⟩ hm_
    have ht1_ := rtab_fr ht_ hF_ rfl rfl rfl rfl rfl
    have hn1_ := ht_.1
    have en1_ : r_e1 b_ n_ T_ A_ M_ fr_ S_ := ⟨hen_.1, (hF_.1 13 0 28 rfl).trans hen_.2.1, ⟨(hF_.1 13 0 29 rfl).trans hen_.2.2.1.1, hen_.2.2.1.2⟩, fun m_ hm_ => re1_fr (hen_.2.2.2 m_ hm_) hF_ rfl rfl rfl rfl rfl rfl⟩
    have hev1_ := rev_fr hev_ hF_ rfl rfl
    have f0_ : S_.1 13 0 10 = 0 := by rcases h1_ with ⟨x_, _, z_, _⟩ | z_; exact z_.1.1.1; exact rz_f z_.2
    refine sm_T_go 1 (c1 := (18, [some (.inr (.inr (some (13, 0)))), some (.inl k_)], [.inr (.inr (some (13, 0)))], S_)) rfl ?_
    refine sm_T_cal (d1 := 0) (Q1 := vq_292  S_) rfl rfl (by decide) (vc_292  S_ hI_ ) (fun u_ Sx1_ px4_ => ?_)
    obtain ⟨rfl, vx6_, rfl, px4_⟩ := px4_
    have e18_ := px4_
    refine sm_T_b0 (a := 0) (z := 36) rfl (fun cx7_ => ?_) (fun cx7_ => ?_)
    · have cx7_ : vx6_ = 0 := of_decide_eq_true cx7_
      exfalso; (rw [if_pos f0_] at e18_; omega)
    · have cx7_ : ¬ (vx6_ = 0) := of_decide_eq_false cx7_
      refine sm_T_go 2 (c1 := (26, [some (.inr (.inr (some (13, 0)))), some (.inl k_)], [.inl 2, .inl k_], S_)) rfl ?_
      refine sm_T_br (a := 3) (z := 31) rfl (fun cx8_ => ?_) (fun cx8_ => ?_)
      · have cx8_ : 2 ≤ k_ := of_decide_eq_true cx8_
        have hf_ : rz b_ n_ T_ r_.1 F_ I_ A_ X_ M_ s0_ ([], r_.2.1, r_.2.2) S_ := by rcases h1_ with ⟨x_, z1_, z2_, z3_⟩ | z_; (exfalso; have z4_ := z2_.2.1.1; omega); exact z_.2
        refine sm_T_rv rfl ⟨_, _, rfl, rfl, hI_, hF_, ?_⟩
        obtain ⟨Gr_, V_, xe_, xm_, xr, xv_⟩ := hf_.2.1
        have q1_ : r_.2.1.length = 0 + 1 := hf_.1.2.2.2.1
        obtain ⟨a9_, g9_, hg9_⟩ := s_ok_1 hf_.1.2
        have hg9_ : r_.2.1 = a9_ :: g9_ := hg9_
        have g0_ : g9_ = [] := List.eq_nil_of_length_eq_zero (by rw [hg9_, List.length_cons] at q1_; omega)
        rw [g0_] at hg9_
        have xm_ : V_.map (fun v_ => (v_.length : Int)) = r_.2.1 := xm_
        rw [hg9_] at xm_
        obtain ⟨v9_, W9_, rfl, lv_, xw_⟩ := mp_c xm_
        have w0_ : W9_ = [] := List.eq_nil_of_length_eq_zero (by have q9_ := congrArg List.length xw_; rw [List.length_map] at q9_; exact q9_)
        subst w0_
        exact ⟨hf_.1.1.1, Gr_, v9_, xe_, by rw [hg9_]; exact lv_.symm, xv_.2.1, xv_.1, xr, xv_.2.2.1⟩
      · have cx8_ : ¬ (2 ≤ k_) := of_decide_eq_false cx8_
        obtain ⟨x_, kx_, xz_, xx_, xt_⟩ : ∃ x_, k_ = (x_.1 : Int) ∧ rzx b_ n_ T_ F_ I_ A_ X_ M_ s0_ x_ S_ ∧ p_xx b_ n_ false pr_ x_ (.inr r_) ∧ (x_.1 = 1 → x_.2.1 = false) := by rcases h1_ with z_ | z_; exact z_; (have z1_ := z_.1; omega)
        obtain ⟨ph_, t1_, p1_, o1_, g1_, c1_⟩ := x_
        have ph1_ : ph_ ≤ 1 := xz_.2.1.1
        refine sm_T_go 1 (c1 := (30, [some (.inr (.inr (some (13, 0)))), some (.inl k_)], [.inl k_], S_)) rfl ?_
        refine sm_T_b0 (a := 1) (z := 18) rfl (fun cx9_ => ?_) (fun cx9_ => ?_)
        · have cx9_ : k_ ≠ 0 := of_decide_eq_true cx9_
          have p1b : ph_ = 1 := by have z9_ : k_ = (ph_ : Int) := kx_; omega
          subst p1b
          have t1f : t1_ = false := xt_ rfl
          subst t1f
          obtain ⟨rs_, hrs_⟩ : ∃ rs_, p_st b_ n_ false pr_ (1, false, p1_, o1_, g1_, c1_) = .inr rs_ := by have z9_ := p_xy xx_; cases hq_ : p_st b_ n_ false pr_ (1, false, p1_, o1_, g1_, c1_) with | inl e_ => (rw [hq_] at z9_; cases z9_) | inr z_ => exact ⟨z_, rfl⟩
          refine sm_T_go 2 (c1 := (50, [some (.inr (.inr (some (13, 0)))), some (.inl k_)], [.inl 0, .inr (.inr (some (13, 0)))], S_)) rfl ?_
          refine sm_T_cal (d1 := 7) (Q1 := vq_320g 0 b_ n_ T_ F_ I_ A_ X_ M_ s0_ pr_ p1_ o1_ g1_ c1_ rs_ S_) rfl rfl (by decide) (vc_320g 0 b_ n_ T_ F_ I_ A_ X_ M_ s0_ pr_ p1_ o1_ g1_ c1_ rs_ S_ hI_ (by rfl) (by exact ht1_) (by exact hpr_) (by exact xz_) (by exact hrs_)) (fun u_ Sx10_ px13_ => ?_)
          obtain ⟨vx15_, rfl, hIx11_, hFx12_, px13_⟩ := px13_
          have hFx14_ : ai_fr (sx_W vw_321g) S0_ Sx10_ := ai_fr_tr hF_ (fr_le hFx12_ rfl)
          have e50_ := px13_
          have t50_ := rtab_fr ht1_ hFx12_ rfl rfl rfl rfl rfl
          have x50_ := p_xy xx_
          rw [hrs_] at x50_
          refine sm_T_go 2 (c1 := (17, [some (.inr (.inr (some (13, 0)))), some (.inl vx15_)], [], Sx10_)) rfl ?_
          refine ih_ vx15_ Sx10_ hIx11_ hFx14_ ⟨?_, trivial⟩ ?_
          · first | (cases rs_ with | inl y_ => (left; have z8_ := x_st hn1_ hpr_ xz_.2.1 hrs_; obtain ⟨a1_, a2_, a3_, a4_, a5_, a6_⟩ := y_; have z7_ : a1_ ≤ 1 := z8_.1; (by_cases z6_ : a1_ = 1); (subst z6_; obtain ⟨⟨q1_, ⟨w_, q2_, q3_⟩, q4_⟩, q5_, q6_⟩ := e50_.1; refine ⟨(1, false, a3_, a4_, a5_, a6_), e50_.2, ⟨⟨q1_, ⟨w_, q2_, ?_⟩, q4_⟩, xo_t q5_, q6_⟩, xx_t x50_, fun _ => rfl⟩; (rcases q3_ with q3_ | q3_; (exact absurd q3_.1 (show ¬ (1 : Nat) = 0 by decide)); (exact Or.inr q3_))); (exact ⟨_, e50_.2, e50_.1, x50_, fun z_ => absurd z_ z6_⟩)) | inr r9_ => (right; have z9_ : (.inr r_ : pE pR) = .inr r9_ := x50_; cases z9_; exact ⟨e50_.2, e50_.1⟩)) | (left; have z8_ := x_st hn1_ hpr_ xz_.2.1 hy1_; obtain ⟨a1_, a2_, a3_, a4_, a5_, a6_⟩ := y1_; have z7_ : a1_ ≤ 1 := z8_.1; have z5_ : _ = (a1_ : Int) := e34_.2; (by_cases z6_ : a1_ = 1); (subst z6_; obtain ⟨⟨q1_, ⟨w_, q2_, q3_⟩, q4_⟩, q5_, q6_⟩ := e34_.1; refine ⟨(1, false, a3_, a4_, a5_, a6_), by first | rfl | (exfalso; omega), ⟨⟨q1_, ⟨w_, q2_, ?_⟩, q4_⟩, xo_t q5_, q6_⟩, xx_t x34_, fun _ => rfl⟩; (rcases q3_ with q3_ | q3_; (exact absurd q3_.1 (show ¬ (1 : Nat) = 0 by decide)); (exact Or.inr q3_))); (exact ⟨_, (by show _ = (a1_ : Int); first | omega), e34_.1, x34_, fun z_ => absurd z_ z6_⟩))
          · first | (have q2_ := rms_x (k_ := k_) ht1_ xz_.1.1 (by omega); have q3_ : r_ms k_ S_ = 1301 - p1_ := q2_.1; have q4_ : p1_ ≤ 1280 := q2_.2; have k1_ := p_st_lt hpr_ xz_.2.1 hy1_; have k2_ := x_st hn1_ hpr_ xz_.2.1 hy1_; have k5_ : p1_ < y1_.2.2.1 := k1_; have k6_ := k2_.2.2.1; refine Nat.lt_of_le_of_lt (Nat.le_of_eq (rms_x t34_ e34_.1.1.1 (by first | decide | omega)).1) ?_; omega) | (have q2_ := rms_x (k_ := k_) ht1_ xz_.1.1 (by omega); have q3_ : r_ms k_ S_ = 1301 - p1_ := q2_.1; have q4_ : p1_ ≤ 1280 := q2_.2; cases rs_ with | inl y_ => (have k1_ := p_st_lt hpr_ xz_.2.1 hrs_; have k2_ := x_st hn1_ hpr_ xz_.2.1 hrs_; have z9_ := e50_.2; have k5_ : p1_ < y_.2.2.1 := k1_; have k6_ := k2_.2.2.1; have k7_ := k2_.1; refine Nat.lt_of_le_of_lt (Nat.le_of_eq (rms_x t50_ e50_.1.1.1 (by omega)).1) ?_; omega) | inr r9_ => (rw [rms_0 (Or.inr e50_.2)]; omega))
        · have cx9_ : ¬ (k_ ≠ 0) := of_decide_eq_false cx9_
          have p0_ : ph_ = 0 := by have z9_ : k_ = (ph_ : Int) := kx_; omega
          subst p0_
          obtain ⟨y1_, hy1_⟩ : ∃ y_, p_st b_ n_ false pr_ (0, t1_, p1_, o1_, g1_, c1_) = .inr (.inl y_) := by have z9_ := p_xy xx_; cases hq_ : p_st b_ n_ false pr_ (0, t1_, p1_, o1_, g1_, c1_) with | inl e_ => (rw [hq_] at z9_; cases z9_) | inr z_ => (cases z_ with | inl y_ => exact ⟨y_, rfl⟩ | inr r9_ => exact (dn_A (show p_sA b_ n_ false pr_ t1_ p1_ o1_ g1_ c1_ = .inr (.inr r9_) from hq_)).elim)
          refine sm_T_go 1 (c1 := (34, [some (.inr (.inr (some (13, 0)))), some (.inl k_)], [.inr (.inr (some (13, 0)))], S_)) rfl ?_
          refine sm_T_cal (d1 := 6) (Q1 := vq_319g b_ n_ T_ F_ I_ A_ X_ M_ s0_ pr_ K_ fr_ t1_ p1_ o1_ g1_ c1_ y1_ S_) rfl rfl (by decide) (vc_319g b_ n_ T_ F_ I_ A_ X_ M_ s0_ pr_ K_ fr_ t1_ p1_ o1_ g1_ c1_ y1_ S_ hI_ (by exact ht1_) (by exact hpr_) (by exact hmon) (by exact hX_) (by exact en1_) (by exact hte_) (by exact hev1_) (by exact xz_) (by exact hy1_)) (fun u_ Sx16_ px19_ => ?_)
          obtain ⟨vx21_, rfl, hIx17_, hFx18_, px19_⟩ := px19_
          have hFx20_ : ai_fr (sx_W vw_321g) S0_ Sx16_ := ai_fr_tr hF_ (fr_le hFx18_ rfl)
          have e34_ := px19_
          have t34_ := rtab_fr ht1_ hFx18_ rfl rfl rfl rfl rfl
          have x34_ : p_xx b_ n_ false pr_ y1_ (.inr r_) := by have z9_ := p_xy xx_; rw [hy1_] at z9_; exact z9_
          refine sm_T_b0 (a := 0) (z := 7) rfl (fun cx22_ => ?_) (fun cx22_ => ?_)
          · have cx22_ : vx21_ = 0 := of_decide_eq_true cx22_
            refine sm_T_go 4 (c1 := (17, [some (.inr (.inr (some (13, 0)))), some (.inl 0)], [], Sx16_)) rfl ?_
            refine ih_ 0 Sx16_ hIx17_ hFx20_ ⟨?_, trivial⟩ ?_
            · first | (cases rs_ with | inl y_ => (left; have z8_ := x_st hn1_ hpr_ xz_.2.1 hrs_; obtain ⟨a1_, a2_, a3_, a4_, a5_, a6_⟩ := y_; have z7_ : a1_ ≤ 1 := z8_.1; (by_cases z6_ : a1_ = 1); (subst z6_; obtain ⟨⟨q1_, ⟨w_, q2_, q3_⟩, q4_⟩, q5_, q6_⟩ := e50_.1; refine ⟨(1, false, a3_, a4_, a5_, a6_), e50_.2, ⟨⟨q1_, ⟨w_, q2_, ?_⟩, q4_⟩, xo_t q5_, q6_⟩, xx_t x50_, fun _ => rfl⟩; (rcases q3_ with q3_ | q3_; (exact absurd q3_.1 (show ¬ (1 : Nat) = 0 by decide)); (exact Or.inr q3_))); (exact ⟨_, e50_.2, e50_.1, x50_, fun z_ => absurd z_ z6_⟩)) | inr r9_ => (right; have z9_ : (.inr r_ : pE pR) = .inr r9_ := x50_; cases z9_; exact ⟨e50_.2, e50_.1⟩)) | (left; have z8_ := x_st hn1_ hpr_ xz_.2.1 hy1_; obtain ⟨a1_, a2_, a3_, a4_, a5_, a6_⟩ := y1_; have z7_ : a1_ ≤ 1 := z8_.1; have z5_ : _ = (a1_ : Int) := e34_.2; (by_cases z6_ : a1_ = 1); (subst z6_; obtain ⟨⟨q1_, ⟨w_, q2_, q3_⟩, q4_⟩, q5_, q6_⟩ := e34_.1; refine ⟨(1, false, a3_, a4_, a5_, a6_), by first | rfl | (exfalso; omega), ⟨⟨q1_, ⟨w_, q2_, ?_⟩, q4_⟩, xo_t q5_, q6_⟩, xx_t x34_, fun _ => rfl⟩; (rcases q3_ with q3_ | q3_; (exact absurd q3_.1 (show ¬ (1 : Nat) = 0 by decide)); (exact Or.inr q3_))); (exact ⟨_, (by show _ = (a1_ : Int); first | omega), e34_.1, x34_, fun z_ => absurd z_ z6_⟩))
            · first | (have q2_ := rms_x (k_ := k_) ht1_ xz_.1.1 (by omega); have q3_ : r_ms k_ S_ = 1301 - p1_ := q2_.1; have q4_ : p1_ ≤ 1280 := q2_.2; have k1_ := p_st_lt hpr_ xz_.2.1 hy1_; have k2_ := x_st hn1_ hpr_ xz_.2.1 hy1_; have k5_ : p1_ < y1_.2.2.1 := k1_; have k6_ := k2_.2.2.1; refine Nat.lt_of_le_of_lt (Nat.le_of_eq (rms_x t34_ e34_.1.1.1 (by first | decide | omega)).1) ?_; omega) | (have q2_ := rms_x (k_ := k_) ht1_ xz_.1.1 (by omega); have q3_ : r_ms k_ S_ = 1301 - p1_ := q2_.1; have q4_ : p1_ ≤ 1280 := q2_.2; cases rs_ with | inl y_ => (have k1_ := p_st_lt hpr_ xz_.2.1 hrs_; have k2_ := x_st hn1_ hpr_ xz_.2.1 hrs_; have z9_ := e50_.2; have k5_ : p1_ < y_.2.2.1 := k1_; have k6_ := k2_.2.2.1; have k7_ := k2_.1; refine Nat.lt_of_le_of_lt (Nat.le_of_eq (rms_x t50_ e50_.1.1.1 (by omega)).1) ?_; omega) | inr r9_ => (rw [rms_0 (Or.inr e50_.2)]; omega))
          · have cx22_ : ¬ (vx21_ = 0) := of_decide_eq_false cx22_
            refine sm_T_go 4 (c1 := (17, [some (.inr (.inr (some (13, 0)))), some (.inl 1)], [], Sx16_)) rfl ?_
            refine ih_ 1 Sx16_ hIx17_ hFx20_ ⟨?_, trivial⟩ ?_
            · first | (cases rs_ with | inl y_ => (left; have z8_ := x_st hn1_ hpr_ xz_.2.1 hrs_; obtain ⟨a1_, a2_, a3_, a4_, a5_, a6_⟩ := y_; have z7_ : a1_ ≤ 1 := z8_.1; (by_cases z6_ : a1_ = 1); (subst z6_; obtain ⟨⟨q1_, ⟨w_, q2_, q3_⟩, q4_⟩, q5_, q6_⟩ := e50_.1; refine ⟨(1, false, a3_, a4_, a5_, a6_), e50_.2, ⟨⟨q1_, ⟨w_, q2_, ?_⟩, q4_⟩, xo_t q5_, q6_⟩, xx_t x50_, fun _ => rfl⟩; (rcases q3_ with q3_ | q3_; (exact absurd q3_.1 (show ¬ (1 : Nat) = 0 by decide)); (exact Or.inr q3_))); (exact ⟨_, e50_.2, e50_.1, x50_, fun z_ => absurd z_ z6_⟩)) | inr r9_ => (right; have z9_ : (.inr r_ : pE pR) = .inr r9_ := x50_; cases z9_; exact ⟨e50_.2, e50_.1⟩)) | (left; have z8_ := x_st hn1_ hpr_ xz_.2.1 hy1_; obtain ⟨a1_, a2_, a3_, a4_, a5_, a6_⟩ := y1_; have z7_ : a1_ ≤ 1 := z8_.1; have z5_ : _ = (a1_ : Int) := e34_.2; (by_cases z6_ : a1_ = 1); (subst z6_; obtain ⟨⟨q1_, ⟨w_, q2_, q3_⟩, q4_⟩, q5_, q6_⟩ := e34_.1; refine ⟨(1, false, a3_, a4_, a5_, a6_), by first | rfl | (exfalso; omega), ⟨⟨q1_, ⟨w_, q2_, ?_⟩, q4_⟩, xo_t q5_, q6_⟩, xx_t x34_, fun _ => rfl⟩; (rcases q3_ with q3_ | q3_; (exact absurd q3_.1 (show ¬ (1 : Nat) = 0 by decide)); (exact Or.inr q3_))); (exact ⟨_, (by show _ = (a1_ : Int); first | omega), e34_.1, x34_, fun z_ => absurd z_ z6_⟩))
            · first | (have q2_ := rms_x (k_ := k_) ht1_ xz_.1.1 (by omega); have q3_ : r_ms k_ S_ = 1301 - p1_ := q2_.1; have q4_ : p1_ ≤ 1280 := q2_.2; have k1_ := p_st_lt hpr_ xz_.2.1 hy1_; have k2_ := x_st hn1_ hpr_ xz_.2.1 hy1_; have k5_ : p1_ < y1_.2.2.1 := k1_; have k6_ := k2_.2.2.1; refine Nat.lt_of_le_of_lt (Nat.le_of_eq (rms_x t34_ e34_.1.1.1 (by first | decide | omega)).1) ?_; omega) | (have q2_ := rms_x (k_ := k_) ht1_ xz_.1.1 (by omega); have q3_ : r_ms k_ S_ = 1301 - p1_ := q2_.1; have q4_ : p1_ ≤ 1280 := q2_.2; cases rs_ with | inl y_ => (have k1_ := p_st_lt hpr_ xz_.2.1 hrs_; have k2_ := x_st hn1_ hpr_ xz_.2.1 hrs_; have z9_ := e50_.2; have k5_ : p1_ < y_.2.2.1 := k1_; have k6_ := k2_.2.2.1; have k7_ := k2_.1; refine Nat.lt_of_le_of_lt (Nat.le_of_eq (rms_x t50_ e50_.1.1.1 (by omega)).1) ?_; omega) | inr r9_ => (rw [rms_0 (Or.inr e50_.2)]; omega))
set_option maxHeartbeats 3000000 in
theorem vc_321g {sc_ : Nat × (Nat → Int)} (b_ : Nat → Int) (n_ : Nat) (T_ : Nat) (F_ : Nat) (I_ : Nat) (A_ : pA) (X_ : Nat → gQ → gE → Option (gQ × gE)) (M_ : Nat) (s0_ : gS) (pr_ : pPr) (K_ : Nat) (fr_ : Nat) (p_ : Nat) (r_ : pR) (S0_ : sm_S) (hI_ : gi S0_) (ht_ : rtab b_ n_ T_ S0_) (hpr_ : pr_ok b_ n_ pr_) (hmon : ∀ p_ r_, pr_ p_ = .inr r_ → p_pd b_ n_ A_ M_ p_ = .inr r_ ∧ (lx_kd b_ n_ p_ = 1 → p_fn b_ n_ A_ M_ p_ < (K_ : Int))) (hX_ : ∀ d_ q_ e_ z_, X_ d_ q_ e_ = some z_ → q_.1.length ≤ z_.1.1.length) (hen_ : r_e1 b_ n_ T_ A_ M_ fr_ S0_) (hte_ : ten A_ M_ K_ s0_.2.1 s0_.2.2.1) (hev_ : rev fr_ K_ s0_.2.1 s0_.2.2.1 (s0_.1.1.length ≤ 1001) S0_) (hx_ : rg b_ n_ T_ (.inr p_) S0_) (hm1_ : (S0_.1 13 0 27) = 1) (hs0_ : s0_.2.2.2 = [] ∧ rgl F_ s0_.1.1 S0_) (hr_ : p_ex b_ n_ false pr_ [] p_ = .inr r_) : sm_T (mt_P sc_) 8 321 (0, [some (.inr (.inr (some (13, 0)))), none], [], S0_) (fun ro9_ => ∃ u_ S1_, ro9_ = (.inl u_, S1_, 0) ∧ vq_321g b_ n_ T_ F_ I_ A_ X_ M_ s0_ pr_ K_ fr_ p_ r_ S0_ u_ S1_) := by
  have hF_ : ai_fr (sx_W vw_321g) S0_ S0_ := ai_fr_rf
  have hIx1_ : gi (sm_pI S0_ 13 0 32 0) := gi_pI hI_ (show 0 ≤ 0 ∧ 0 ≤ 1023 from ⟨by omega, by omega⟩)
  have hFx2_ : ai_fr (sx_W vw_321g) S0_ (sm_pI S0_ 13 0 32 0) := ai_fr_tr hF_ (ai_fr_pI rfl)
  have hIx3_ : gi (sm_pI (sm_pI S0_ 13 0 32 0) 13 0 33 0) := gi_pI hIx1_ (show 0 ≤ 0 ∧ 0 ≤ 60 from ⟨by omega, by omega⟩)
  have hFx4_ : ai_fr (sx_W vw_321g) S0_ (sm_pI (sm_pI S0_ 13 0 32 0) 13 0 33 0) := ai_fr_tr hFx2_ (ai_fr_pI rfl)
  have hIx5_ : gi (sm_pI (sm_pI (sm_pI S0_ 13 0 32 0) 13 0 33 0) 13 0 34 0) := gi_pI hIx3_ (show 0 ≤ 0 ∧ 0 ≤ 1023 from ⟨by omega, by omega⟩)
  have hFx6_ : ai_fr (sx_W vw_321g) S0_ (sm_pI (sm_pI (sm_pI S0_ 13 0 32 0) 13 0 33 0) 13 0 34 0) := ai_fr_tr hFx4_ (ai_fr_pI rfl)
  refine sm_T_go 11 (c1 := (17, [some (.inr (.inr (some (13, 0)))), some (.inl 0)], [], sm_pI (sm_pI (sm_pI S0_ 13 0 32 0) 13 0 33 0) 13 0 34 0)) rfl ?_
  refine (vl_321g b_ n_ T_ F_ I_ A_ X_ M_ s0_ pr_ K_ fr_ p_ r_ S0_ ht_ hpr_ hmon hX_ hen_ hte_ hev_ hx_ hm1_ hs0_ hr_ _) 0 (sm_pI (sm_pI (sm_pI S0_ 13 0 32 0) 13 0 33 0) 13 0 34 0) hIx5_ hFx6_ ⟨?_, trivial⟩ (Nat.lt_succ_self _)
  · left
    obtain ⟨i9_, z1_, z2_⟩ := id hx_.2
    have z4_ := (rp_at ht_ z2_).2.2.2.1
    refine ⟨(0, false, p_, [], [], []), rfl, ⟨⟨hx_, ⟨[], ⟨rfl, trivial, trivial⟩, Or.inl ⟨rfl, Or.inl ⟨rfl, rfl⟩⟩⟩, rfl, ⟨rfl, fun _ => trivial, fun _ => trivial⟩, hm1_⟩, x_ok_0 z4_ z2_.2.2.1 (Nat.zero_le _), ⟨s0_.1.1, [], ?_, rfl, ?_, trivial⟩, trivial⟩, ?_, fun z_ => absurd z_ (show ¬ (0 : Nat) = 1 by decide)⟩
    · rw [ev_n]; have q9_ := hs0_.1; obtain ⟨⟨q1_, q2_⟩, q3_, q4_, q5_⟩ := s0_; have q9_ : q5_ = [] := q9_; subst q9_; rfl
    · exact rgl_fr (w_ := ([(13, 32), (13, 33), (13, 34)], [], [])) hs0_.2 (ai_fr_tr (ai_fr_tr (ai_fr_pI rfl) (ai_fr_pI rfl)) (ai_fr_pI rfl)) rfl rfl rfl rfl rfl rfl
    · rw [← hr_]; exact p_ex_x ht_.1 hpr_ z4_ z2_.2.2.1 (Nat.zero_le _)
end
/-! 99.zd1 -/
section
/-! tables that grow; code on top; written by wip/p55/gen/vg -/

/-! a_ table and what it_ grows to_ -/
def a_ex (A_ B_ : pA) (M_ : Nat) : Prop := A_.1 M_ ≤ B_.1 M_ ∧ (∀ m_, m_ < M_ → A_.1 m_ = B_.1 m_) ∧ ∀ m_ s_, m_ ≤ M_ → s_ < A_.1 m_ → A_.2.1 (40 * m_ + s_) = B_.2.1 (40 * m_ + s_) ∧ A_.2.2.2.1 (40 * m_ + s_) = B_.2.2.2.1 (40 * m_ + s_) ∧ A_.2.2.2.2 (40 * m_ + s_) = B_.2.2.2.2 (40 * m_ + s_) ∧ (A_.2.2.1 (40 * m_ + s_) = B_.2.2.1 (40 * m_ + s_) ∨ (A_.2.2.1 (40 * m_ + s_) = 3 ∧ B_.2.2.1 (40 * m_ + s_) = 4))
theorem fn_ex {b_ : Nat → Int} {n_ M_ m_ p_ s_ : Nat} {A_ B_ : pA} (h_ : a_ex A_ B_ M_) (hm_ : m_ ≤ M_) (e_ : p_fn b_ n_ A_ m_ p_ = (s_ : Int)) : p_fn b_ n_ B_ m_ p_ = (s_ : Int) ∧ s_ < A_.1 m_ := by
  have e0_ : p_fd (fun s_ => nm_q b_ n_ (A_.2.1 (40 * m_ + s_)) p_) (A_.1 m_) = (s_ : Int) := e_
  have e1_ : p_fd (fun s_ => nm_q b_ n_ (B_.2.1 (40 * m_ + s_)) p_) (A_.1 m_) = (s_ : Int) := by
    rw [← e0_]
    refine p_fd_cg (fun j_ hj_ => ?_)
    show nm_q b_ n_ (B_.2.1 (40 * m_ + j_)) p_ = nm_q b_ n_ (A_.2.1 (40 * m_ + j_)) p_
    rw [(h_.2.2 m_ j_ hm_ hj_).1]
  have le_ : A_.1 m_ ≤ B_.1 m_ := by
    by_cases z_ : m_ = M_
    · rw [z_]; exact h_.1
    · rw [h_.2.1 m_ (by omega)]
      exact Nat.le_refl _
  have e2_ := p_fd_st (f_ := fun s_ => nm_q b_ n_ (B_.2.1 (40 * m_ + s_)) p_) (k_ := A_.1 m_) (by rw [e1_]; omega) (B_.1 m_ - A_.1 m_)
  rw [show A_.1 m_ + (B_.1 m_ - A_.1 m_) = B_.1 m_ by omega, e1_] at e2_
  exact ⟨e2_, (p_fd_f e0_).2⟩
theorem pa_ex {b_ : Nat → Int} {n_ M_ d_ p_ : Nat} {A_ B_ : pA} {s_ : Int} {r_ : Nat × Int × List Int} (h_ : a_ex A_ B_ M_) (hd_ : d_ ≤ M_) (e_ : p_pa b_ n_ A_ s_ d_ p_ = .inr r_) : p_pa b_ n_ B_ s_ d_ p_ = .inr r_ := by
  obtain ⟨o9_, q_, q1_, q2_, q3_, q4_, q5_⟩ := pa_r e_
  have f1_ := (fn_ex (p_ := p_) h_ hd_ q1_).1
  have x_ := h_.2.2 d_ o9_ hd_ q2_
  have s1_ : B_.2.2.1 (40 * d_ + o9_) = 1 := by
    rcases x_.2.2.2 with z_ | z_
    · rw [← z_]; exact q3_
    · omega
  have f2_ : (p_fn b_ n_ B_ d_ p_).toNat = o9_ := by rw [f1_]; rfl
  unfold p_pa
  rw [f2_, if_neg (by rw [f1_, s1_]; rintro (z_ | z_); omega; exact z_ rfl), pb_r q4_, f1_]
  rcases q5_ with ⟨z1_, z2_⟩ | ⟨z1_, u_, v_, z2_, z3_, z4_⟩
  · rw [if_neg z1_, ← x_.2.1, z2_]
  · rw [if_pos z1_, pb_r z2_, bp_bi, ← x_.2.1, pb_r z3_, z4_]
theorem na_ex {b_ : Nat → Int} {n_ M_ p_ : Nat} {A_ B_ : pA} {r_ : Nat × Int × List Int} (hA_ : a_ok b_ n_ A_ M_) (h_ : a_ex A_ B_ M_) (e_ : p_na b_ n_ A_ M_ p_ = .inr r_) : p_na b_ n_ B_ M_ p_ = .inr r_ ∧ p_fn b_ n_ B_ M_ p_ < (A_.1 M_ : Int) := by
  obtain ⟨s9_, q_, q1_, q2_, q3_, q4_⟩ := na_r e_
  have f1_ := fn_ex (p_ := p_) h_ (Nat.le_refl M_) q1_
  have x_ := h_.2.2 M_ s9_ (Nat.le_refl M_) q2_
  have s5_ : B_.2.2.1 (40 * M_ + s9_) = 5 ↔ A_.2.2.1 (40 * M_ + s9_) = 5 := by
    rcases x_.2.2.2 with z_ | z_ <;> omega
  refine ⟨?_, by rw [f1_.1]; omega⟩
  rcases q4_ with ⟨z1_, z2_, z3_⟩ | ⟨z1_, u_, z2_, z3_⟩
  · rw [na_2 f1_.1 q3_ z1_, if_neg (fun w_ => z2_ (s5_.mp w_)), ← x_.2.1, z3_]
  · rcases z3_ with ⟨z3_, z4_, z5_⟩ | ⟨z3_, z4_, v_, z5_, z6_⟩
    · have d5_ := ((hA_.2 M_ (Nat.le_refl _)).2 s9_ q2_).2.2.2.2.1 z4_
      rw [na_4 f1_.1 q3_ z1_ z2_ z3_, if_pos (s5_.mpr z4_), ← x_.2.2.1]
      exact pa_ex h_ (by omega) z5_
    · rw [na_5 f1_.1 q3_ z1_ z2_ z3_, if_neg (fun w_ => z4_ (s5_.mp w_)), bp_bi, ← x_.2.1, pb_r z5_, z6_]
theorem pd_ex {b_ : Nat → Int} {n_ M_ p_ : Nat} {A_ B_ : pA} {r_ : Nat × Int × List Int} (hA_ : a_ok b_ n_ A_ M_) (h_ : a_ex A_ B_ M_) (e_ : p_pd b_ n_ A_ M_ p_ = .inr r_) : p_pd b_ n_ B_ M_ p_ = .inr r_ ∧ (lx_kd b_ n_ p_ = 1 → p_fn b_ n_ B_ M_ p_ < (A_.1 M_ : Int)) := by
  unfold p_pd at e_ ⊢
  by_cases k2_ : lx_kd b_ n_ p_ = 2
  · rw [if_pos k2_] at e_ ⊢
    exact ⟨e_, fun z_ => by omega⟩
  · rw [if_neg k2_] at e_ ⊢
    by_cases k1_ : lx_kd b_ n_ p_ = 1
    · rw [if_pos k1_] at e_ ⊢
      have q_ := na_ex hA_ h_ e_
      exact ⟨q_.1, fun _ => q_.2⟩
    · rw [if_neg k1_] at e_
      cases e_
/-! the_ code comes on_ top_ of_ what is_ there -/
def pm {α β : Type} (f_ : α → β) (x_ : pE α) : pE β := pb x_ fun a_ => .inr (f_ a_)
def aO (c_ : List Int) (s_ : pO) : pO := (s_.1, s_.2.1, s_.2.2 ++ c_)
def aX (c_ : List Int) (x_ : pX) : pX := (x_.1, x_.2.1, x_.2.2.1, x_.2.2.2.1, x_.2.2.2.2.1, x_.2.2.2.2.2 ++ c_)
def aR (c_ : List Int) (r_ : pR) : pR := (r_.1, r_.2.1, r_.2.2 ++ c_)
def aS (c_ : List Int) (z_ : pX ⊕ pR) : pX ⊕ pR := match z_ with
  | .inl x_ => .inl (aX c_ x_)
  | .inr r_ => .inr (aR c_ r_)
theorem pm_b {α β γ : Type} {f_ : β → γ} {x_ : pE α} {g_ : α → pE β} : pm f_ (pb x_ g_) = pb x_ fun a_ => pm f_ (g_ a_) := by
  cases x_ <;> rfl
theorem ap_f {k_ : Int} {q_ : Nat} {a_ d_ : Int} {c_ : List Int} : p_ap false k_ q_ a_ d_ c_ = if a_ = d_ then .inr (if k_ = 4 then 1 else a_, k_ :: c_) else .inl (13, q_) := by
  unfold p_ap
  rw [if_neg (by decide)]
theorem se_ac {ls_ : Int} {c_ : List Int} : ∀ (o_ : List (Int × Nat)) (h_ l_ : List Int), p_se false ls_ o_ h_ (l_ ++ c_) = pm (aO c_) (p_se false ls_ o_ h_ l_)
  | [], h_, l_ => by rw [p_se, p_se] <;> first | rfl | (intros; simp_all)
  | (k_, q_) :: o_, [], l_ => by rw [p_se, p_se] <;> first | rfl | (intros; simp_all)
  | (k_, q_) :: o_, [x_], l_ => by rw [p_se, p_se] <;> first | rfl | (intros; simp_all)
  | (k_, q_) :: o_, y_ :: x_ :: h_, l_ => by
    rw [p_se, p_se]
    by_cases g_ : ls_ ≤ k_
    · rw [if_pos g_, if_pos g_]
      rw [ap_f, ap_f]
      by_cases e_ : x_ = y_
      · rw [if_pos e_, if_pos e_]
        exact se_ac o_ _ (k_ :: l_)
      · rw [if_neg e_, if_neg e_]
        rfl
    · rw [if_neg g_, if_neg g_]
      rfl
theorem sa_ac {c_ : List Int} : ∀ (o_ : List (Int × Nat)) (h_ l_ : List Int), p_sa false o_ h_ (l_ ++ c_) = pm (aO c_) (p_sa false o_ h_ l_)
  | [], h_, l_ => by rw [p_sa, p_sa]; rfl
  | (k_, q_) :: o_, h_, l_ => by
    have key_ : ∀ c1_ : List Int, p_sa false ((k_, q_) :: o_) h_ c1_ = if k_ = -4 then pb (p_ch q_ h_ c1_) fun r_ => p_sa false o_ r_.1 r_.2 else if 1 ≤ k_ then (match h_ with
      | y_ :: x_ :: h_ => pb (p_ap false k_ q_ x_ y_ c1_) fun r_ => p_sa false o_ (r_.1 :: h_) r_.2
      | h_ => .inr ((k_, q_) :: o_, h_, c1_)) else .inr ((k_, q_) :: o_, h_, c1_) := fun c1_ => by
      conv => lhs; unfold p_sa
      cases h_ with
      | nil => rfl
      | cons y_ h_ =>
        cases h_ with
        | nil => rfl
        | cons x_ h_ => rfl
    rw [key_, key_]
    by_cases g4_ : k_ = -4
    · rw [if_pos g4_, if_pos g4_]
      match h_ with
      | [] => rfl
      | [_] => rfl
      | [_, _] => rfl
      | x_ :: y_ :: z_ :: h_ =>
        by_cases e_ : y_ = x_
        · rw [show p_ch q_ (x_ :: y_ :: z_ :: h_) (l_ ++ c_) = .inr (y_ :: h_, 7 :: (l_ ++ c_)) from if_pos e_, show p_ch q_ (x_ :: y_ :: z_ :: h_) l_ = .inr (y_ :: h_, 7 :: l_) from if_pos e_]
          exact sa_ac o_ _ (7 :: l_)
        · rw [show p_ch q_ (x_ :: y_ :: z_ :: h_) (l_ ++ c_) = .inl (13, q_) from if_neg e_, show p_ch q_ (x_ :: y_ :: z_ :: h_) l_ = .inl (13, q_) from if_neg e_]
          rfl
    · rw [if_neg g4_, if_neg g4_]
      by_cases g1_ : 1 ≤ k_
      · rw [if_pos g1_, if_pos g1_]
        match h_ with
        | [] => rfl
        | [_] => rfl
        | y_ :: x_ :: h_ =>
          show pb (p_ap false k_ q_ x_ y_ (l_ ++ c_)) (fun r_ => p_sa false o_ (r_.1 :: h_) r_.2) = pm (aO c_) (pb (p_ap false k_ q_ x_ y_ l_) (fun r_ => p_sa false o_ (r_.1 :: h_) r_.2))
          rw [ap_f, ap_f]
          by_cases e_ : x_ = y_
          · rw [if_pos e_, if_pos e_]
            exact sa_ac o_ _ (k_ :: l_)
          · rw [if_neg e_, if_neg e_]
            rfl
      · rw [if_neg g1_, if_neg g1_]
        rfl
theorem ti_ac {t_ : Bool} {h_ l_ c_ : List Int} : p_ti false t_ h_ (l_ ++ c_) = ((p_ti false t_ h_ l_).1, (p_ti false t_ h_ l_).2 ++ c_) := by
  cases t_ <;> rfl
theorem B3_ac {b_ : Nat → Int} {n_ p_ : Nat} {c_ : List Int} {s_ : pO} : p_B3 b_ n_ false p_ (aO c_ s_) = pm (aS c_) (p_B3 b_ n_ false p_ s_) := by
  obtain ⟨o_, h_, l_⟩ := s_
  cases o_ with
  | nil => rfl
  | cons x_ o_ =>
    obtain ⟨k_, q_⟩ := x_
    by_cases k3_ : k_ = -3
    · subst k3_
      show p_B3 b_ n_ false p_ ((-3, q_) :: o_, h_, l_ ++ c_) = pm (aS c_) (p_B3 b_ n_ false p_ ((-3, q_) :: o_, h_, l_))
      rw [b3_q, b3_q, pm_b]
      rfl
    · show p_B3 b_ n_ false p_ ((k_, q_) :: o_, h_, l_ ++ c_) = pm (aS c_) (p_B3 b_ n_ false p_ ((k_, q_) :: o_, h_, l_))
      rw [b3_c k3_, b3_c k3_, pm_b, ti_ac]
      rfl
theorem B2_ac {b_ : Nat → Int} {n_ p_ : Nat} {c_ : List Int} {s_ : pO} : p_B2 b_ n_ false p_ (aO c_ s_) = pm (aS c_) (p_B2 b_ n_ false p_ s_) := by
  obtain ⟨o_, h_, l_⟩ := s_
  unfold p_B2
  by_cases k_ : lx_kd b_ n_ p_ = 63
  · rw [if_pos ⟨rfl, k_⟩, if_pos ⟨rfl, k_⟩]
    show pb (p_se false 1 o_ h_ (l_ ++ c_)) _ = pm (aS c_) (pb (p_se false 1 o_ h_ l_) _)
    rw [se_ac]
    cases p_se false 1 o_ h_ l_ with
    | inl e_ => rfl
    | inr s_ =>
      show (if o_mk s_.1 = 60 then (.inl (3, p_) : pE (pX ⊕ pR)) else _) = pm (aS c_) (if o_mk s_.1 = 60 then .inl (3, p_) else _)
      by_cases z1_ : o_mk s_.1 = 60
      · rw [if_pos z1_, if_pos z1_]; rfl
      · rw [if_neg z1_, if_neg z1_]
        show (if h_tp s_.2.1 ≠ 1 then (.inl (13, p_) : pE (pX ⊕ pR)) else _) = pm (aS c_) (if h_tp s_.2.1 ≠ 1 then .inl (13, p_) else _)
        by_cases z2_ : h_tp s_.2.1 ≠ 1
        · rw [if_pos z2_, if_pos z2_]; rfl
        · rw [if_neg z2_, if_neg z2_, pm_b]; rfl
  · rw [if_neg (fun z_ => k_ z_.2), if_neg (fun z_ => k_ z_.2)]
    show pb (p_sa false o_ h_ (l_ ++ c_)) _ = pm (aS c_) (pb (p_sa false o_ h_ l_) _)
    rw [sa_ac]
    cases p_sa false o_ h_ l_ with
    | inl e_ => rfl
    | inr s_ => exact B3_ac
theorem B1_ac {b_ : Nat → Int} {n_ p_ : Nat} {L_ : Int} {c_ : List Int} {s_ : pO} : p_B1 b_ n_ false p_ L_ (aO c_ s_) = pm (aS c_) (p_B1 b_ n_ false p_ L_ s_) := by
  unfold p_B1
  show (if 0 < L_ ∧ (L_ ≠ 4 ∨ o_tp s_.1 ≠ 4) then _ else _) = pm (aS c_) (if 0 < L_ ∧ (L_ ≠ 4 ∨ o_tp s_.1 ≠ 4) then _ else _)
  by_cases g_ : 0 < L_ ∧ (L_ ≠ 4 ∨ o_tp s_.1 ≠ 4)
  · rw [if_pos g_, if_pos g_, pm_b]; rfl
  · rw [if_neg g_, if_neg g_]; exact B2_ac
theorem st_ac {b_ : Nat → Int} {n_ : Nat} {pr_ : pPr} {c_ : List Int} {x_ : pX} : p_st b_ n_ false pr_ (aX c_ x_) = pm (aS c_) (p_st b_ n_ false pr_ x_) := by
  obtain ⟨ph_, t_, p_, o_, h_, l_⟩ := x_
  unfold p_st
  show (if ph_ = 0 then p_sA b_ n_ false pr_ t_ p_ o_ h_ (l_ ++ c_) else p_sB b_ n_ false p_ o_ h_ (l_ ++ c_)) = pm (aS c_) (if ph_ = 0 then p_sA b_ n_ false pr_ t_ p_ o_ h_ l_ else p_sB b_ n_ false p_ o_ h_ l_)
  by_cases z_ : ph_ = 0
  · rw [if_pos z_, if_pos z_]
    unfold p_sA
    by_cases k1_ : lx_kd b_ n_ p_ = 33
    · rw [if_pos k1_, if_pos k1_, pm_b]; rfl
    · rw [if_neg k1_, if_neg k1_]
      by_cases k2_ : lx_kd b_ n_ p_ = 40
      · rw [if_pos k2_, if_pos k2_]
        by_cases k3_ : o_mk o_ = 60
        · rw [if_pos k3_, if_pos k3_]; rfl
        · rw [if_neg k3_, if_neg k3_, pm_b]; rfl
      · rw [if_neg k2_, if_neg k2_, pm_b]
        cases pr_ p_ with
        | inl e_ => rfl
        | inr r_ =>
          show (.inr (.inl (1, false, r_.1, o_, (p_ti false t_ (r_.2.1 :: h_) (r_.2.2 ++ (l_ ++ c_))).1, (p_ti false t_ (r_.2.1 :: h_) (r_.2.2 ++ (l_ ++ c_))).2)) : pE (pX ⊕ pR)) = _
          rw [← List.append_assoc, ti_ac]
          rfl
  · rw [if_neg z_, if_neg z_]
    unfold p_sB
    by_cases k1_ : 0 < p_lv false (lx_kd b_ n_ p_)
    · rw [if_pos k1_, if_pos k1_, se_ac]
      cases p_se false (if p_lv false (lx_kd b_ n_ p_) = 4 then 5 else p_lv false (lx_kd b_ n_ p_)) o_ h_ l_ with
      | inl e_ => rfl
      | inr s_ => exact B1_ac
    · rw [if_neg k1_, if_neg k1_]
      exact B2_ac (s_ := (o_, h_, l_))
theorem xr_ac {b_ : Nat → Int} {n_ : Nat} {pr_ : pPr} {c_ : List Int} : ∀ (f_ : Nat) (x_ : pX), p_xr b_ n_ false pr_ f_ (aX c_ x_) = (p_xr b_ n_ false pr_ f_ x_).map (pm (aR c_))
  | 0, x_ => rfl
  | f_ + 1, x_ => by
    rw [p_xr, p_xr, st_ac]
    cases p_st b_ n_ false pr_ x_ with
    | inl e_ => rfl
    | inr z_ =>
      cases z_ with
      | inl y_ => exact xr_ac f_ y_
      | inr r_ => rfl
theorem ex_ac {b_ : Nat → Int} {n_ p_ : Nat} {pr_ : pPr} {c_ : List Int} {r_ : pR} (h_ : p_ex b_ n_ false pr_ c_ p_ = .inr r_) : ∃ k_, p_ex b_ n_ false pr_ [] p_ = .inr (r_.1, r_.2.1, k_) ∧ r_.2.2 = k_ ++ c_ := by
  unfold p_ex at h_ ⊢
  have q_ := xr_ac (b_ := b_) (n_ := n_) (pr_ := pr_) (c_ := c_) (n_ + 1) (0, false, p_, [], [], [])
  rw [show aX c_ (0, false, p_, [], [], []) = (0, false, p_, [], [], c_) from rfl] at q_
  rw [q_] at h_
  cases e_ : p_xr b_ n_ false pr_ (n_ + 1) (0, false, p_, [], [], []) with
  | none => rw [e_] at h_; cases h_
  | some y_ =>
    rw [e_] at h_
    cases y_ with
    | inl z_ => cases h_
    | inr s_ =>
      have h_ : (.inr (aR c_ s_) : pE pR) = .inr r_ := h_
      cases h_
      exact ⟨s_.2.2, rfl, rfl⟩
end
/-! 99.zd2a -/
section
/-! the reference: items, small steps; written by wip/p55/gen/vg -/

/-! items, second pass: small steps -/
/-- the_ beginning and the_ next values fit_ the_ registers made and the_ graph -/
def rnS (S_ : sm_S) : Prop := (0 ≤ S_.1 13 0 52 ∧ S_.1 13 0 52 < 2 ^ (S_.1 13 0 53).toNat) ∧ ∀ k_ : Nat, (k_ : Int) < S_.1 13 0 53 → 0 ≤ S_.2.2.1 151 0 k_ ∧ S_.2.2.1 151 0 k_ < 2 * S_.1 13 0 37
theorem rnS_up {S_ S'_ : sm_S} (h_ : rnS S_) (e1_ : S'_.1 13 0 52 = S_.1 13 0 52) (e2_ : S'_.1 13 0 53 = S_.1 13 0 53) (e3_ : S'_.2.2.1 151 0 = S_.2.2.1 151 0) (e4_ : S_.1 13 0 37 ≤ S'_.1 13 0 37) : rnS S'_ := by
  unfold rnS
  rw [e1_, e2_, e3_]
  refine ⟨h_.1, fun k_ hk_ => ?_⟩
  have := h_.2 k_ hk_
  omega
theorem rnS_fr {w_ : sx_Wl} {S_ S'_ : sm_S} (h_ : rnS S_) (g_ : ai_fr (sx_W w_) S_ S'_) (h1_ : (sx_W w_).1 13 52 = false) (h2_ : (sx_W w_).1 13 53 = false) (h3_ : (sx_W w_).1 13 37 = false) (h4_ : (sx_W w_).2.1 151 = false) : rnS S'_ := rnS_up h_ (g_.1 13 0 52 h1_) (g_.1 13 0 53 h2_) (fr_arr g_ h4_) (by rw [g_.1 13 0 37 h3_]; exact Int.le_refl _)
theorem rgl_n {F_ : Nat} {G_ : pGr} {S_ : sm_S} (h_ : rgl F_ G_ S_) (hl_ : G_.length ≤ 1001) : S_.1 13 0 37 = ((F_ + G_.length : Nat) : Int) := by
  obtain ⟨G1_, x_, y_⟩ := h_
  rcases y_ with y_ | y_
  · rw [← y_.2]; exact x_.2.2.1
  · omega
theorem ev_w {F_ I_ : Nat} {A_ : pA} {X_ : Nat → gQ → gE → Option (gQ × gE)} {m_ : Nat} {s_ r_ : gS} {c_ : List Int} (hX_ : lwX F_ I_ X_) (h_ : ev F_ I_ A_ X_ m_ s_ c_ = some r_) (hl_ : F_ + r_.1.1.length ≤ 1023) (hR_ : 1 + I_ + r_.1.2.1 ≤ F_) (hs_ : lwS F_ s_) : lwS F_ r_ := ec_w hX_ _ _ _ h_ hl_ hR_ hs_
theorem ev_R {F_ I_ : Nat} {A_ : pA} {X_ : Nat → gQ → gE → Option (gQ × gE)} {m_ : Nat} {s_ r_ : gS} {c_ : List Int} (hX_ : lwX F_ I_ X_) (h_ : ev F_ I_ A_ X_ m_ s_ c_ = some r_) : s_.1.2.1 ≤ r_.1.2.1 := ec_R hX_ _ _ _ h_
def nxs (b_ : Nat → Int) (n_ : Nat) (s_ : Int) : Nat → Nat → Nat → Prop
  | 0, p_, u_ => p_ = u_ ∧ lx_kd b_ n_ p_ = s_
  | f_ + 1, p_, u_ => lx_kd b_ n_ p_ ≠ s_ ∧ lx_kd b_ n_ p_ ≠ 0 ∧ ∃ q_, p_ad b_ n_ p_ = .inr q_ ∧ nxs b_ n_ s_ f_ q_ u_
theorem ad_r {b_ : Nat → Int} {n_ p_ q_ : Nat} (h_ : p_ad b_ n_ p_ = .inr q_) : q_ = lx_nx b_ n_ p_ ∧ lx_kd b_ n_ q_ ≠ -1 := by
  unfold p_ad at h_
  split at h_
  · cases h_
  · rename_i g_
    cases h_
    exact ⟨rfl, g_⟩
theorem rg_pp {b_ : Nat → Int} {n_ T_ p_ q_ : Nat} {S_ : sm_S} {x_ : Int} (ht_ : rtab b_ n_ T_ S_) (hg_ : rg b_ n_ T_ (.inr p_) S_) (hk_ : lx_kd b_ n_ p_ ≠ 0) (ha_ : p_ad b_ n_ p_ = .inr q_) (hx_ : x_ = S_.1 13 0 9 + 1) : rg b_ n_ T_ (.inr q_) (sm_pI S_ 13 0 9 x_) ∧ S_.1 13 0 9 + 1 ≤ (T_ : Int) := by
  obtain ⟨hf_, i_, h1_, h2_⟩ := hg_
  obtain ⟨a1_, a2_⟩ := ad_r ha_
  obtain ⟨r1_, r2_, r3_, r4_⟩ := rp_nx ht_ h2_ hk_
  rw [← a1_] at r4_
  refine ⟨⟨hf_, i_ + 1, ?_, r4_ a2_⟩, by omega⟩
  rw [rf_eq, hx_, h1_]
  push_cast
  rfl
/-! M_.behindSign -/
def vw_343 : sx_Wl := ([(13, 9)], [], [])
def vq_343 (s_ : Int) (b_ : Nat → Int) (n_ : Nat) (T_ : Nat) (p_ : Nat) (uu_ : Nat) (f_ : Nat) (q_ : Nat) (S0_ : sm_S) (u_ : Option sm_V) (S1_ : sm_S) : Prop := u_ = none ∧ gi S1_ ∧ ai_fr (sx_W vw_343) S0_ S1_ ∧ (rg b_ n_ T_ (.inr q_) S1_)
set_option maxHeartbeats 400000 in
theorem vl_343 {sc_ : Nat × (Nat → Int)} (s_ : Int) (b_ : Nat → Int) (n_ : Nat) (T_ : Nat) (p_ : Nat) (uu_ : Nat) (f_ : Nat) (q_ : Nat) (S0_ : sm_S) (ht_ : rtab b_ n_ T_ S0_) (hx_ : rg b_ n_ T_ (.inr p_) S0_) (hn_ : nxs b_ n_ s_ f_ p_ uu_) (hq_ : p_ad b_ n_ uu_ = .inr q_) (hs_ : 33 ≤ s_ ∧ s_ ≤ 300) : ∀ nn_ : Nat, (∀  (S_ : sm_S), gi S_ → ai_fr (sx_W vw_343) S0_ S_ → ((∃ p1_ f1_, rg b_ n_ T_ (.inr p1_) S_ ∧ nxs b_ n_ s_ f1_ p1_ uu_) ∧ True) → (((T_ : Int) - (S_.1 13 0 9)).toNat) < nn_ → sm_T (mt_P sc_) 1 343 (0, [some (.inr (.inr (some (13, 0)))), some (.inl s_)], [], S_) (fun ro9_ => ∃ u_ S1_, ro9_ = (.inl u_, S1_, 0) ∧ vq_343 s_ b_ n_ T_ p_ uu_ f_ q_ S0_ u_ S1_)) := by
  intro nn_
  induction nn_ with
  | zero => exact fun  _ _ _ _ h_ => absurd h_ (Nat.not_lt_zero _)
  | succ nn_ ih_ =>
    rintro  S_ hI_ hF_ ⟨h1_, -⟩ hm_
    obtain ⟨p1_, f1_, z1_, z2_⟩ := h1_
    have ht1_ := rtab_fr ht_ hF_ rfl rfl rfl rfl rfl
    have hT_ := ht_.2.1
    refine sm_T_go 2 (c1 := (2, [some (.inr (.inr (some (13, 0)))), some (.inl s_)], [.inl s_, .inr (.inr (some (13, 0)))], S_)) rfl ?_
    refine sm_T_cal (d1 := 0) (Q1 := vq_295 s_ b_ n_ T_ (.inr p1_) S_) rfl rfl (by decide) (vc_295 s_ b_ n_ T_ (.inr p1_) S_ hI_ (by exact ht1_) (by exact z1_) (by omega)) (fun u_ Sx1_ px4_ => ?_)
    obtain ⟨rfl, vx6_, rfl, px4_⟩ := px4_
    have e2_ := px4_.2 p1_ rfl
    have r2_ := px4_.1.1
    refine sm_T_b0 (a := 1) (z := 16) rfl (fun cx7_ => ?_) (fun cx7_ => ?_)
    · have cx7_ : vx6_ ≠ 0 := of_decide_eq_true cx7_
      have k1_ : lx_kd b_ n_ p1_ = s_ := e2_.mp (by omega)
      have pu_ : p1_ = uu_ := by cases f1_ with | zero => exact z2_.1 | succ f1_ => exact absurd k1_ z2_.1
      subst pu_
      have rp := rg_pp (x_ := S_.1 13 0 9 + 1) ht1_ z1_ (by omega) hq_ rfl
      have rp2_ := rp.2
      have bx8_ : 0 ≤ S_.1 13 0 9 ∧ S_.1 13 0 9 ≤ 1280 := hI_.1 13 0 9 rfl
      refine sm_T_go 4 (c1 := (27, [some (.inr (.inr (some (13, 0)))), some (.inl s_)], [.inl 1, .inl (S_.1 13 0 9), .inr (.inr (some (13, 0)))], S_)) rfl ?_
      refine sm_T_bin (w := (S_.1 13 0 9) + 1) rfl (bi_add (by omega) (by omega) (by omega)) ?_
      have hIx9_ : gi (sm_pI S_ 13 0 9 ((S_.1 13 0 9) + 1)) := gi_pI hI_ (show 0 ≤ (S_.1 13 0 9) + 1 ∧ (S_.1 13 0 9) + 1 ≤ 1280 from ⟨by omega, by omega⟩)
      have hFx10_ : ai_fr (sx_W vw_343) S0_ (sm_pI S_ 13 0 9 ((S_.1 13 0 9) + 1)) := ai_fr_tr hF_ (ai_fr_pI rfl)
      refine sm_T_go 1 (c1 := (31, [some (.inr (.inr (some (13, 0)))), some (.inl s_)], [], sm_pI S_ 13 0 9 ((S_.1 13 0 9) + 1))) rfl ?_
      refine sm_T_rv rfl ⟨_, _, rfl, rfl, hIx9_, hFx10_, ?_⟩
      exact rp.1
    · have cx7_ : ¬ (vx6_ ≠ 0) := of_decide_eq_false cx7_
      have k1_ : lx_kd b_ n_ p1_ ≠ s_ := fun z_ => by have := e2_.mpr z_; omega
      obtain ⟨f2_, q2_, k2_, k3_, k4_⟩ : ∃ f2_ q2_, lx_kd b_ n_ p1_ ≠ 0 ∧ p_ad b_ n_ p1_ = .inr q2_ ∧ nxs b_ n_ s_ f2_ q2_ uu_ := by cases f1_ with | zero => exact absurd z2_.2 k1_ | succ f1_ => (obtain ⟨w1_, w2_, q9_, w3_, w4_⟩ := z2_; exact ⟨f1_, q9_, w2_, w3_, w4_⟩)
      have rp := rg_pp (x_ := S_.1 13 0 9 + 1) ht1_ z1_ k2_ k3_ rfl
      have rp2_ := rp.2
      have bx11_ : 0 ≤ S_.1 13 0 9 ∧ S_.1 13 0 9 ≤ 1280 := hI_.1 13 0 9 rfl
      refine sm_T_go 4 (c1 := (14, [some (.inr (.inr (some (13, 0)))), some (.inl s_)], [.inl 1, .inl (S_.1 13 0 9), .inr (.inr (some (13, 0)))], S_)) rfl ?_
      refine sm_T_bin (w := (S_.1 13 0 9) + 1) rfl (bi_add (by omega) (by omega) (by omega)) ?_
      have hIx12_ : gi (sm_pI S_ 13 0 9 ((S_.1 13 0 9) + 1)) := gi_pI hI_ (show 0 ≤ (S_.1 13 0 9) + 1 ∧ (S_.1 13 0 9) + 1 ≤ 1280 from ⟨by omega, by omega⟩)
      have hFx13_ : ai_fr (sx_W vw_343) S0_ (sm_pI S_ 13 0 9 ((S_.1 13 0 9) + 1)) := ai_fr_tr hF_ (ai_fr_pI rfl)
      refine sm_T_go 2 (c1 := (0, [some (.inr (.inr (some (13, 0)))), some (.inl s_)], [], sm_pI S_ 13 0 9 ((S_.1 13 0 9) + 1))) rfl ?_
      refine ih_  (sm_pI S_ 13 0 9 ((S_.1 13 0 9) + 1)) hIx12_ hFx13_ ⟨?_, trivial⟩ ?_
      · exact ⟨q2_, f2_, rp.1, k4_⟩
      · (try simp only [rd_eq, rd_ne, rf_eq, rf_nk, rf_nt, rd_fa, rd_af, rd_fl, rd_al, rd_lf, rd_la, rd_leq, rd_lne, rd_fr, rd_ar, ne_eq, Nat.reduceEqDiff, not_false_eq_true]); omega
set_option maxHeartbeats 400000 in
theorem vc_343 {sc_ : Nat × (Nat → Int)} (s_ : Int) (b_ : Nat → Int) (n_ : Nat) (T_ : Nat) (p_ : Nat) (uu_ : Nat) (f_ : Nat) (q_ : Nat) (S0_ : sm_S) (hI_ : gi S0_) (ht_ : rtab b_ n_ T_ S0_) (hx_ : rg b_ n_ T_ (.inr p_) S0_) (hn_ : nxs b_ n_ s_ f_ p_ uu_) (hq_ : p_ad b_ n_ uu_ = .inr q_) (hs_ : 33 ≤ s_ ∧ s_ ≤ 300) : sm_T (mt_P sc_) 1 343 (0, [some (.inr (.inr (some (13, 0)))), some (.inl s_)], [], S0_) (fun ro9_ => ∃ u_ S1_, ro9_ = (.inl u_, S1_, 0) ∧ vq_343 s_ b_ n_ T_ p_ uu_ f_ q_ S0_ u_ S1_) := by
  have hF_ : ai_fr (sx_W vw_343) S0_ S0_ := ai_fr_rf
  refine (vl_343 s_ b_ n_ T_ p_ uu_ f_ q_ S0_ ht_ hx_ hn_ hq_ hs_ _)  S0_ hI_ hF_ ⟨?_, trivial⟩ (Nat.lt_succ_self _)
  · exact ⟨p_, f_, hx_, hn_⟩
end
/-! 99.zd2b -/
section
/-! M_.enter -/
def vw_341 : sx_Wl := ([(13, 9), (13, 28)], [146, 147, 148, 149], [])
def vq_341 (m_ : Int) (t_ : Int) (nm_ : Int) (fr_ : Nat) (S0_ : sm_S) (u_ : Option sm_V) (S1_ : sm_S) : Prop := u_ = none ∧ gi S1_ ∧ ai_fr (sx_W vw_341) S0_ S1_ ∧ ((∀ j_, S1_.2.2.1 146 0 j_ = if j_ = fr_ then m_ else S0_.2.2.1 146 0 j_) ∧ (∀ j_, S1_.2.2.1 147 0 j_ = if j_ = fr_ then t_ else S0_.2.2.1 147 0 j_) ∧ (∀ j_, S1_.2.2.1 148 0 j_ = if j_ = fr_ then nm_ else S0_.2.2.1 148 0 j_) ∧ (∀ j_, S1_.2.2.1 149 0 j_ = if j_ = fr_ then 0 else S0_.2.2.1 149 0 j_) ∧ (S1_.1 13 0 28) = m_ ∧ (S1_.1 13 0 9) = S0_.2.2.1 125 0 m_.toNat)
set_option maxHeartbeats 400000 in
theorem vc_341 {sc_ : Nat × (Nat → Int)} (m_ : Int) (t_ : Int) (nm_ : Int) (fr_ : Nat) (S0_ : sm_S) (hI_ : gi S0_) (hf_ : (S0_.1 13 0 29) = (fr_ : Int) ∧ fr_ ≤ 15) (hm1_ : 0 ≤ m_ ∧ m_ ≤ 15) (ht1_ : 0 ≤ t_ ∧ t_ ≤ 1280) (hn1_ : 0 ≤ nm_ ∧ nm_ ≤ 39) : sm_T (mt_P sc_) 0 341 (0, [some (.inr (.inr (some (13, 0)))), some (.inl m_), some (.inl t_), some (.inl nm_)], [], S0_) (fun ro9_ => ∃ u_ S1_, ro9_ = (.inl u_, S1_, 0) ∧ vq_341 m_ t_ nm_ fr_ S0_ u_ S1_) := by
  have hF_ : ai_fr (sx_W vw_341) S0_ S0_ := ai_fr_rf
  have bx1_ : 0 ≤ S0_.1 13 0 29 ∧ S0_.1 13 0 29 ≤ 16 := hI_.1 13 0 29 rfl
  refine sm_T_go 5 (c1 := (9, [some (.inr (.inr (some (13, 0)))), some (.inl m_), some (.inl t_), some (.inl nm_)], [.inl m_, .inl (S0_.1 13 0 29), .inr (.inr (some (146, 0)))], S0_)) rfl ?_
  refine sm_T_iast (n := 16) rfl rfl (by omega) (by omega) ?_
  have hIx2_ : gi (sm_aI S0_ 146 0 (S0_.1 13 0 29).toNat m_) := gi_aI hI_ (show 0 ≤ m_ ∧ m_ ≤ 15 from ⟨by omega, by omega⟩)
  have hFx3_ : ai_fr (sx_W vw_341) S0_ (sm_aI S0_ 146 0 (S0_.1 13 0 29).toNat m_) := ai_fr_tr hF_ (ai_fr_aI rfl)
  refine sm_T_go 5 (c1 := (19, [some (.inr (.inr (some (13, 0)))), some (.inl m_), some (.inl t_), some (.inl nm_)], [.inl t_, .inl (S0_.1 13 0 29), .inr (.inr (some (147, 0)))], sm_aI S0_ 146 0 (S0_.1 13 0 29).toNat m_)) rfl ?_
  refine sm_T_iast (n := 16) rfl rfl (by omega) (by omega) ?_
  have hIx4_ : gi (sm_aI (sm_aI S0_ 146 0 (S0_.1 13 0 29).toNat m_) 147 0 (S0_.1 13 0 29).toNat t_) := gi_aI hIx2_ (show 0 ≤ t_ ∧ t_ ≤ 1280 from ⟨by omega, by omega⟩)
  have hFx5_ : ai_fr (sx_W vw_341) S0_ (sm_aI (sm_aI S0_ 146 0 (S0_.1 13 0 29).toNat m_) 147 0 (S0_.1 13 0 29).toNat t_) := ai_fr_tr hFx3_ (ai_fr_aI rfl)
  refine sm_T_go 5 (c1 := (29, [some (.inr (.inr (some (13, 0)))), some (.inl m_), some (.inl t_), some (.inl nm_)], [.inl nm_, .inl (S0_.1 13 0 29), .inr (.inr (some (148, 0)))], sm_aI (sm_aI S0_ 146 0 (S0_.1 13 0 29).toNat m_) 147 0 (S0_.1 13 0 29).toNat t_)) rfl ?_
  refine sm_T_iast (n := 16) rfl rfl (by omega) (by omega) ?_
  have hIx6_ : gi (sm_aI (sm_aI (sm_aI S0_ 146 0 (S0_.1 13 0 29).toNat m_) 147 0 (S0_.1 13 0 29).toNat t_) 148 0 (S0_.1 13 0 29).toNat nm_) := gi_aI hIx4_ (show 0 ≤ nm_ ∧ nm_ ≤ 639 from ⟨by omega, by omega⟩)
  have hFx7_ : ai_fr (sx_W vw_341) S0_ (sm_aI (sm_aI (sm_aI S0_ 146 0 (S0_.1 13 0 29).toNat m_) 147 0 (S0_.1 13 0 29).toNat t_) 148 0 (S0_.1 13 0 29).toNat nm_) := ai_fr_tr hFx5_ (ai_fr_aI rfl)
  refine sm_T_go 5 (c1 := (39, [some (.inr (.inr (some (13, 0)))), some (.inl m_), some (.inl t_), some (.inl nm_)], [.inl 0, .inl (S0_.1 13 0 29), .inr (.inr (some (149, 0)))], sm_aI (sm_aI (sm_aI S0_ 146 0 (S0_.1 13 0 29).toNat m_) 147 0 (S0_.1 13 0 29).toNat t_) 148 0 (S0_.1 13 0 29).toNat nm_)) rfl ?_
  refine sm_T_iast (n := 16) rfl rfl (by omega) (by omega) ?_
  have hIx8_ : gi (sm_aI (sm_aI (sm_aI (sm_aI S0_ 146 0 (S0_.1 13 0 29).toNat m_) 147 0 (S0_.1 13 0 29).toNat t_) 148 0 (S0_.1 13 0 29).toNat nm_) 149 0 (S0_.1 13 0 29).toNat 0) := gi_aI hIx6_ (show 0 ≤ 0 ∧ 0 ≤ 40 from ⟨by omega, by omega⟩)
  have hFx9_ : ai_fr (sx_W vw_341) S0_ (sm_aI (sm_aI (sm_aI (sm_aI S0_ 146 0 (S0_.1 13 0 29).toNat m_) 147 0 (S0_.1 13 0 29).toNat t_) 148 0 (S0_.1 13 0 29).toNat nm_) 149 0 (S0_.1 13 0 29).toNat 0) := ai_fr_tr hFx7_ (ai_fr_aI rfl)
  have hIx10_ : gi (sm_pI (sm_aI (sm_aI (sm_aI (sm_aI S0_ 146 0 (S0_.1 13 0 29).toNat m_) 147 0 (S0_.1 13 0 29).toNat t_) 148 0 (S0_.1 13 0 29).toNat nm_) 149 0 (S0_.1 13 0 29).toNat 0) 13 0 28 m_) := gi_pI hIx8_ (show 0 ≤ m_ ∧ m_ ≤ 15 from ⟨by omega, by omega⟩)
  have hFx11_ : ai_fr (sx_W vw_341) S0_ (sm_pI (sm_aI (sm_aI (sm_aI (sm_aI S0_ 146 0 (S0_.1 13 0 29).toNat m_) 147 0 (S0_.1 13 0 29).toNat t_) 148 0 (S0_.1 13 0 29).toNat nm_) 149 0 (S0_.1 13 0 29).toNat 0) 13 0 28 m_) := ai_fr_tr hFx9_ (ai_fr_pI rfl)
  refine sm_T_go 7 (c1 := (51, [some (.inr (.inr (some (13, 0)))), some (.inl m_), some (.inl t_), some (.inl nm_)], [.inl m_, .inr (.inr (some (125, 0))), .inr (.inr (some (13, 0)))], sm_pI (sm_aI (sm_aI (sm_aI (sm_aI S0_ 146 0 (S0_.1 13 0 29).toNat m_) 147 0 (S0_.1 13 0 29).toNat t_) 148 0 (S0_.1 13 0 29).toNat nm_) 149 0 (S0_.1 13 0 29).toNat 0) 13 0 28 m_)) rfl ?_
  refine sm_T_iald (n := 16) rfl rfl (by omega) (by omega) ?_
  have bx12_ : 0 ≤ S0_.2.2.1 125 0 m_.toNat ∧ S0_.2.2.1 125 0 m_.toNat ≤ 1280 := hI_.2 125 0 _
  have hIx13_ : gi (sm_pI (sm_pI (sm_aI (sm_aI (sm_aI (sm_aI S0_ 146 0 (S0_.1 13 0 29).toNat m_) 147 0 (S0_.1 13 0 29).toNat t_) 148 0 (S0_.1 13 0 29).toNat nm_) 149 0 (S0_.1 13 0 29).toNat 0) 13 0 28 m_) 13 0 9 (S0_.2.2.1 125 0 m_.toNat)) := gi_pI hIx10_ (show 0 ≤ (S0_.2.2.1 125 0 m_.toNat) ∧ (S0_.2.2.1 125 0 m_.toNat) ≤ 1280 from ⟨by omega, by omega⟩)
  have hFx14_ : ai_fr (sx_W vw_341) S0_ (sm_pI (sm_pI (sm_aI (sm_aI (sm_aI (sm_aI S0_ 146 0 (S0_.1 13 0 29).toNat m_) 147 0 (S0_.1 13 0 29).toNat t_) 148 0 (S0_.1 13 0 29).toNat nm_) 149 0 (S0_.1 13 0 29).toNat 0) 13 0 28 m_) 13 0 9 (S0_.2.2.1 125 0 m_.toNat)) := ai_fr_tr hFx11_ (ai_fr_pI rfl)
  refine sm_T_go 1 (c1 := (55, [some (.inr (.inr (some (13, 0)))), some (.inl m_), some (.inl t_), some (.inl nm_)], [], sm_pI (sm_pI (sm_aI (sm_aI (sm_aI (sm_aI S0_ 146 0 (S0_.1 13 0 29).toNat m_) 147 0 (S0_.1 13 0 29).toNat t_) 148 0 (S0_.1 13 0 29).toNat nm_) 149 0 (S0_.1 13 0 29).toNat 0) 13 0 28 m_) 13 0 9 (S0_.2.2.1 125 0 m_.toNat))) rfl ?_
  refine sm_T_rv rfl ⟨_, _, rfl, rfl, hIx13_, hFx14_, ?_⟩
  have e9_ : (S0_.1 13 0 29).toNat = fr_ := by omega
  refine ⟨fun j_ => ?_, fun j_ => ?_, fun j_ => ?_, fun j_ => ?_, ?_, ?_⟩
  · (try simp only [rd_eq, rd_ne, rf_eq, rf_nk, rf_nt, rd_fa, rd_af, rd_fl, rd_al, rd_lf, rd_la, rd_leq, rd_lne, rd_fr, rd_ar, ne_eq, Nat.reduceEqDiff, not_false_eq_true]); rw [e9_]
  · (try simp only [rd_eq, rd_ne, rf_eq, rf_nk, rf_nt, rd_fa, rd_af, rd_fl, rd_al, rd_lf, rd_la, rd_leq, rd_lne, rd_fr, rd_ar, ne_eq, Nat.reduceEqDiff, not_false_eq_true]); rw [e9_]
  · (try simp only [rd_eq, rd_ne, rf_eq, rf_nk, rf_nt, rd_fa, rd_af, rd_fl, rd_al, rd_lf, rd_la, rd_leq, rd_lne, rd_fr, rd_ar, ne_eq, Nat.reduceEqDiff, not_false_eq_true]); rw [e9_]
  · (try simp only [rd_eq, rd_ne, rf_eq, rf_nk, rf_nt, rd_fa, rd_af, rd_fl, rd_al, rd_lf, rd_la, rd_leq, rd_lne, rd_fr, rd_ar, ne_eq, Nat.reduceEqDiff, not_false_eq_true]); rw [e9_]
  · (try simp only [rd_eq, rd_ne, rf_eq, rf_nk, rf_nt, rd_fa, rd_af, rd_fl, rd_al, rd_lf, rd_la, rd_leq, rd_lne, rd_fr, rd_ar, ne_eq, Nat.reduceEqDiff, not_false_eq_true])
  · (try simp only [rd_eq, rd_ne, rf_eq, rf_nk, rf_nt, rd_fa, rd_af, rd_fl, rd_al, rd_lf, rd_la, rd_leq, rd_lne, rd_fr, rd_ar, ne_eq, Nat.reduceEqDiff, not_false_eq_true])
end
/-! 99.zd2c -/
section
/-! M_.keepValue -/
def vw_342 : sx_Wl := ([], [144], [])
def vq_342 (nm_ : Int) (fr_ : Nat) (S0_ : sm_S) (u_ : Option sm_V) (S1_ : sm_S) : Prop := u_ = none ∧ gi S1_ ∧ ai_fr (sx_W vw_342) S0_ S1_ ∧ ((∀ j_, j_ < 8 → S1_.2.2.1 144 0 (8 * (40 * fr_ + nm_.toNat) + j_) = S0_.2.2.1 139 0 j_) ∧ ∀ j_, j_ < 8 * (40 * fr_ + nm_.toNat) ∨ 8 * (40 * fr_ + nm_.toNat) + 8 ≤ j_ → S1_.2.2.1 144 0 j_ = S0_.2.2.1 144 0 j_)
set_option maxHeartbeats 400000 in
theorem vl_342 {sc_ : Nat × (Nat → Int)} (nm_ : Int) (fr_ : Nat) (S0_ : sm_S) (hf_ : (S0_.1 13 0 29) = (fr_ : Int) ∧ fr_ ≤ 15) (hn1_ : 0 ≤ nm_ ∧ nm_ ≤ 39) : ∀ nn_ : Nat, (∀ (k_ : Int) (S_ : sm_S), gi S_ → ai_fr (sx_W vw_342) S0_ S_ → ((0 ≤ k_ ∧ k_ ≤ 8) ∧ (∀ j_, j_ < k_.toNat → S_.2.2.1 144 0 (8 * (40 * fr_ + nm_.toNat) + j_) = S0_.2.2.1 139 0 j_) ∧ (∀ j_, j_ < 8 * (40 * fr_ + nm_.toNat) ∨ 8 * (40 * fr_ + nm_.toNat) + 8 ≤ j_ → S_.2.2.1 144 0 j_ = S0_.2.2.1 144 0 j_) ∧ True) → ((8 - k_).toNat) < nn_ → sm_T (mt_P sc_) 0 342 (2, [some (.inr (.inr (some (13, 0)))), some (.inl nm_), some (.inl k_)], [], S_) (fun ro9_ => ∃ u_ S1_, ro9_ = (.inl u_, S1_, 0) ∧ vq_342 nm_ fr_ S0_ u_ S1_)) := by
  intro nn_
  induction nn_ with
  | zero => exact fun _ _ _ _ _ h_ => absurd h_ (Nat.not_lt_zero _)
  | succ nn_ ih_ =>
    rintro k_ S_ hI_ hF_ ⟨h0_, h1_, h2_, -⟩ hm_
    have f1_ : S_.1 13 0 29 = (fr_ : Int) := (hF_.1 13 0 29 rfl).trans hf_.1
    have l1_ := fr_arr (t := 139) (i := 0) hF_ rfl
    refine sm_T_go 2 (c1 := (5, [some (.inr (.inr (some (13, 0)))), some (.inl nm_), some (.inl k_)], [.inl 8, .inl k_], S_)) rfl ?_
    refine sm_T_br (a := 3) (z := 34) rfl (fun cx1_ => ?_) (fun cx1_ => ?_)
    · have cx1_ : 8 ≤ k_ := of_decide_eq_true cx1_
      refine sm_T_rv rfl ⟨_, _, rfl, rfl, hI_, hF_, ?_⟩
      exact ⟨fun j_ hj_ => h1_ j_ (by omega), h2_⟩
    · have cx1_ : ¬ (8 ≤ k_) := of_decide_eq_false cx1_
      have bx2_ : 0 ≤ S_.1 13 0 29 ∧ S_.1 13 0 29 ≤ 16 := hI_.1 13 0 29 rfl
      refine sm_T_go 6 (c1 := (20, [some (.inr (.inr (some (13, 0)))), some (.inl nm_), some (.inl k_)], [.inl (S_.1 13 0 29), .inl 40, .inl 8, .inr (.inr (some (144, 0)))], S_)) rfl ?_
      refine sm_T_bin (w := 40 * (S_.1 13 0 29)) rfl (bi_mul (by omega) (by omega) (by omega)) ?_
      refine sm_T_go 1 (c1 := (22, [some (.inr (.inr (some (13, 0)))), some (.inl nm_), some (.inl k_)], [.inl nm_, .inl (40 * (S_.1 13 0 29)), .inl 8, .inr (.inr (some (144, 0)))], S_)) rfl ?_
      refine sm_T_bin (w := 40 * (S_.1 13 0 29) + nm_) rfl (bi_add (by omega) (by omega) (by omega)) ?_
      refine sm_T_bin (w := 320 * (S_.1 13 0 29) + 8 * nm_) rfl (bi_mul (by omega) (by omega) (by omega)) ?_
      refine sm_T_go 1 (c1 := (25, [some (.inr (.inr (some (13, 0)))), some (.inl nm_), some (.inl k_)], [.inl k_, .inl (320 * (S_.1 13 0 29) + 8 * nm_), .inr (.inr (some (144, 0)))], S_)) rfl ?_
      refine sm_T_bin (w := 320 * (S_.1 13 0 29) + 8 * nm_ + k_) rfl (bi_add (by omega) (by omega) (by omega)) ?_
      refine sm_T_go 3 (c1 := (31, [some (.inr (.inr (some (13, 0)))), some (.inl nm_), some (.inl k_)], [.inl k_, .inr (.inr (some (139, 0))), .inl (320 * (S_.1 13 0 29) + 8 * nm_ + k_), .inr (.inr (some (144, 0)))], S_)) rfl ?_
      refine sm_T_iald (n := 8192) rfl rfl (by omega) (by omega) ?_
      have bx3_ : 0 ≤ S_.2.2.1 139 0 k_.toNat ∧ S_.2.2.1 139 0 k_.toNat ≤ 2047 := hI_.2 139 0 _
      refine sm_T_iast (n := 5120) rfl rfl (by omega) (by omega) ?_
      have hIx4_ : gi (sm_aI S_ 144 0 (320 * (S_.1 13 0 29) + 8 * nm_ + k_).toNat (S_.2.2.1 139 0 k_.toNat)) := gi_aI hI_ (show 0 ≤ (S_.2.2.1 139 0 k_.toNat) ∧ (S_.2.2.1 139 0 k_.toNat) ≤ 2047 from ⟨by omega, by omega⟩)
      have hFx5_ : ai_fr (sx_W vw_342) S0_ (sm_aI S_ 144 0 (320 * (S_.1 13 0 29) + 8 * nm_ + k_).toNat (S_.2.2.1 139 0 k_.toNat)) := ai_fr_tr hF_ (ai_fr_aI rfl)
      refine sm_T_inc (a := 2) (z := 1) (v := k_) (w := k_ + 1) rfl rfl (by omega) (by omega) (by omega) ?_
      refine sm_T_go 1 (c1 := (2, [some (.inr (.inr (some (13, 0)))), some (.inl nm_), some (.inl (k_ + 1))], [], sm_aI S_ 144 0 (320 * (S_.1 13 0 29) + 8 * nm_ + k_).toNat (S_.2.2.1 139 0 k_.toNat))) rfl ?_
      refine ih_ (k_ + 1) (sm_aI S_ 144 0 (320 * (S_.1 13 0 29) + 8 * nm_ + k_).toNat (S_.2.2.1 139 0 k_.toNat)) hIx4_ hFx5_ ⟨?_, ?_, ?_, trivial⟩ ?_
      · omega
      · intro j_ hj_
        by_cases z_ : j_ < k_.toNat
        · rw [rd_eq, if_neg (by omega)]; exact h1_ j_ z_
        · have zj_ : j_ = k_.toNat := by omega
          rw [rd_eq, if_pos (by omega), zj_, l1_]
      · (intro j_ hj_; rw [rd_eq, if_neg (by omega)]; exact h2_ j_ hj_)
      · omega
set_option maxHeartbeats 400000 in
theorem vc_342 {sc_ : Nat × (Nat → Int)} (nm_ : Int) (fr_ : Nat) (S0_ : sm_S) (hI_ : gi S0_) (hf_ : (S0_.1 13 0 29) = (fr_ : Int) ∧ fr_ ≤ 15) (hn1_ : 0 ≤ nm_ ∧ nm_ ≤ 39) : sm_T (mt_P sc_) 0 342 (0, [some (.inr (.inr (some (13, 0)))), some (.inl nm_), none], [], S0_) (fun ro9_ => ∃ u_ S1_, ro9_ = (.inl u_, S1_, 0) ∧ vq_342 nm_ fr_ S0_ u_ S1_) := by
  have hF_ : ai_fr (sx_W vw_342) S0_ S0_ := ai_fr_rf
  refine sm_T_go 2 (c1 := (2, [some (.inr (.inr (some (13, 0)))), some (.inl nm_), some (.inl 0)], [], S0_)) rfl ?_
  refine (vl_342 nm_ fr_ S0_ hf_ hn1_ _) 0 S0_ hI_ hF_ ⟨?_, ?_, ?_, trivial⟩ (Nat.lt_succ_self _)
  · omega
  · (intro j_ hj_; exact absurd hj_ (Nat.not_lt_zero _))
  · (intro j_ hj_; rfl)
end
/-! 99.zd2d -/
section
/-! M_.makeRegister -/
end
/-! 99.zd2e -/
section
/-! M_.leave -/
def vw_346 : sx_Wl := ([(13, 9), (13, 28), (13, 29)], [145], [])
def vq_346 (fr_ : Nat) (M_ : Nat) (s_ : Nat) (cnt_ : Nat) (S0_ : sm_S) (u_ : Option sm_V) (S1_ : sm_S) : Prop := u_ = none ∧ gi S1_ ∧ ai_fr (sx_W vw_346) S0_ S1_ ∧ ((S1_.1 13 0 29) = (fr_ : Int) ∧ (∀ o1_ k1_ : Nat, o1_ < cnt_ → k1_ < 8 → S1_.2.2.1 145 0 (8 * (40 * (40 * fr_ + s_) + o1_) + k1_) = S0_.2.2.1 144 0 (8 * (40 * (fr_ + 1) + o1_) + k1_)) ∧ (∀ j_, j_ < 8 * (40 * (40 * fr_ + s_)) ∨ 8 * (40 * (40 * fr_ + s_)) + 320 ≤ j_ → S1_.2.2.1 145 0 j_ = S0_.2.2.1 145 0 j_) ∧ (S1_.1 13 0 9) = S0_.2.2.1 147 0 (fr_ + 1) ∧ (S1_.1 13 0 28) = S0_.2.2.1 146 0 fr_)
set_option maxHeartbeats 1500000 in
theorem vl_346 {sc_ : Nat × (Nat → Int)} (fr_ : Nat) (M_ : Nat) (s_ : Nat) (cnt_ : Nat) (S0_ : sm_S) (hf_ : (S0_.1 13 0 29) = (fr_ : Int) + 1 ∧ fr_ ≤ 14) (hmd_ : (S0_.1 13 0 28) = (M_ : Int) ∧ M_ ≤ 15) (hn1_ : S0_.2.2.1 148 0 (fr_ + 1) = (s_ : Int) ∧ s_ ≤ 39) (hc_ : S0_.2.2.1 126 0 M_ = (cnt_ : Int) ∧ cnt_ ≤ 40) : ∀ nn_ : Nat, (∀ (inr : Int) (mo_ : Int) (nm_ : Int) (o_ : Int) (S_ : sm_S), gi S_ → ai_fr (sx_W vw_346) S0_ S_ → ((0 ≤ o_ ∧ o_ ≤ (cnt_ : Int) ∧ inr = (fr_ : Int) + 1 ∧ mo_ = (M_ : Int) ∧ nm_ = (s_ : Int)) ∧ ((S_.1 13 0 29) = (fr_ : Int)) ∧ (∀ o1_ k1_ : Nat, o1_ < o_.toNat → k1_ < 8 → S_.2.2.1 145 0 (8 * (40 * (40 * fr_ + s_) + o1_) + k1_) = S0_.2.2.1 144 0 (8 * (40 * (fr_ + 1) + o1_) + k1_)) ∧ (∀ j_, j_ < 8 * (40 * (40 * fr_ + s_)) ∨ 8 * (40 * (40 * fr_ + s_)) + 320 ≤ j_ → S_.2.2.1 145 0 j_ = S0_.2.2.1 145 0 j_) ∧ True) → ((20 * (50 - o_) + 10).toNat) < nn_ → sm_T (mt_P sc_) 0 346 (30, [some (.inr (.inr (some (13, 0)))), some (.inl inr), some (.inl mo_), some (.inl nm_), some (.inl o_), none], [], S_) (fun ro9_ => ∃ u_ S1_, ro9_ = (.inl u_, S1_, 0) ∧ vq_346 fr_ M_ s_ cnt_ S0_ u_ S1_)) ∧ (∀ (inr : Int) (mo_ : Int) (nm_ : Int) (o_ : Int) (k_ : Int) (S_ : sm_S), gi S_ → ai_fr (sx_W vw_346) S0_ S_ → ((0 ≤ o_ ∧ o_ < (cnt_ : Int) ∧ inr = (fr_ : Int) + 1 ∧ mo_ = (M_ : Int) ∧ nm_ = (s_ : Int) ∧ 0 ≤ k_ ∧ k_ ≤ 8) ∧ ((S_.1 13 0 29) = (fr_ : Int)) ∧ (∀ o1_ k1_ : Nat, o1_ < o_.toNat → k1_ < 8 → S_.2.2.1 145 0 (8 * (40 * (40 * fr_ + s_) + o1_) + k1_) = S0_.2.2.1 144 0 (8 * (40 * (fr_ + 1) + o1_) + k1_)) ∧ (∀ j_ : Nat, j_ < k_.toNat → S_.2.2.1 145 0 (8 * (40 * (40 * fr_ + s_) + o_.toNat) + j_) = S0_.2.2.1 144 0 (8 * (40 * (fr_ + 1) + o_.toNat) + j_)) ∧ (∀ j_, j_ < 8 * (40 * (40 * fr_ + s_)) ∨ 8 * (40 * (40 * fr_ + s_)) + 320 ≤ j_ → S_.2.2.1 145 0 j_ = S0_.2.2.1 145 0 j_) ∧ True) → ((20 * (50 - o_) + 9 - k_).toNat) < nn_ → sm_T (mt_P sc_) 0 346 (44, [some (.inr (.inr (some (13, 0)))), some (.inl inr), some (.inl mo_), some (.inl nm_), some (.inl o_), some (.inl k_)], [], S_) (fun ro9_ => ∃ u_ S1_, ro9_ = (.inl u_, S1_, 0) ∧ vq_346 fr_ M_ s_ cnt_ S0_ u_ S1_)) := by
  intro nn_
  induction nn_ with
  | zero => exact ⟨fun _ _ _ _ _ _ _ _ h_ => absurd h_ (Nat.not_lt_zero _), fun _ _ _ _ _ _ _ _ _ h_ => absurd h_ (Nat.not_lt_zero _)⟩
  | succ nn_ ih_ =>
    refine ⟨?_, ?_⟩
    · rintro inr mo_ nm_ o_ S_ hI_ hF_ ⟨h0_, h4_, h1_, h2_, -⟩ hm_
      have f1_ : S_.1 13 0 29 = (fr_ : Int) := h4_
      have c1_ : S_.2.2.1 126 0 mo_.toNat = (cnt_ : Int) := by rw [fr_arr (t := 126) (i := 0) hF_ rfl, show mo_.toNat = M_ by omega]; exact hc_.1
      have v44_ := fr_arr (t := 144) (i := 0) hF_ rfl
      have cb_ := hc_.2
      refine sm_T_go 4 (c1 := (37, [some (.inr (.inr (some (13, 0)))), some (.inl inr), some (.inl mo_), some (.inl nm_), some (.inl o_), none], [.inl mo_, .inr (.inr (some (126, 0))), .inl o_], S_)) rfl ?_
      refine sm_T_iald (n := 16) rfl rfl (by omega) (by omega) ?_
      have bx1_ : 0 ≤ S_.2.2.1 126 0 mo_.toNat ∧ S_.2.2.1 126 0 mo_.toNat ≤ 40 := hI_.2 126 0 _
      refine sm_T_br (a := 3) (z := 69) rfl (fun cx2_ => ?_) (fun cx2_ => ?_)
      · have cx2_ : (S_.2.2.1 126 0 mo_.toNat) ≤ o_ := of_decide_eq_true cx2_
        refine sm_T_go 4 (c1 := (113, [some (.inr (.inr (some (13, 0)))), some (.inl inr), some (.inl mo_), some (.inl nm_), some (.inl o_), none], [.inl inr, .inr (.inr (some (147, 0))), .inr (.inr (some (13, 0)))], S_)) rfl ?_
        refine sm_T_iald (n := 16) rfl rfl (by omega) (by omega) ?_
        have bx3_ : 0 ≤ S_.2.2.1 147 0 inr.toNat ∧ S_.2.2.1 147 0 inr.toNat ≤ 1280 := hI_.2 147 0 _
        have hIx4_ : gi (sm_pI S_ 13 0 9 (S_.2.2.1 147 0 inr.toNat)) := gi_pI hI_ (show 0 ≤ (S_.2.2.1 147 0 inr.toNat) ∧ (S_.2.2.1 147 0 inr.toNat) ≤ 1280 from ⟨by omega, by omega⟩)
        have hFx5_ : ai_fr (sx_W vw_346) S0_ (sm_pI S_ 13 0 9 (S_.2.2.1 147 0 inr.toNat)) := ai_fr_tr hF_ (ai_fr_pI rfl)
        have bx6_ : 0 ≤ S_.1 13 0 29 ∧ S_.1 13 0 29 ≤ 16 := hI_.1 13 0 29 rfl
        refine sm_T_go 6 (c1 := (126, [some (.inr (.inr (some (13, 0)))), some (.inl inr), some (.inl mo_), some (.inl nm_), some (.inl o_), none], [.inl (S_.1 13 0 29), .inr (.inr (some (146, 0))), .inr (.inr (some (13, 0)))], sm_pI S_ 13 0 9 (S_.2.2.1 147 0 inr.toNat))) rfl ?_
        refine sm_T_iald (n := 16) rfl rfl (by omega) (by omega) ?_
        have bx7_ : 0 ≤ S_.2.2.1 146 0 (S_.1 13 0 29).toNat ∧ S_.2.2.1 146 0 (S_.1 13 0 29).toNat ≤ 15 := hI_.2 146 0 _
        have hIx8_ : gi (sm_pI (sm_pI S_ 13 0 9 (S_.2.2.1 147 0 inr.toNat)) 13 0 28 (S_.2.2.1 146 0 (S_.1 13 0 29).toNat)) := gi_pI hIx4_ (show 0 ≤ (S_.2.2.1 146 0 (S_.1 13 0 29).toNat) ∧ (S_.2.2.1 146 0 (S_.1 13 0 29).toNat) ≤ 15 from ⟨by omega, by omega⟩)
        have hFx9_ : ai_fr (sx_W vw_346) S0_ (sm_pI (sm_pI S_ 13 0 9 (S_.2.2.1 147 0 inr.toNat)) 13 0 28 (S_.2.2.1 146 0 (S_.1 13 0 29).toNat)) := ai_fr_tr hFx5_ (ai_fr_pI rfl)
        refine sm_T_go 1 (c1 := (130, [some (.inr (.inr (some (13, 0)))), some (.inl inr), some (.inl mo_), some (.inl nm_), some (.inl o_), none], [], sm_pI (sm_pI S_ 13 0 9 (S_.2.2.1 147 0 inr.toNat)) 13 0 28 (S_.2.2.1 146 0 (S_.1 13 0 29).toNat))) rfl ?_
        refine sm_T_rv rfl ⟨_, _, rfl, rfl, hIx8_, hFx9_, ?_⟩
        have e1_ : inr.toNat = fr_ + 1 := by omega
        have e2_ : (S_.1 13 0 29).toNat = fr_ := by omega
        have t47_ := fr_arr (t := 147) (i := 0) hF_ rfl
        have t46_ := fr_arr (t := 146) (i := 0) hF_ rfl
        refine ⟨h4_, fun o9_ k9_ ho_ hk_ => h1_ o9_ k9_ (by omega) hk_, h2_, ?_, ?_⟩
        · (try simp only [rd_eq, rd_ne, rf_eq, rf_nk, rf_nt, rd_fa, rd_af, rd_fl, rd_al, rd_lf, rd_la, rd_leq, rd_lne, rd_fr, rd_ar, ne_eq, Nat.reduceEqDiff, not_false_eq_true]); rw [e1_, t47_]
        · (try simp only [rd_eq, rd_ne, rf_eq, rf_nk, rf_nt, rd_fa, rd_af, rd_fl, rd_al, rd_lf, rd_la, rd_leq, rd_lne, rd_fr, rd_ar, ne_eq, Nat.reduceEqDiff, not_false_eq_true]); rw [e2_, t46_]
      · have cx2_ : ¬ ((S_.2.2.1 126 0 mo_.toNat) ≤ o_) := of_decide_eq_false cx2_
        refine sm_T_go 2 (c1 := (44, [some (.inr (.inr (some (13, 0)))), some (.inl inr), some (.inl mo_), some (.inl nm_), some (.inl o_), some (.inl 0)], [], S_)) rfl ?_
        refine ih_.2 inr mo_ nm_ o_ 0 S_ hI_ hF_ ⟨?_, ?_, ?_, ?_, ?_, trivial⟩ ?_
        · omega
        · exact h4_
        · exact h1_
        · (intro j_ hj_; exact absurd hj_ (Nat.not_lt_zero _))
        · exact h2_
        · omega
    · rintro inr mo_ nm_ o_ k_ S_ hI_ hF_ ⟨h0_, h4_, h1_, h3_, h2_, -⟩ hm_
      have f1_ : S_.1 13 0 29 = (fr_ : Int) := h4_
      have c1_ : S_.2.2.1 126 0 mo_.toNat = (cnt_ : Int) := by rw [fr_arr (t := 126) (i := 0) hF_ rfl, show mo_.toNat = M_ by omega]; exact hc_.1
      have v44_ := fr_arr (t := 144) (i := 0) hF_ rfl
      have cb_ := hc_.2
      refine sm_T_go 2 (c1 := (48, [some (.inr (.inr (some (13, 0)))), some (.inl inr), some (.inl mo_), some (.inl nm_), some (.inl o_), some (.inl k_)], [.inl 8, .inl k_], S_)) rfl ?_
      refine sm_T_br (a := 3) (z := 53) rfl (fun cx1_ => ?_) (fun cx1_ => ?_)
      · have cx1_ : 8 ≤ k_ := of_decide_eq_true cx1_
        refine sm_T_inc (a := 4) (z := 1) (v := o_) (w := o_ + 1) rfl rfl (by omega) (by omega) (by omega) ?_
        refine sm_T_go 1 (c1 := (30, [some (.inr (.inr (some (13, 0)))), some (.inl inr), some (.inl mo_), some (.inl nm_), some (.inl (o_ + 1)), some (.inl k_)], [], S_)) rfl ?_
        refine sm_T_wk [some (.inr (.inr (some (13, 0)))), some (.inl inr), some (.inl mo_), some (.inl nm_), some (.inl (o_ + 1)), none] (by exact ⟨rfl, rfl, rfl, rfl, rfl, trivial⟩) ?_
        refine ih_.1 inr mo_ nm_ (o_ + 1) S_ hI_ hF_ ⟨?_, ?_, ?_, ?_, trivial⟩ ?_
        · omega
        · exact h4_
        · intro o9_ k9_ ho_ hk_
          by_cases z_ : o9_ < o_.toNat
          · exact h1_ o9_ k9_ z_ hk_
          · have zo_ : o9_ = o_.toNat := by omega
            rw [zo_]
            exact h3_ k9_ (by omega)
        · exact h2_
        · omega
      · have cx1_ : ¬ (8 ≤ k_) := of_decide_eq_false cx1_
        have bx2_ : 0 ≤ S_.1 13 0 29 ∧ S_.1 13 0 29 ≤ 16 := hI_.1 13 0 29 rfl
        refine sm_T_go 7 (c1 := (65, [some (.inr (.inr (some (13, 0)))), some (.inl inr), some (.inl mo_), some (.inl nm_), some (.inl o_), some (.inl k_)], [.inl (S_.1 13 0 29), .inl 40, .inl 40, .inl 8, .inr (.inr (some (145, 0)))], S_)) rfl ?_
        refine sm_T_bin (w := 40 * (S_.1 13 0 29)) rfl (bi_mul (by omega) (by omega) (by omega)) ?_
        refine sm_T_go 1 (c1 := (67, [some (.inr (.inr (some (13, 0)))), some (.inl inr), some (.inl mo_), some (.inl nm_), some (.inl o_), some (.inl k_)], [.inl nm_, .inl (40 * (S_.1 13 0 29)), .inl 40, .inl 8, .inr (.inr (some (145, 0)))], S_)) rfl ?_
        refine sm_T_bin (w := 40 * (S_.1 13 0 29) + nm_) rfl (bi_add (by omega) (by omega) (by omega)) ?_
        refine sm_T_bin (w := 1600 * (S_.1 13 0 29) + 40 * nm_) rfl (bi_mul (by omega) (by omega) (by omega)) ?_
        refine sm_T_go 1 (c1 := (71, [some (.inr (.inr (some (13, 0)))), some (.inl inr), some (.inl mo_), some (.inl nm_), some (.inl o_), some (.inl k_)], [.inl o_, .inl (1600 * (S_.1 13 0 29) + 40 * nm_), .inl 8, .inr (.inr (some (145, 0)))], S_)) rfl ?_
        refine sm_T_bin (w := 1600 * (S_.1 13 0 29) + 40 * nm_ + o_) rfl (bi_add (by omega) (by omega) (by omega)) ?_
        refine sm_T_bin (w := 12800 * (S_.1 13 0 29) + 320 * nm_ + 8 * o_) rfl (bi_mul (by omega) (by omega) (by omega)) ?_
        refine sm_T_go 1 (c1 := (75, [some (.inr (.inr (some (13, 0)))), some (.inl inr), some (.inl mo_), some (.inl nm_), some (.inl o_), some (.inl k_)], [.inl k_, .inl (12800 * (S_.1 13 0 29) + 320 * nm_ + 8 * o_), .inr (.inr (some (145, 0)))], S_)) rfl ?_
        refine sm_T_bin (w := 12800 * (S_.1 13 0 29) + 320 * nm_ + 8 * o_ + k_) rfl (bi_add (by omega) (by omega) (by omega)) ?_
        refine sm_T_go 5 (c1 := (85, [some (.inr (.inr (some (13, 0)))), some (.inl inr), some (.inl mo_), some (.inl nm_), some (.inl o_), some (.inl k_)], [.inl inr, .inl 40, .inl 8, .inr (.inr (some (144, 0))), .inl (12800 * (S_.1 13 0 29) + 320 * nm_ + 8 * o_ + k_), .inr (.inr (some (145, 0)))], S_)) rfl ?_
        refine sm_T_bin (w := 40 * inr) rfl (bi_mul (by omega) (by omega) (by omega)) ?_
        refine sm_T_go 1 (c1 := (88, [some (.inr (.inr (some (13, 0)))), some (.inl inr), some (.inl mo_), some (.inl nm_), some (.inl o_), some (.inl k_)], [.inl o_, .inl (40 * inr), .inl 8, .inr (.inr (some (144, 0))), .inl (12800 * (S_.1 13 0 29) + 320 * nm_ + 8 * o_ + k_), .inr (.inr (some (145, 0)))], S_)) rfl ?_
        refine sm_T_bin (w := 40 * inr + o_) rfl (bi_add (by omega) (by omega) (by omega)) ?_
        refine sm_T_bin (w := 320 * inr + 8 * o_) rfl (bi_mul (by omega) (by omega) (by omega)) ?_
        refine sm_T_go 1 (c1 := (92, [some (.inr (.inr (some (13, 0)))), some (.inl inr), some (.inl mo_), some (.inl nm_), some (.inl o_), some (.inl k_)], [.inl k_, .inl (320 * inr + 8 * o_), .inr (.inr (some (144, 0))), .inl (12800 * (S_.1 13 0 29) + 320 * nm_ + 8 * o_ + k_), .inr (.inr (some (145, 0)))], S_)) rfl ?_
        refine sm_T_bin (w := 320 * inr + 8 * o_ + k_) rfl (bi_add (by omega) (by omega) (by omega)) ?_
        refine sm_T_iald (n := 5120) rfl rfl (by omega) (by omega) ?_
        have bx3_ : 0 ≤ S_.2.2.1 144 0 (320 * inr + 8 * o_ + k_).toNat ∧ S_.2.2.1 144 0 (320 * inr + 8 * o_ + k_).toNat ≤ 2047 := hI_.2 144 0 _
        refine sm_T_iast (n := 204800) rfl rfl (by omega) (by omega) ?_
        have hIx4_ : gi (sm_aI S_ 145 0 (12800 * (S_.1 13 0 29) + 320 * nm_ + 8 * o_ + k_).toNat (S_.2.2.1 144 0 (320 * inr + 8 * o_ + k_).toNat)) := gi_aI hI_ (show 0 ≤ (S_.2.2.1 144 0 (320 * inr + 8 * o_ + k_).toNat) ∧ (S_.2.2.1 144 0 (320 * inr + 8 * o_ + k_).toNat) ≤ 2047 from ⟨by omega, by omega⟩)
        have hFx5_ : ai_fr (sx_W vw_346) S0_ (sm_aI S_ 145 0 (12800 * (S_.1 13 0 29) + 320 * nm_ + 8 * o_ + k_).toNat (S_.2.2.1 144 0 (320 * inr + 8 * o_ + k_).toNat)) := ai_fr_tr hF_ (ai_fr_aI rfl)
        refine sm_T_inc (a := 5) (z := 1) (v := k_) (w := k_ + 1) rfl rfl (by omega) (by omega) (by omega) ?_
        refine sm_T_go 1 (c1 := (44, [some (.inr (.inr (some (13, 0)))), some (.inl inr), some (.inl mo_), some (.inl nm_), some (.inl o_), some (.inl (k_ + 1))], [], sm_aI S_ 145 0 (12800 * (S_.1 13 0 29) + 320 * nm_ + 8 * o_ + k_).toNat (S_.2.2.1 144 0 (320 * inr + 8 * o_ + k_).toNat))) rfl ?_
        refine ih_.2 inr mo_ nm_ o_ (k_ + 1) (sm_aI S_ 145 0 (12800 * (S_.1 13 0 29) + 320 * nm_ + 8 * o_ + k_).toNat (S_.2.2.1 144 0 (320 * inr + 8 * o_ + k_).toNat)) hIx4_ hFx5_ ⟨?_, ?_, ?_, ?_, ?_, trivial⟩ ?_
        · omega
        · exact h4_
        · intro o9_ k9_ ho_ hk_
          rw [rd_eq, if_neg (by omega)]
          exact h1_ o9_ k9_ ho_ hk_
        · intro j_ hj_
          by_cases z_ : j_ < k_.toNat
          · rw [rd_eq, if_neg (by omega)]; exact h3_ j_ z_
          · have zj_ : j_ = k_.toNat := by omega
            rw [rd_eq, if_pos (by omega), zj_, v44_]
            exact congrArg (S0_.2.2.1 144 0) (by omega)
        · intro j_ hj_
          rw [rd_eq, if_neg (by omega)]
          exact h2_ j_ hj_
        · omega
set_option maxHeartbeats 1500000 in
theorem vc_346 {sc_ : Nat × (Nat → Int)} (fr_ : Nat) (M_ : Nat) (s_ : Nat) (cnt_ : Nat) (S0_ : sm_S) (hI_ : gi S0_) (hf_ : (S0_.1 13 0 29) = (fr_ : Int) + 1 ∧ fr_ ≤ 14) (hmd_ : (S0_.1 13 0 28) = (M_ : Int) ∧ M_ ≤ 15) (hn1_ : S0_.2.2.1 148 0 (fr_ + 1) = (s_ : Int) ∧ s_ ≤ 39) (hc_ : S0_.2.2.1 126 0 M_ = (cnt_ : Int) ∧ cnt_ ≤ 40) : sm_T (mt_P sc_) 0 346 (0, [some (.inr (.inr (some (13, 0)))), none, none, none, none, none], [], S0_) (fun ro9_ => ∃ u_ S1_, ro9_ = (.inl u_, S1_, 0) ∧ vq_346 fr_ M_ s_ cnt_ S0_ u_ S1_) := by
  have hF_ : ai_fr (sx_W vw_346) S0_ S0_ := ai_fr_rf
  have bx1_ : 0 ≤ S0_.1 13 0 29 ∧ S0_.1 13 0 29 ≤ 16 := hI_.1 13 0 29 rfl
  have bx2_ : 0 ≤ S0_.1 13 0 28 ∧ S0_.1 13 0 28 ≤ 15 := hI_.1 13 0 28 rfl
  refine sm_T_go 10 (c1 := (16, [some (.inr (.inr (some (13, 0)))), some (.inl (S0_.1 13 0 29)), some (.inl (S0_.1 13 0 28)), none, none, none], [.inl 1, .inl (S0_.1 13 0 29), .inr (.inr (some (13, 0)))], S0_)) rfl ?_
  refine sm_T_bin (w := (S0_.1 13 0 29) - 1) rfl (bi_sub (by omega) (by omega) (by omega)) ?_
  have hIx3_ : gi (sm_pI S0_ 13 0 29 ((S0_.1 13 0 29) - 1)) := gi_pI hI_ (show 0 ≤ (S0_.1 13 0 29) - 1 ∧ (S0_.1 13 0 29) - 1 ≤ 16 from ⟨by omega, by omega⟩)
  have hFx4_ : ai_fr (sx_W vw_346) S0_ (sm_pI S0_ 13 0 29 ((S0_.1 13 0 29) - 1)) := ai_fr_tr hF_ (ai_fr_pI rfl)
  refine sm_T_go 4 (c1 := (25, [some (.inr (.inr (some (13, 0)))), some (.inl (S0_.1 13 0 29)), some (.inl (S0_.1 13 0 28)), none, none, none], [.inl (S0_.1 13 0 29), .inr (.inr (some (148, 0)))], sm_pI S0_ 13 0 29 ((S0_.1 13 0 29) - 1))) rfl ?_
  refine sm_T_iald (n := 16) rfl rfl (by omega) (by omega) ?_
  have bx5_ : 0 ≤ S0_.2.2.1 148 0 (S0_.1 13 0 29).toNat ∧ S0_.2.2.1 148 0 (S0_.1 13 0 29).toNat ≤ 639 := hI_.2 148 0 _
  refine sm_T_go 3 (c1 := (30, [some (.inr (.inr (some (13, 0)))), some (.inl (S0_.1 13 0 29)), some (.inl (S0_.1 13 0 28)), some (.inl (S0_.2.2.1 148 0 (S0_.1 13 0 29).toNat)), some (.inl 0), none], [], sm_pI S0_ 13 0 29 ((S0_.1 13 0 29) - 1))) rfl ?_
  refine (vl_346 fr_ M_ s_ cnt_ S0_ hf_ hmd_ hn1_ hc_ _).1 (S0_.1 13 0 29) (S0_.1 13 0 28) (S0_.2.2.1 148 0 (S0_.1 13 0 29).toNat) 0 (sm_pI S0_ 13 0 29 ((S0_.1 13 0 29) - 1)) hIx3_ hFx4_ ⟨?_, ?_, ?_, ?_, trivial⟩ (Nat.lt_succ_self _)
  · (have e9_ : (S0_.1 13 0 29).toNat = fr_ + 1 := by omega); rw [e9_]; omega
  · (try simp only [rd_eq, rd_ne, rf_eq, rf_nk, rf_nt, rd_fa, rd_af, rd_fl, rd_al, rd_lf, rd_la, rd_leq, rd_lne, rd_fr, rd_ar, ne_eq, Nat.reduceEqDiff, not_false_eq_true]); omega
  · (intro o9_ k9_ ho_; exact absurd ho_ (Nat.not_lt_zero _))
  · (intro j_ hj_; rfl)
end
/-! 99.zd3 -/
section
/-! every right expression can be worked out; written by wip/p55/gen/vg -/

/-! every right expression can_ be_ worked out_ -/
section TOT_
variable {b_ : Nat → Int} {n_ F_ I_ m_ K_ : Nat} {A_ : pA} {X_ : Nat → gQ → gE → Option (gQ × gE)} {s0_ : gS} {pr_ : pPr}
def xt1 (F_ I_ : Nat) (A_ : pA) (X_ : Nat → gQ → gE → Option (gQ × gE)) (m_ : Nat) (s0_ : gS) (h_ c_ : List Int) : Prop := ∃ G_ V_, ev F_ I_ A_ X_ m_ s0_ c_ = some ((G_, s0_.1.2), s0_.2.1, s0_.2.2.1, V_) ∧ V_.map (fun v_ => (v_.length : Int)) = h_ ∧ ∀ v_, v_ ∈ V_ → 1 ≤ v_.length ∧ v_.length ≤ 8
def xto (F_ I_ : Nat) (A_ : pA) (X_ : Nat → gQ → gE → Option (gQ × gE)) (m_ : Nat) (s0_ : gS) (s_ : pO) : Prop := s_ok false 1 s_ ∧ xt1 F_ I_ A_ X_ m_ s0_ s_.2.1 s_.2.2 ∧ o_wd s_.1 s_.2.1.tail
def xtx (b_ : Nat → Int) (n_ F_ I_ : Nat) (A_ : pA) (X_ : Nat → gQ → gE → Option (gQ × gE)) (m_ : Nat) (s0_ : gS) (x_ : pX) : Prop := x_ok b_ n_ false x_ ∧ xt1 F_ I_ A_ X_ m_ s0_ x_.2.2.2.2.1 x_.2.2.2.2.2 ∧ o_wd x_.2.2.2.1 (if x_.1 = 0 then x_.2.2.2.2.1 else x_.2.2.2.2.1.tail)
theorem xto_ap {k_ x_ y_ : Int} {q_ : Nat} {o_ : List (Int × Nat)} {g_ c_ : List Int} (h_ : xto F_ I_ A_ X_ m_ s0_ ((k_, q_) :: o_, y_ :: x_ :: g_, c_)) (hk_ : 1 ≤ k_) (hxy_ : x_ = y_) : xto F_ I_ A_ X_ m_ s0_ (o_, (if k_ = 4 then 1 else x_) :: g_, k_ :: c_) := by
  obtain ⟨hs_, ⟨G_, V_, h1_, h2_, h3_⟩, h4_⟩ := h_
  have h2_ : V_.map (fun v_ => (v_.length : Int)) = y_ :: x_ :: g_ := h2_
  obtain ⟨vy_, V1_, rfl, ly_, xm1_⟩ := mp_c h2_
  obtain ⟨vx_, V2_, rfl, lx_, xm2_⟩ := mp_c xm1_
  have k5_ : k_ ≤ 5 := (o_ok_lt hs_.1 hk_).2
  have bx_ := h3_ vx_ (by simp)
  have lxy_ : vx_.length = vy_.length := by omega
  have h1_ : ev F_ I_ A_ X_ m_ s0_ c_ = some ((G_, s0_.1.2), s0_.2.1, s0_.2.2.1, vy_ :: vx_ :: V2_) := h1_
  have evn_ := ev_op h1_ ⟨hk_, k5_⟩ lxy_ bx_.1
  have oln_ := g_op_ln (F_ := F_) (k_ := k_) (x_ := vx_) (y_ := vy_) (G_ := G_) lxy_ bx_.1
  have nw_ : (if k_ = 4 then (1 : Int) else x_) = ((g_op F_ k_ G_ vx_ vy_).1.length : Int) := by
    rw [oln_]
    by_cases z_ : k_ = 4
    · rw [if_pos z_, if_pos z_]; rfl
    · rw [if_neg z_, if_neg z_]; omega
  refine ⟨s_ok_ap hk_ (by have xb_ := (h_ok_c.mp (h_ok_c.mp hs_.2.2.2).2).1; split; decide; exact xb_) hs_, ⟨(g_op F_ k_ G_ vx_ vy_).2, (g_op F_ k_ G_ vx_ vy_).1 :: V2_, evn_, ?_, fun v_ hv_ => ?_⟩, o_wd_b h4_ hk_⟩
  · rw [List.map_cons, xm2_, nw_]
  · rcases List.mem_cons.mp hv_ with z_ | z_
    · rw [z_, oln_]
      split <;> omega
    · exact h3_ v_ (by simp [z_])
theorem xto_ch {x_ y_ z_ : Int} {q_ : Nat} {o_ : List (Int × Nat)} {g_ c_ : List Int} (h_ : xto F_ I_ A_ X_ m_ s0_ ((-4, q_) :: o_, x_ :: y_ :: z_ :: g_, c_)) (hxy_ : x_ = y_) : xto F_ I_ A_ X_ m_ s0_ (o_, y_ :: g_, 7 :: c_) := by
  obtain ⟨hs_, ⟨G_, V_, h1_, h2_, h3_⟩, h4_⟩ := h_
  have h2_ : V_.map (fun v_ => (v_.length : Int)) = x_ :: y_ :: z_ :: g_ := h2_
  obtain ⟨vx_, V1_, rfl, lx_, xm1_⟩ := mp_c h2_
  obtain ⟨vy_, V2_, rfl, ly_, xm2_⟩ := mp_c xm1_
  obtain ⟨vz_, V3_, rfl, lz_, xm3_⟩ := mp_c xm2_
  have ow_ := o_wd_4 (y_ := y_) (z_ := z_) (g_ := g_) h4_
  obtain ⟨cc_, rfl⟩ : ∃ cc_, vz_ = [cc_] := by
    cases vz_ with
    | nil => simp only [List.length_nil] at lz_; omega
    | cons a1_ a2_ =>
      cases a2_ with
      | nil => exact ⟨a1_, rfl⟩
      | cons a3_ a4_ => simp only [List.length_cons] at lz_; push_cast at lz_; omega
  have by1_ := h3_ vy_ (by simp)
  have lxy_ : vy_.length = vx_.length := by omega
  have oln_ : (g_ch F_ cc_ G_ vy_ vx_).1.length = vy_.length := g_z2_ln _ _ _ lxy_
  have h1_ : ev F_ I_ A_ X_ m_ s0_ c_ = some ((G_, s0_.1.2), s0_.2.1, s0_.2.2.1, vx_ :: vy_ :: [cc_] :: V3_) := h1_
  have evn_ := ev_ch h1_ lxy_ by1_.1
  obtain ⟨t1_, t2_, t3_, t4_⟩ := hs_
  refine ⟨⟨t1_.2.2, ?_, ?_, ?_⟩, ⟨(g_ch F_ cc_ G_ vy_ vx_).2, (g_ch F_ cc_ G_ vy_ vx_).1 :: V3_, evn_, ?_, fun v_ hv_ => ?_⟩, ow_.2⟩
  · have t2_ : 1 + o_mk o_ ≤ 60 := t2_
    show o_mk o_ ≤ 60
    omega
  · show (y_ :: g_).length = o_hl o_ + 1
    have t3_ : (x_ :: y_ :: z_ :: g_).length = (2 + o_hl o_) + 1 := t3_
    simp only [List.length_cons] at t3_ ⊢
    omega
  · exact h_ok_c.mpr ⟨(h_ok_c.mp (h_ok_c.mp t4_).2).1, (h_ok_c.mp (h_ok_c.mp (h_ok_c.mp t4_).2).2).2⟩
  · rw [List.map_cons, xm3_, oln_, ly_]
  · rcases List.mem_cons.mp hv_ with w_ | w_
    · rw [w_, oln_]; exact by1_
    · exact h3_ v_ (by simp [w_])
theorem xto_se {ls_ : Int} (h1_ : 1 ≤ ls_) : ∀ (o_ : List (Int × Nat)) (h_ c_ : List Int) (s_ : pO), xto F_ I_ A_ X_ m_ s0_ (o_, h_, c_) → p_se2 1 ls_ (o_, h_, c_) = .inr s_ → xto F_ I_ A_ X_ m_ s0_ s_
  | [], h_, c_, s_, x_, e_ => by
    have q_ : p_se2 1 ls_ ([], h_, c_) = .inr ([], h_, c_) := p_se_st (show (0 : Int) < ls_ by omega)
    rw [q_] at e_
    cases e_
    exact x_
  | (k_, q_) :: o_, h_, c_, s_, x_, e_ => by
    by_cases g_ : ls_ ≤ k_
    · obtain ⟨y_, z_, l_, hl_⟩ := s_ok_2 (show 1 ≤ k_ by omega) x_.1
      subst hl_
      have w_ := se1_ap g_ e_
      exact xto_se h1_ o_ _ _ s_ (xto_ap x_ (by omega) w_.1) w_.2
    · have q_ : p_se2 1 ls_ ((k_, q_) :: o_, h_, c_) = .inr ((k_, q_) :: o_, h_, c_) := p_se_st (show k_ < ls_ by omega)
      rw [q_] at e_
      cases e_
      exact x_
theorem xto_sa : ∀ (o_ : List (Int × Nat)) (h_ c_ : List Int) (s_ : pO), xto F_ I_ A_ X_ m_ s0_ (o_, h_, c_) → p_sa2 1 (o_, h_, c_) = .inr s_ → xto F_ I_ A_ X_ m_ s0_ s_
  | [], h_, c_, s_, x_, e_ => by
    have q_ : p_sa2 1 ([], h_, c_) = .inr ([], h_, c_) := p_sa_st (show (0 : Int) < 1 by decide) (show (0 : Int) ≠ -4 by decide)
    rw [q_] at e_
    cases e_
    exact x_
  | (k_, q_) :: o_, h_, c_, s_, x_, e_ => by
    by_cases g4_ : k_ = -4
    · subst g4_
      obtain ⟨y_, z_, w_, l_, hl_⟩ := s_ok_3 x_.1
      subst hl_
      have w_ := sa1_ch e_
      exact xto_sa o_ _ _ s_ (xto_ch x_ w_.1) w_.2
    · by_cases g1_ : 1 ≤ k_
      · obtain ⟨y_, z_, l_, hl_⟩ := s_ok_2 g1_ x_.1
        subst hl_
        have e2_ : p_sa false ((k_, q_) :: o_) (y_ :: z_ :: l_) c_ = .inr s_ := e_
        rw [p_sa, if_neg g4_, if_pos g1_] at e2_
        have e2_ : pb (p_ap false k_ q_ z_ y_ c_) (fun r_ => p_sa false o_ (r_.1 :: l_) r_.2) = .inr s_ := e2_
        rw [ap_f] at e2_
        by_cases w_ : z_ = y_
        · rw [if_pos w_] at e2_
          exact xto_sa o_ _ _ s_ (xto_ap x_ g1_ w_) e2_
        · rw [if_neg w_] at e2_
          cases e2_
      · have q_ : p_sa2 1 ((k_, q_) :: o_, h_, c_) = .inr ((k_, q_) :: o_, h_, c_) := p_sa_st (show k_ < 1 by omega) g4_
        rw [q_] at e_
        cases e_
        exact x_
/-- what stands between operators is_ pushed -/
def pr_ev (F_ I_ : Nat) (A_ : pA) (X_ : Nat → gQ → gE → Option (gQ × gE)) (m_ : Nat) (s0_ : gS) (pr_ : pPr) : Prop := ∀ p_ r_, pr_ p_ = .inr r_ → ∃ v_, ev1 F_ I_ A_ X_ m_ s0_.2.1 s0_.2.2.1 r_.2.2 v_ ∧ (v_.length : Int) = r_.2.1 ∧ (1 ≤ v_.length ∧ v_.length ≤ 8)
theorem xt1_ti {t_ : Bool} {h_ c_ : List Int} {x_ : Int} (w_ : xt1 F_ I_ A_ X_ m_ s0_ (x_ :: h_) c_) : xt1 F_ I_ A_ X_ m_ s0_ (p_ti false t_ (x_ :: h_) c_).1 (p_ti false t_ (x_ :: h_) c_).2 := by
  rw [ti2]
  cases t_ with
  | false => exact w_
  | true =>
    obtain ⟨G_, V_, h1_, h2_, h3_⟩ := w_
    obtain ⟨v_, V1_, rfl, lv_, xm_⟩ := mp_c h2_
    refine ⟨G_, _, ev_no h1_, ?_, fun u_ hu_ => ?_⟩
    · rw [List.map_cons, List.length_map, ← h2_, List.map_cons]
    · rcases List.mem_cons.mp hu_ with z_ | z_
      · rw [z_, List.length_map]
        exact h3_ v_ (by simp)
      · exact h3_ u_ (by simp [z_])
theorem xtx_st (hn_ : n_ ≤ 1280) (hpr_ : pr_ok b_ n_ pr_) (hev_ : pr_ev F_ I_ A_ X_ m_ s0_ pr_) {x_ : pX} {z_ : pX ⊕ pR} (h_ : xtx b_ n_ F_ I_ A_ X_ m_ s0_ x_) (e_ : p_st b_ n_ false pr_ x_ = .inr z_) : (∀ y_, z_ = .inl y_ → xtx b_ n_ F_ I_ A_ X_ m_ s0_ y_) ∧ ∀ r_, z_ = .inr r_ → xto F_ I_ A_ X_ m_ s0_ ([], r_.2.1, r_.2.2) := by
  obtain ⟨ph_, t_, p_, o_, g_, c_⟩ := x_
  obtain ⟨hx_, ht_, ho_⟩ := h_
  have hph_ : ph_ ≤ 1 := hx_.1
  have lim_ := o_lim hx_.2.1.1 hx_.2.1.2.1
  by_cases p0_ : ph_ = 0
  · subst p0_
    have ho_ : o_wd o_ g_ := ho_
    by_cases k33_ : lx_kd b_ n_ p_ = 33
    · have e1_ := e_
      rw [pA_b k33_] at e1_
      obtain ⟨q_, q1_, q2_⟩ := pb_inr e1_
      cases q2_
      exact ⟨fun y_ hy_ => (by cases hy_; exact ⟨x_st hn_ hpr_ hx_ e_, ht_, ho_⟩), fun r_ hr_ => (by cases hr_)⟩
    · by_cases k40_ : lx_kd b_ n_ p_ = 40
      · by_cases k60_ : o_mk o_ = 60
        · rw [pA_x k40_ k60_] at e_; cases e_
        · have e1_ := e_
          rw [pA_o k40_ k60_] at e1_
          obtain ⟨q_, q1_, q2_⟩ := pb_inr e1_
          cases q2_
          refine ⟨fun y_ hy_ => ?_, fun r_ hr_ => by cases hr_⟩
          cases hy_
          refine ⟨x_st hn_ hpr_ hx_ e_, ht_, ?_⟩
          show o_wd ((if t_ = true then -2 else -1, p_) :: o_) g_
          have q8_ : (if t_ = true then (-2 : Int) else -1) = -2 ∨ (if t_ = true then (-2 : Int) else -1) = -1 := by cases t_; right; rfl; left; rfl
          unfold o_wd
          rw [if_neg (by show ¬ (if t_ = true then (-2 : Int) else -1) = -3; omega), if_neg (by show ¬ (if t_ = true then (-2 : Int) else -1) = -4; omega), if_pos (by show (if t_ = true then (-2 : Int) else -1) < 0; omega)]
          exact ho_
      · have e1_ := e_
        rw [pA_p k33_ k40_] at e1_
        obtain ⟨r1_, q1_, q2_⟩ := pb_inr e1_
        cases q2_
        refine ⟨fun y_ hy_ => ?_, fun r_ hr_ => by cases hr_⟩
        cases hy_
        obtain ⟨v_, v1_, v2_, v3_⟩ := hev_ p_ r1_ q1_
        obtain ⟨G_, V_, h1_, h2_, h3_⟩ := ht_
        have h2_ : V_.map (fun v_ => (v_.length : Int)) = g_ := h2_
        have gl1_ : g_.length = o_hl o_ + 0 := hx_.2.1.2.2.1
        have gl2_ : o_hl o_ ≤ 425 := lim_.2
        have Vl_ : V_.length = g_.length := by rw [← h2_, List.length_map]
        have w_ : xt1 F_ I_ A_ X_ m_ s0_ (r1_.2.1 :: g_) (r1_.2.2 ++ c_) := ⟨G_, v_ :: V_, v1_ _ V_ c_ s0_ (by omega) h1_, by rw [List.map_cons, h2_, v2_], fun u_ hu_ => by
          rcases List.mem_cons.mp hu_ with z_ | z_
          · rw [z_]; exact v3_
          · exact h3_ u_ z_⟩
        refine ⟨x_st hn_ hpr_ hx_ e_, xt1_ti w_, ?_⟩
        show o_wd o_ (p_ti false t_ (r1_.2.1 :: g_) (r1_.2.2 ++ c_)).1.tail
        rw [ti2]
        exact ho_
  · have p1_ : ph_ = 1 := by omega
    subst p1_
    have ho_ : o_wd o_ g_.tail := ho_
    have hxo_ : xto F_ I_ A_ X_ m_ s0_ (o_, g_, c_) := ⟨hx_.2.1, ht_, ho_⟩
    have B2_ : ∀ s_, xto F_ I_ A_ X_ m_ s0_ s_ → p_B2 b_ n_ false p_ s_ = .inr z_ → (∀ y_, z_ = .inl y_ → xtx b_ n_ F_ I_ A_ X_ m_ s0_ y_) ∧ ∀ r_, z_ = .inr r_ → xto F_ I_ A_ X_ m_ s0_ ([], r_.2.1, r_.2.2) := by
      intro s_ hs_ e2_
      by_cases k63_ : lx_kd b_ n_ p_ = 63
      · obtain ⟨s1_, q_, h1_, h2_, h3_, h4_, h5_⟩ := B2_q e2_ k63_
        have w_ := xto_se (by decide) s_.1 s_.2.1 s_.2.2 s1_ hs_ h1_
        refine ⟨fun y_ hy_ => ?_, fun r_ hr_ => by rw [h5_] at hr_; cases hr_⟩
        rw [h5_] at hy_
        cases hy_
        refine ⟨x_st hn_ hpr_ hx_ (by rw [e_, h5_]), w_.2.1, ?_⟩
        show o_wd ((-3, p_) :: s1_.1) s1_.2.1
        obtain ⟨a9_, g9_, hg9_⟩ := s_ok_1 w_.1
        have q9_ := w_.2.2
        rw [hg9_] at q9_ h3_ ⊢
        unfold o_wd
        rw [if_pos rfl]
        exact ⟨h3_, q9_⟩
      · obtain ⟨s1_, h1_, h2_⟩ := B2_n e2_ k63_
        have w_ := xto_sa s_.1 s_.2.1 s_.2.2 s1_ hs_ h1_
        have lt6_ := p_sa_ok s_.1 s_.2.1 s_.2.2 s1_ hs_.1 h1_
        obtain ⟨so_, sg_, sc_⟩ := s1_
        cases so_ with
        | nil =>
          have q9_ : z_ = .inr (p_, sg_, sc_) := (Sum.inr.inj h2_).symm
          exact ⟨fun y_ hy_ => (by rw [q9_] at hy_; cases hy_), fun r_ hr_ => (by rw [q9_] at hr_; cases hr_; exact w_)⟩
        | cons kq_ o8_ =>
          obtain ⟨k8_, q8_⟩ := kq_
          by_cases k3_ : k8_ = -3
          · subst k3_
            rw [b3_q] at h2_
            obtain ⟨q7_, q71_, q72_⟩ := pb_inr h2_
            have q72_ := Sum.inr.inj q72_
            refine ⟨fun y_ hy_ => ?_, fun r_ hr_ => by rw [← q72_] at hr_; cases hr_⟩
            rw [← q72_] at hy_
            cases hy_
            refine ⟨x_st hn_ hpr_ hx_ (by rw [e_, ← q72_]), w_.2.1, ?_⟩
            show o_wd ((-4, q8_) :: o8_) sg_
            obtain ⟨a9_, g9_, hg9_⟩ := s_ok_1 w_.1
            have hg9_ : sg_ = a9_ :: g9_ := hg9_
            have q9_ : o_wd ((-3, q8_) :: o8_) sg_.tail := w_.2.2
            rw [hg9_] at q9_ ⊢
            have q9_ : o_wd ((-3, q8_) :: o8_) g9_ := q9_
            unfold o_wd at q9_ ⊢
            rw [if_pos rfl] at q9_
            rw [if_neg (by show ¬ (-4 : Int) = -3; decide), if_pos rfl]
            cases g9_ with
            | nil => exact q9_.elim
            | cons c9_ l9_ => exact q9_
          · rw [b3_c k3_] at h2_
            obtain ⟨q7_, q71_, q72_⟩ := pb_inr h2_
            have q72_ := Sum.inr.inj q72_
            refine ⟨fun y_ hy_ => ?_, fun r_ hr_ => by rw [← q72_] at hr_; cases hr_⟩
            rw [← q72_] at hy_
            cases hy_
            obtain ⟨a9_, g9_, hg9_⟩ := s_ok_1 w_.1
            have hg9_ : sg_ = a9_ :: g9_ := hg9_
            subst hg9_
            refine ⟨x_st hn_ hpr_ hx_ (by rw [e_, ← q72_]), xt1_ti w_.2.1, ?_⟩
            show o_wd o8_ (p_ti false (decide (k8_ = -2)) (a9_ :: g9_) sc_).1.tail
            rw [ti2]
            have q9_ : o_wd ((k8_, q8_) :: o8_) g9_ := w_.2.2
            have k8c := o_ok3 w_.1.1 lt6_.2.2.1 lt6_.2.2.2
            unfold o_wd at q9_
            rw [if_neg (by show ¬ k8_ = -3; exact k3_), if_neg (by show ¬ k8_ = -4; omega), if_pos (by show k8_ < 0; omega)] at q9_
            exact q9_
    by_cases l1_ : 0 < p_lv false (lx_kd b_ n_ p_)
    · have e1_ := e_
      rw [pB_l l1_] at e1_
      obtain ⟨s1_, h1_, h2_⟩ := pb_inr e1_
      have w_ := xto_se (ls_ := if p_lv false (lx_kd b_ n_ p_) = 4 then 5 else p_lv false (lx_kd b_ n_ p_)) (by split <;> omega) o_ g_ c_ s1_ hxo_ h1_
      rcases B1_r h2_ l1_ with ⟨z1_, q_, z2_, z3_⟩ | ⟨z1_, z2_⟩
      · refine ⟨fun y_ hy_ => ?_, fun r_ hr_ => by rw [z3_] at hr_; cases hr_⟩
        rw [z3_] at hy_
        cases hy_
        refine ⟨x_st hn_ hpr_ hx_ (by rw [e_, z3_]), w_.2.1, ?_⟩
        show o_wd ((p_lv false (lx_kd b_ n_ p_), p_) :: s1_.1) s1_.2.1
        obtain ⟨a9_, g9_, hg9_⟩ := s_ok_1 w_.1
        have q9_ := w_.2.2
        rw [hg9_] at q9_ ⊢
        unfold o_wd
        rw [if_neg (by show ¬ p_lv false (lx_kd b_ n_ p_) = -3; omega), if_neg (by show ¬ p_lv false (lx_kd b_ n_ p_) = -4; omega), if_neg (by show ¬ p_lv false (lx_kd b_ n_ p_) < 0; omega)]
        exact q9_
      · exact B2_ s1_ w_ z2_
    · have e1_ := e_
      rw [pB_n l1_] at e1_
      exact B2_ (o_, g_, c_) hxo_ e1_
theorem xtx_xr (hn_ : n_ ≤ 1280) (hpr_ : pr_ok b_ n_ pr_) (hev_ : pr_ev F_ I_ A_ X_ m_ s0_ pr_) : ∀ (f_ : Nat) (x_ : pX) (r_ : pR), xtx b_ n_ F_ I_ A_ X_ m_ s0_ x_ → p_xr b_ n_ false pr_ f_ x_ = some (.inr r_) → xto F_ I_ A_ X_ m_ s0_ ([], r_.2.1, r_.2.2)
  | 0, _, _, _, e_ => by cases e_
  | f_ + 1, x_, r_, h_, e_ => by
    rw [p_xr] at e_
    cases hs_ : p_st b_ n_ false pr_ x_ with
    | inl z_ => rw [hs_] at e_; cases e_
    | inr z_ =>
      rw [hs_] at e_
      have w_ := xtx_st hn_ hpr_ hev_ h_ hs_
      cases z_ with
      | inl y_ => exact xtx_xr hn_ hpr_ hev_ f_ y_ r_ (w_.1 y_ rfl) e_
      | inr r9_ => cases e_; exact w_.2 r_ rfl
/-- the_ value of_ an_ expression -/
theorem ex_tot {p_ : Nat} {r_ : pR} (hn_ : n_ ≤ 1280) (hpr_ : pr_ok b_ n_ pr_) (hev_ : pr_ev F_ I_ A_ X_ m_ s0_ pr_) (hp_ : p_ ≤ n_) (hk_ : lx_kd b_ n_ p_ ≠ -1) (hV_ : s0_.2.2.2 = []) (e_ : p_ex b_ n_ false pr_ [] p_ = .inr r_) : ∃ G_ v_, ev F_ I_ A_ X_ m_ s0_ r_.2.2 = some ((G_, s0_.1.2), s0_.2.1, s0_.2.2.1, [v_]) ∧ h_tp r_.2.1 = (v_.length : Int) ∧ (1 ≤ v_.length ∧ v_.length ≤ 8) := by
  unfold p_ex at e_
  cases q_ : p_xr b_ n_ false pr_ (n_ + 1) (0, false, p_, [], [], []) with
  | none => rw [q_] at e_; cases e_
  | some y_ =>
    rw [q_] at e_
    have e_ : y_ = .inr r_ := e_
    subst e_
    have w_ := xtx_xr (F_ := F_) (I_ := I_) (A_ := A_) (X_ := X_) (m_ := m_) (s0_ := s0_) hn_ hpr_ hev_ (n_ + 1) _ r_ ⟨x_ok_0 hp_ hk_ (Nat.zero_le _), ⟨s0_.1.1, [], by
      rw [ev_n]
      obtain ⟨⟨q1_, q2_⟩, q3_, q4_, q5_⟩ := s0_
      have hV_ : q5_ = [] := hV_
      subst hV_
      rfl, rfl, fun v_ hv_ => by cases hv_⟩, trivial⟩ q_
    obtain ⟨ws, ⟨G_, V_, h1_, h2_, h3_⟩, -⟩ := w_
    have q1_ : r_.2.1.length = 0 + 1 := ws.2.2.1
    have Vl_ : V_.length = 1 := by
      have h2_ : V_.map (fun v_ => (v_.length : Int)) = r_.2.1 := h2_
      rw [← h2_, List.length_map] at q1_
      omega
    obtain ⟨v_, rfl⟩ : ∃ v_, V_ = [v_] := by
      cases V_ with
      | nil => cases Vl_
      | cons v_ V_ =>
        cases V_ with
        | nil => exact ⟨v_, rfl⟩
        | cons _ _ => simp at Vl_
    have h2_ : [(v_.length : Int)] = r_.2.1 := h2_
    exact ⟨G_, v_, h1_, by rw [← h2_]; rfl, h3_ v_ (by simp)⟩
end TOT_
end
/-! 99.zd4 -/
section
/-! items; written by wip/p55/gen/vg -/

/-! what items are_ made of_ -/
theorem in_r {b_ : Nat → Int} {n_ m_ p_ : Nat} {A_ : pA} {c_ : List Int} {r_ : pT} (h_ : p_in b_ n_ A_ m_ c_ p_ = .inr r_) : ∃ q_ r1_ u_ y_, p_ad b_ n_ p_ = .inr q_ ∧ p_nw b_ n_ A_ m_ q_ = .inr r1_ ∧ p_wi b_ n_ r1_ = .inr u_ ∧ p_nd b_ n_ 59 u_.1 = .inr y_ ∧ r_ = (a_te A_ m_ q_ 0 u_.2 0, c_, y_) := by
  obtain ⟨q_, h1_, h2_⟩ := pb_inr h_
  obtain ⟨r1_, h3_, h4_⟩ := pb_inr h2_
  obtain ⟨u_, h5_, h6_⟩ := pb_inr h4_
  obtain ⟨y_, h7_, h8_⟩ := pb_inr h6_
  cases h8_
  exact ⟨q_, r1_, u_, y_, h1_, h3_, h5_, h7_, rfl⟩
theorem va_r {b_ : Nat → Int} {n_ m_ p_ : Nat} {A_ : pA} {so_ : Int} {c_ : List Int} {r_ : pT} (h_ : p_va b_ n_ A_ m_ so_ c_ p_ = .inr r_) : ∃ q_ r1_ u_ v_ x_ y_, p_ad b_ n_ p_ = .inr q_ ∧ p_nw b_ n_ A_ m_ q_ = .inr r1_ ∧ p_wi b_ n_ r1_ = .inr u_ ∧ p_nd b_ n_ 61 u_.1 = .inr v_ ∧ p_xd b_ n_ A_ m_ c_ v_ = .inr x_ ∧ h_tp x_.2.1 = u_.2 ∧ p_nd b_ n_ 59 x_.1 = .inr y_ ∧ r_ = (a_te A_ m_ q_ so_ u_.2 0, cw 12 (A_.1 m_) 0 :: x_.2.2, y_) := by
  obtain ⟨q_, h1_, h2_⟩ := pb_inr h_
  obtain ⟨r1_, h3_, h4_⟩ := pb_inr h2_
  obtain ⟨u_, h5_, h6_⟩ := pb_inr h4_
  obtain ⟨v_, h7_, h8_⟩ := pb_inr h6_
  obtain ⟨x_, h9_, h10_⟩ := pb_inr h8_
  by_cases g_ : h_tp x_.2.1 = u_.2
  · rw [if_pos g_] at h10_
    obtain ⟨y_, h11_, h12_⟩ := pb_inr h10_
    cases h12_
    exact ⟨q_, r1_, u_, v_, x_, y_, h1_, h3_, h5_, h7_, h9_, g_, h11_, rfl⟩
  · rw [if_neg g_] at h10_
    cases h10_
theorem re_r {b_ : Nat → Int} {n_ m_ p_ : Nat} {A_ : pA} {c_ : List Int} {r_ : pT} (h_ : p_re b_ n_ A_ m_ c_ p_ = .inr r_) : ∃ q_ r1_ u_ z_ y_, p_ad b_ n_ p_ = .inr q_ ∧ p_nw b_ n_ A_ m_ q_ = .inr r1_ ∧ p_wi b_ n_ r1_ = .inr u_ ∧ p_rb b_ n_ u_.2 u_.1 = .inr z_ ∧ p_nd b_ n_ 59 z_.1 = .inr y_ ∧ r_ = (a_te A_ m_ q_ 3 u_.2 z_.2, cw 13 (A_.1 m_) 0 :: c_, y_) := by
  obtain ⟨q_, h1_, h2_⟩ := pb_inr h_
  obtain ⟨r1_, h3_, h4_⟩ := pb_inr h2_
  obtain ⟨u_, h5_, h6_⟩ := pb_inr h4_
  obtain ⟨z_, h7_, h8_⟩ := pb_inr h6_
  obtain ⟨y_, h9_, h10_⟩ := pb_inr h8_
  cases h10_
  exact ⟨q_, r1_, u_, z_, y_, h1_, h3_, h5_, h7_, h9_, rfl⟩
theorem ne_r {b_ : Nat → Int} {n_ m_ p_ : Nat} {A_ : pA} {c_ : List Int} {r_ : pT} (h_ : p_ne b_ n_ A_ m_ c_ p_ = .inr r_) : ∃ (s_ : Nat) (q_ r1_ : Nat) (x_ : pR) (y_ : Nat), p_fn b_ n_ A_ m_ p_ = (s_ : Int) ∧ s_ < A_.1 m_ ∧ A_.2.2.1 (40 * m_ + s_) = 3 ∧ p_ad b_ n_ p_ = .inr q_ ∧ p_nd b_ n_ 256 q_ = .inr r1_ ∧ p_xd b_ n_ A_ m_ c_ r1_ = .inr x_ ∧ h_tp x_.2.1 = A_.2.2.2.1 (40 * m_ + s_) ∧ p_nd b_ n_ 59 x_.1 = .inr y_ ∧ r_ = (a_dr A_ (40 * m_ + s_), cw 14 (s_ : Int) 0 :: x_.2.2, y_) := by
  unfold p_ne at h_
  by_cases g_ : p_fn b_ n_ A_ m_ p_ = -1 ∨ A_.2.2.1 (40 * m_ + (p_fn b_ n_ A_ m_ p_).toNat) ≠ 3
  · rw [if_pos g_] at h_
    cases h_
  · rw [if_neg g_] at h_
    obtain ⟨s_, q1_, q2_, q3_, -⟩ := p_fn_b (b_ := b_) (n_ := n_) (A_ := A_) (m_ := m_) (p_ := p_) (fun z_ => g_ (Or.inl z_))
    have s3_ : A_.2.2.1 (40 * m_ + s_) = 3 := by
      by_cases z_ : A_.2.2.1 (40 * m_ + s_) = 3
      · exact z_
      · exact absurd (Or.inr (by rw [q3_]; exact z_)) g_
    obtain ⟨q_, h1_, h2_⟩ := pb_inr h_
    obtain ⟨r1_, h3_, h4_⟩ := pb_inr h2_
    obtain ⟨x_, h5_, h6_⟩ := pb_inr h4_
    rw [q3_, q1_] at h6_
    by_cases w_ : h_tp x_.2.1 = A_.2.2.2.1 (40 * m_ + s_)
    · rw [if_pos w_] at h6_
      obtain ⟨y_, h7_, h8_⟩ := pb_inr h6_
      cases h8_
      exact ⟨s_, q_, r1_, x_, y_, q1_, q2_, s3_, h1_, h3_, h5_, w_, h7_, rfl⟩
    · rw [if_neg w_] at h6_
      cases h6_
theorem us_r {b_ : Nat → Int} {n_ m_ p_ : Nat} {A_ : pA} {N_ : Nat → Nat} {c_ : List Int} {r_ : pT} (h_ : p_us b_ n_ A_ N_ m_ c_ p_ = .inr r_) : ∃ (q_ r1_ d_ u_ v_ : Nat) (x_ : List Int × Nat) (y_ : Nat), p_ad b_ n_ p_ = .inr q_ ∧ p_nw b_ n_ A_ m_ q_ = .inr r1_ ∧ lx_kd b_ n_ r1_ = 1 ∧ p_fm b_ n_ N_ m_ r1_ = (d_ : Int) ∧ d_ < m_ ∧ p_ad b_ n_ r1_ = .inr u_ ∧ p_nd b_ n_ 40 u_ = .inr v_ ∧ p_ua b_ n_ A_ m_ d_ (A_.1 m_) q_ (cw 15 (A_.1 m_) 0 :: c_) v_ = .inr x_ ∧ p_nd b_ n_ 59 x_.2 = .inr y_ ∧ r_ = (a_te A_ m_ q_ 5 0 (d_ : Int), cw 17 (A_.1 m_) (d_ : Int) :: x_.1, y_) := by
  obtain ⟨q_, h1_, h2_⟩ := pb_inr h_
  obtain ⟨r1_, h3_, h4_⟩ := pb_inr h2_
  by_cases k1_ : lx_kd b_ n_ r1_ = 1
  · rw [if_pos k1_] at h4_
    by_cases g_ : p_fm b_ n_ N_ m_ r1_ = -1
    · rw [if_pos g_] at h4_
      cases h4_
    · rw [if_neg g_] at h4_
      have fb_ : -1 ≤ p_fm b_ n_ N_ m_ r1_ ∧ p_fm b_ n_ N_ m_ r1_ < m_ := p_fd_b (f_ := fun k_ => nm_q b_ n_ (N_ k_) r1_) m_
      obtain ⟨d_, hd_⟩ : ∃ d_ : Nat, p_fm b_ n_ N_ m_ r1_ = (d_ : Int) := ⟨(p_fm b_ n_ N_ m_ r1_).toNat, by omega⟩
      rw [hd_] at h4_
      obtain ⟨u_, h5_, h6_⟩ := pb_inr h4_
      obtain ⟨v_, h7_, h8_⟩ := pb_inr h6_
      obtain ⟨x_, h9_, h10_⟩ := pb_inr h8_
      obtain ⟨y_, h11_, h12_⟩ := pb_inr h10_
      cases h12_
      exact ⟨q_, r1_, d_, u_, v_, x_, y_, h1_, h3_, k1_, hd_, by omega, h5_, h7_, h9_, h11_, rfl⟩
  · rw [if_neg k1_] at h4_
    cases h4_
/-! the_ names that are_ told have values -/
theorem te_f {A_ : pA} {m_ q_ : Nat} {so_ w_ d_ : Int} : (a_te A_ m_ q_ so_ w_ d_).1 m_ = A_.1 m_ + 1 ∧ (a_te A_ m_ q_ so_ w_ d_).2.1 (40 * m_ + A_.1 m_) = q_ ∧ (a_te A_ m_ q_ so_ w_ d_).2.2.1 (40 * m_ + A_.1 m_) = so_ ∧ (a_te A_ m_ q_ so_ w_ d_).2.2.2.1 (40 * m_ + A_.1 m_) = w_ ∧ (a_te A_ m_ q_ so_ w_ d_).2.2.2.2 (40 * m_ + A_.1 m_) = d_ := by
  unfold a_te
  exact ⟨if_pos rfl, if_pos rfl, if_pos rfl, if_pos rfl, if_pos rfl⟩
section IT_
variable {b_ : Nat → Int} {n_ F_ I_ m_ : Nat} {A_ B_ : pA} {N_ : Nat → Nat} {X_ : Nat → gQ → gE → Option (gQ × gE)} {s0_ : gS}
theorem pd_ev (hA_ : a_ok b_ n_ A_ m_) (hB_ : a_ok b_ n_ B_ m_) (hx_ : a_ex A_ B_ m_) (ht_ : ten B_ m_ (A_.1 m_) s0_.2.1 s0_.2.2.1) : pr_ev F_ I_ B_ X_ m_ s0_ (p_pd b_ n_ A_ m_) := by
  intro p_ r_ hr_
  have hq_ := pd_ex hA_ hx_ hr_
  have e_ := hq_.1
  have hm40_ := (hB_.2 m_ (Nat.le_refl _)).1
  unfold p_pd at e_
  by_cases k2_ : lx_kd b_ n_ p_ = 2
  · rw [if_pos k2_] at e_
    obtain ⟨qa_, qb_, qu_, -, -, -, -, qw_, -, -, hr9_⟩ := co_r e_
    have vp_ := lx_vl_0 k2_
    rw [hr9_]
    exact ⟨c_bt (lx_vl b_ n_ qb_).toNat (lx_vl b_ n_ p_), ev1_cn qw_ vp_, by rw [c_bt_l]; show _ = lx_vl b_ n_ qb_; omega, by rw [c_bt_l]; omega⟩
  · rw [if_neg k2_] at e_
    by_cases k1_ : lx_kd b_ n_ p_ = 1
    · rw [if_pos k1_] at e_
      have hk_ := hq_.2 k1_
      obtain ⟨s9_, q_, q1_, q2_, q3_, q4_⟩ := na_r e_
      have sK_ : s9_ < A_.1 m_ := by omega
      have ao_ := (hB_.2 m_ (Nat.le_refl _)).2 s9_ q2_
      have key_ : A_.1 m_ ≤ B_.1 m_ := hx_.1
      have e1o : B_.2.2.1 (40 * m_ + s9_) ≠ 5 → ev1 F_ I_ B_ X_ m_ s0_.2.1 s0_.2.2.1 [cw 9 (s9_ : Int) 0] (s0_.2.1 s9_) ∧ ((s0_.2.1 s9_).length : Int) = B_.2.2.2.1 (40 * m_ + s9_) ∧ 1 ≤ (s0_.2.1 s9_).length ∧ (s0_.2.1 s9_).length ≤ 8 := by
        intro nso_
        have lE := (ht_.2 s9_ sK_).1 nso_
        have wA_ := ao_.2.2.1
        have wA1_ := ao_.2.2.2.1 nso_
        have q9_ := ev1_ld (F_ := F_) (I_ := I_) (X_ := X_) (E_ := s0_.2.1) (O_ := s0_.2.2.1) (a_ := (s9_ : Int)) (m_ := m_) (A_ := B_) (by omega) hm40_ (by rw [Int.toNat_natCast]; omega) (by rw [Int.toNat_natCast]; exact lE)
        rw [Int.toNat_natCast] at q9_
        exact ⟨q9_, lE, by omega, by omega⟩
      rcases q4_ with ⟨z1_, z2_, z3_⟩ | ⟨z1_, u_, z2_, z3_⟩
      · obtain ⟨w1_, w2_, w3_⟩ := e1o z2_
        rw [z3_]
        exact ⟨_, w1_, w2_, w3_⟩
      · rcases z3_ with ⟨z3_, z4_, z5_⟩ | ⟨z3_, z4_, v_, z5_, z6_⟩
        · obtain ⟨o9_, q7_, pq1_, pq2_, pq3_, pq4_, pq5_⟩ := pa_r z5_
          have d5_ := ao_.2.2.2.2.1 z4_
          obtain ⟨o_, hO_, hOl_⟩ := (ht_.2 s9_ sK_).2 z4_
          have lo1_ := hOl_ o9_ pq2_ (by rw [pq3_]; decide)
          have aoD_ := (hB_.2 (B_.2.2.2.2 (40 * m_ + s9_)).toNat (by omega)).2 o9_ pq2_
          have wD_ := aoD_.2.2.1
          have wD1_ := aoD_.2.2.2.1 (by rw [pq3_]; decide)
          have e1p : ev1 F_ I_ B_ X_ m_ s0_.2.1 s0_.2.2.1 [cw 10 (s9_ : Int) (o9_ : Int)] (o_ o9_) := by
            have q9_ := ev1_pt (F_ := F_) (I_ := I_) (X_ := X_) (E_ := s0_.2.1) (a_ := (s9_ : Int)) (d_ := (o9_ : Int)) (o_ := o_) (m_ := m_) (A_ := B_) (O_ := s0_.2.2.1) (by omega) hm40_ (by rw [Int.toNat_natCast]; exact hO_) (by rw [Int.toNat_natCast]; omega) (by rw [Int.toNat_natCast]; exact d5_) (by rw [Int.toNat_natCast]; omega) (by rw [Int.toNat_natCast, Int.toNat_natCast]; exact lo1_)
            rw [Int.toNat_natCast] at q9_
            exact q9_
          rcases pq5_ with ⟨w1_, w2_⟩ | ⟨w1_, y1_, y2_, w2_, w3_, w4_⟩
          · rw [w2_]
            exact ⟨_, e1p, lo1_, by omega⟩
          · have r9_ := bp_rr w3_
            rw [w4_]
            exact ⟨_, ev1_bi e1p (by omega) (by omega), rfl, ⟨by simp, by simp⟩⟩
        · obtain ⟨w1_, w2_, w3_⟩ := e1o z4_
          have r9_ := bp_rr z5_
          rw [z6_]
          exact ⟨_, ev1_bi w1_ (by omega) (by omega), rfl, ⟨by simp, by simp⟩⟩
    · rw [if_neg k1_] at e_
      cases e_
/-- what is_ true of_ the_ values while a_ module is_ worked out_ -/
def tst (B_ : pA) (I_ m_ K_ : Nat) (E_ : gE) (O_ : gO) : Prop := ten B_ m_ K_ E_ O_ ∧ (∀ s_, s_ < K_ → B_.2.2.1 (40 * m_ + s_) = 3 ∨ B_.2.2.1 (40 * m_ + s_) = 4 → ∃ rb, E_ s_ = r_bt I_ rb (B_.2.2.2.1 (40 * m_ + s_)).toNat ∧ rb + (B_.2.2.2.1 (40 * m_ + s_)).toNat ≤ 6) ∧ (∀ s_, K_ ≤ s_ → s_ < B_.1 m_ → B_.2.2.1 (40 * m_ + s_) ≠ 0 → E_ s_ = [] ∧ O_ s_ = none) ∧ ∀ s_, s_ < B_.1 m_ → B_.2.2.1 (40 * m_ + s_) = 0 → ((E_ s_).length : Int) = B_.2.2.2.1 (40 * m_ + s_)
theorem ew_st {k_ a_ d_ : Int} {s_ r_ : gS} (hk_ : 12 ≤ k_ ∧ k_ ≤ 16) (ha_ : 0 ≤ a_ ∧ a_ < 64) (h_ : e_st I_ B_ m_ k_ a_.toNat d_ s_ = some r_) : ew F_ I_ B_ X_ m_ (cw k_ a_ d_) s_ = some r_ := by
  obtain ⟨e1_, e2_, e3_⟩ := cw_d (k_ := k_) (a_ := a_) (d_ := d_) (by omega) ha_
  unfold ew
  rw [e1_, e2_, e3_, if_neg (by omega), if_neg (by omega), if_neg (by omega)]
  exact h_
/-- the_ expression of_ an_ item, on_ top_ of_ what is_ there -/
theorem xd_tot {p_ : Nat} {x_ : pR} {c_ c0_ kk_ : List Int} {q_ : gQ} {E_ : gE} {O_ : gO} (hn_ : n_ ≤ 1280) (hpr_ : pr_ok b_ n_ (p_pd b_ n_ A_ m_)) (hA_ : a_ok b_ n_ A_ m_) (hB_ : a_ok b_ n_ B_ m_) (hx_ : a_ex A_ B_ m_) (ht_ : ten B_ m_ (A_.1 m_) E_ O_) (hp_ : p_ ≤ n_) (hk_ : lx_kd b_ n_ p_ ≠ -1) (hc_ : c_ = kk_ ++ c0_) (he_ : ev F_ I_ B_ X_ m_ s0_ kk_ = some (q_, E_, O_, [])) (e_ : p_xd b_ n_ A_ m_ c_ p_ = .inr x_) : ∃ k_ G_ v_, p_ex b_ n_ false (p_pd b_ n_ A_ m_) [] p_ = .inr (x_.1, x_.2.1, k_) ∧ x_.2.2 = (k_ ++ kk_) ++ c0_ ∧ ev F_ I_ B_ X_ m_ (q_, E_, O_, []) k_ = some ((G_, q_.2), E_, O_, [v_]) ∧ ev F_ I_ B_ X_ m_ s0_ (k_ ++ kk_) = some ((G_, q_.2), E_, O_, [v_]) ∧ h_tp x_.2.1 = (v_.length : Int) ∧ (1 ≤ v_.length ∧ v_.length ≤ 8) := by
  obtain ⟨k_, h1_, h2_⟩ := ex_ac e_
  obtain ⟨G_, v_, h3_, h4_, h5_⟩ := ex_tot (F_ := F_) (I_ := I_) (A_ := B_) (X_ := X_) (m_ := m_) (s0_ := (q_, E_, O_, [])) hn_ hpr_ (pd_ev hA_ hB_ hx_ ht_) hp_ hk_ rfl h1_
  have h3_ : ev F_ I_ B_ X_ m_ (q_, E_, O_, []) k_ = some ((G_, q_.2), E_, O_, [v_]) := h3_
  refine ⟨k_, G_, v_, h1_, by rw [h2_, hc_, List.append_assoc], h3_, ?_, h4_, h5_⟩
  rw [ev_a he_, h3_]
theorem tst_up {K_ : Nat} {E_ : gE} {O_ : gO} {v_ : List Int} (h_ : tst B_ I_ m_ K_ E_ O_) (hK_ : K_ < B_.1 m_) (hs_ : B_.2.2.1 (40 * m_ + K_) ≠ 5) (hl_ : (v_.length : Int) = B_.2.2.2.1 (40 * m_ + K_)) (hr_ : B_.2.2.1 (40 * m_ + K_) = 3 ∨ B_.2.2.1 (40 * m_ + K_) = 4 → ∃ rb, v_ = r_bt I_ rb (B_.2.2.2.1 (40 * m_ + K_)).toNat ∧ rb + (B_.2.2.2.1 (40 * m_ + K_)).toNat ≤ 6) : tst B_ I_ m_ (K_ + 1) (up1 E_ K_ v_) O_ := by
  obtain ⟨⟨h0_, h1_⟩, h2_, h3_, h4_⟩ := h_
  refine ⟨⟨by omega, fun s_ hs1_ => ?_⟩, fun s_ hs1_ hs2_ => ?_, fun s_ hs1_ hs2_ hs3_ => ?_, fun s_ hs1_ hs2_ => ?_⟩
  · unfold up1
    by_cases e_ : s_ = K_
    · rw [if_pos e_, e_]
      exact ⟨fun _ => hl_, fun z_ => absurd z_ hs_⟩
    · rw [if_neg e_]
      exact h1_ s_ (by omega)
  · unfold up1
    by_cases e_ : s_ = K_
    · rw [if_pos e_, e_]
      rw [e_] at hs2_
      exact hr_ hs2_
    · rw [if_neg e_]
      exact h2_ s_ (by omega) hs2_
  · unfold up1
    rw [if_neg (by omega)]
    exact h3_ s_ (by omega) hs2_ hs3_
  · unfold up1
    by_cases e_ : s_ = K_
    · rw [if_pos e_, e_]
      exact hl_
    · rw [if_neg e_]
      exact h4_ s_ hs1_ hs2_
end IT_
end
/-! 99.zd5 -/
section
/-! items can be worked out; written by wip/p55/gen/vg -/

/-! items can_ be_ worked out_ -/
section IT2_
variable {b_ : Nat → Int} {n_ F_ I_ m_ : Nat} {A_ B_ : pA} {N_ : Nat → Nat} {X_ : Nat → gQ → gE → Option (gQ × gE)} {s0_ : gS}
theorem st12 {a_ : Nat} {d_ : Int} {q_ : gQ} {E_ : gE} {O_ : gO} {x_ : List Int} {l_ : gV} (ha_ : a_ < B_.1 m_) (hO_ : O_ a_ = none) (hl_ : x_.length ≤ 8) : e_st I_ B_ m_ 12 a_ d_ (q_, E_, O_, x_ :: l_) = some (q_, up1 E_ a_ x_, O_, l_) := by
  unfold e_st
  rw [if_neg (by omega), if_neg (by decide), if_neg (by decide)]
  simp [hO_, hl_]
theorem st13 {a_ : Nat} {d_ : Int} {G_ : pGr} {R_ fc_ : Nat} {E_ : gE} {O_ : gO} {l_ : gV} (ha_ : a_ < B_.1 m_) (hO_ : O_ a_ = none) (h1_ : 1 ≤ B_.2.2.2.1 (40 * m_ + a_) ∧ B_.2.2.2.1 (40 * m_ + a_) ≤ 8) (hR_ : R_ + (B_.2.2.2.1 (40 * m_ + a_)).toNat ≤ 6) : e_st I_ B_ m_ 13 a_ d_ ((G_, R_, fc_), E_, O_, l_) = some ((G_, R_ + (B_.2.2.2.1 (40 * m_ + a_)).toNat, fc_), up1 E_ a_ (r_bt I_ R_ (B_.2.2.2.1 (40 * m_ + a_)).toNat), O_, l_) := by
  unfold e_st
  rw [if_neg (by omega), if_neg (by decide), if_pos rfl, if_pos ⟨hO_, h1_.1, h1_.2, hR_⟩]
theorem st14 {a_ : Nat} {d_ z_ : Int} {q_ : gQ} {E_ : gE} {O_ : gO} {x_ y_ : List Int} {l_ : gV} (ha_ : a_ < B_.1 m_) (hE_ : E_ a_ = z_ :: y_) (h1_ : 2 * (1 + (I_ : Int)) ≤ z_) (h2_ : z_ / 2 - 1 - I_ + x_.length ≤ 6) : e_st I_ B_ m_ 14 a_ d_ (q_, E_, O_, x_ :: l_) = some (q_, E_, O_, l_) := by
  unfold e_st
  rw [if_neg (by omega), if_neg (by decide), if_neg (by decide)]
  simp [hE_, h1_, h2_]
theorem st15 {a_ : Nat} {d_ : Int} {G_ : pGr} {R_ fc_ : Nat} {E_ : gE} {O_ : gO} {l_ : gV} (ha_ : a_ < B_.1 m_) (hE_ : E_ a_ = []) (hO_ : O_ a_ = none) (hf_ : fc_ ≤ 200) : e_st I_ B_ m_ 15 a_ d_ ((G_, R_, fc_), E_, O_, l_) = some ((G_, R_, fc_ + 1), E_, up1 O_ a_ (some fun _ => []), l_) := by
  unfold e_st
  rw [if_neg (by omega), if_pos rfl, if_pos ⟨hf_, hE_, hO_⟩]
theorem st16 {a_ : Nat} {d_ : Int} {q_ : gQ} {E_ : gE} {O_ : gO} {o_ : Nat → List Int} {x_ : List Int} {l_ : gV} (ha_ : a_ < B_.1 m_) (hO_ : O_ a_ = some o_) (hd_ : 0 ≤ d_ ∧ d_ < 40) (hl_ : x_.length ≤ 8) : e_st I_ B_ m_ 16 a_ d_ (q_, E_, O_, x_ :: l_) = some (q_, E_, up1 O_ a_ (some (up1 o_ d_.toNat x_)), l_) := by
  unfold e_st
  rw [if_neg (by omega), if_neg (by decide), if_neg (by decide)]
  simp [hO_, hd_.1, hd_.2, hl_]
theorem tst_in {K_ : Nat} {E_ : gE} {O_ : gO} (h_ : tst B_ I_ m_ K_ E_ O_) (hK_ : K_ < B_.1 m_) (hs_ : B_.2.2.1 (40 * m_ + K_) = 0) : tst B_ I_ m_ (K_ + 1) E_ O_ := by
  obtain ⟨⟨h0_, h1_⟩, h2_, h3_, h4_⟩ := h_
  refine ⟨⟨by omega, fun s_ hs1_ => ?_⟩, fun s_ hs1_ hs2_ => ?_, fun s_ hs1_ => h3_ s_ (by omega), h4_⟩
  · by_cases e_ : s_ = K_
    · rw [e_]
      exact ⟨fun _ => h4_ K_ hK_ hs_, fun z_ => by omega⟩
    · exact h1_ s_ (by omega)
  · by_cases e_ : s_ = K_
    · rw [e_] at hs2_
      omega
    · exact h2_ s_ (by omega) hs2_
theorem ten_o {K_ : Nat} {E_ : gE} {O_ : gO} {z_ : Option (Nat → List Int)} (h_ : ten B_ m_ K_ E_ O_) : ten B_ m_ K_ E_ (up1 O_ K_ z_) := by
  refine ⟨h_.1, fun s_ hs_ => ⟨(h_.2 s_ hs_).1, fun h5_ => ?_⟩⟩
  unfold up1
  rw [if_neg (by omega)]
  exact (h_.2 s_ hs_).2 h5_
theorem tst_us {K_ : Nat} {E_ : gE} {O_ : gO} {o_ : Nat → List Int} (h_ : tst B_ I_ m_ K_ E_ O_) (hK_ : K_ < B_.1 m_) (hs_ : B_.2.2.1 (40 * m_ + K_) = 5) (ho_ : ∀ o1_, o1_ < B_.1 (B_.2.2.2.2 (40 * m_ + K_)).toNat → B_.2.2.1 (40 * (B_.2.2.2.2 (40 * m_ + K_)).toNat + o1_) ≠ 5 → ((o_ o1_).length : Int) = B_.2.2.2.1 (40 * (B_.2.2.2.2 (40 * m_ + K_)).toNat + o1_)) : tst B_ I_ m_ (K_ + 1) E_ (up1 O_ K_ (some o_)) := by
  obtain ⟨⟨h0_, h1_⟩, h2_, h3_, h4_⟩ := h_
  refine ⟨⟨by omega, fun s_ hs1_ => ?_⟩, fun s_ hs1_ hs2_ => ?_, fun s_ hs1_ hs2_ hs3_ => ?_, h4_⟩
  · unfold up1
    by_cases e_ : s_ = K_
    · rw [if_pos e_, e_]
      exact ⟨fun z_ => absurd hs_ z_, fun _ => ⟨o_, rfl, ho_⟩⟩
    · rw [if_neg e_]
      exact h1_ s_ (by omega)
  · by_cases e_ : s_ = K_
    · rw [e_] at hs2_
      omega
    · exact h2_ s_ (by omega) hs2_
  · unfold up1
    rw [if_neg (by omega)]
    exact h3_ s_ (by omega) hs2_ hs3_
theorem up1_2 {α : Type} {f_ : Nat → α} {a_ : Nat} {v_ w_ : α} : up1 (up1 f_ a_ v_) a_ w_ = up1 f_ a_ w_ := by
  funext k_
  unfold up1
  by_cases e_ : k_ = a_
  · rw [if_pos e_, if_pos e_]
  · rw [if_neg e_, if_neg e_, if_neg e_]
/-- the_ arguments that have come so_ far_ -/
def oin (B_ : pA) (d_ i_ : Nat) (o_ : Nat → List Int) : Prop := (∀ s_, s_ < B_.1 d_ → B_.2.2.1 (40 * d_ + s_) = 0 → s_ < i_ → ((o_ s_).length : Int) = B_.2.2.2.1 (40 * d_ + s_)) ∧ ∀ s_, s_ < B_.1 d_ → B_.2.2.1 (40 * d_ + s_) ≠ 0 → o_ s_ = []
theorem ni_n {d_ k_ : Nat} (h_ : p_ni A_ d_ k_ = -1) : ∀ s_, s_ < A_.1 d_ → k_ ≤ s_ → A_.2.2.1 (40 * d_ + s_) ≠ 0 := by
  intro s_ hs_ hk_ z_
  have q_ := p_fd_no (f_ := fun s_ => decide (k_ ≤ s_) && decide (A_.2.2.1 (40 * d_ + s_) = 0)) h_ s_ hs_
  have q_ : (decide (k_ ≤ s_) && decide (A_.2.2.1 (40 * d_ + s_) = 0)) = false := q_
  rw [decide_eq_true hk_, decide_eq_true z_] at q_
  cases q_
theorem ni_s {d_ k_ i_ : Nat} (h_ : p_ni A_ d_ k_ = (i_ : Int)) : k_ ≤ i_ ∧ i_ < A_.1 d_ ∧ A_.2.2.1 (40 * d_ + i_) = 0 := by
  have q_ := p_fd_f (f_ := fun s_ => decide (k_ ≤ s_) && decide (A_.2.2.1 (40 * d_ + s_) = 0)) h_
  have q1_ : (decide (k_ ≤ i_) && decide (A_.2.2.1 (40 * d_ + i_) = 0)) = true := q_.1
  rw [Bool.and_eq_true, decide_eq_true_eq, decide_eq_true_eq] at q1_
  exact ⟨q1_.1, q_.2, q1_.2⟩
theorem fd_lt {f_ : Nat → Bool} : ∀ {k_ : Nat} {i_ : Nat}, p_fd f_ k_ = (i_ : Int) → ∀ s_, s_ < i_ → f_ s_ = false
  | 0, i_, h_, s_, hs_ => by
    rw [p_fd] at h_
    omega
  | k_ + 1, i_, h_, s_, hs_ => by
    rw [p_fd] at h_
    split at h_
    · rename_i g_
      split at h_
      · have : k_ = i_ := by omega
        exact p_fd_no g_ s_ (by omega)
      · omega
    · exact fd_lt h_ s_ hs_
theorem ni_l {d_ k_ i_ : Nat} (h_ : p_ni A_ d_ k_ = (i_ : Int)) : ∀ s_, k_ ≤ s_ → s_ < i_ → A_.2.2.1 (40 * d_ + s_) ≠ 0 := by
  intro s_ hk_ hs_ z_
  have q_ := fd_lt (f_ := fun s_ => decide (k_ ≤ s_) && decide (A_.2.2.1 (40 * d_ + s_) = 0)) h_ s_ hs_
  have q_ : (decide (k_ ≤ s_) && decide (A_.2.2.1 (40 * d_ + s_) = 0)) = false := q_
  rw [decide_eq_true hk_, decide_eq_true z_] at q_
  cases q_
theorem ae_r {pl_ p_ : Nat} {t_ : Bool} {c_ : List Int} {x_ : List Int × Nat} (h_ : p_ae b_ n_ pl_ t_ c_ p_ = .inr x_) : t_ = false ∧ lx_kd b_ n_ p_ = 41 ∧ x_.1 = c_ ∧ p_ad b_ n_ p_ = .inr x_.2 := by
  unfold p_ae at h_
  by_cases g_ : lx_kd b_ n_ p_ = 41 ∧ t_ = true
  · rw [if_pos g_] at h_
    cases h_
  · rw [if_neg g_] at h_
    obtain ⟨q_, h1_, h2_⟩ := pb_inr h_
    cases h2_
    unfold p_nd at h1_
    by_cases k_ : lx_kd b_ n_ p_ = 41
    · rw [if_pos k_] at h1_
      refine ⟨?_, k_, rfl, h1_⟩
      cases t_ with
      | false => rfl
      | true => exact absurd ⟨k_, rfl⟩ g_
    · rw [if_neg k_] at h1_
      cases h1_
theorem ar_tot {d_ K_ pl_ : Nat} {c0_ : List Int} {E_ : gE} {O_ : gO} {R_ fc_ : Nat} (hn_ : n_ ≤ 1280) (hA_ : a_ok b_ n_ A_ m_) (hB_ : a_ok b_ n_ B_ m_) (hx_ : a_ex A_ B_ m_) (ht_ : ten B_ m_ (A_.1 m_) E_ O_) (hK_ : K_ = A_.1 m_) (hKB_ : K_ < B_.1 m_) (hd_ : d_ < m_) : ∀ (f_ : Nat) (i_ : Int) (c_ kk_ : List Int) (p_ : Nat) (x_ : List Int × Nat) (G_ : pGr) (o_ : Nat → List Int) (k_ : Nat), p_ar b_ n_ A_ m_ d_ K_ pl_ f_ i_ c_ p_ = .inr x_ → i_ = p_ni A_ d_ k_ → p_ ≤ n_ → lx_kd b_ n_ p_ ≠ -1 → c_ = kk_ ++ c0_ → ev F_ I_ B_ X_ m_ s0_ kk_ = some ((G_, R_, fc_), E_, up1 O_ K_ (some o_), []) → oin B_ d_ k_ o_ → ∃ kk'_ G'_ o'_, x_.1 = kk'_ ++ c0_ ∧ ev F_ I_ B_ X_ m_ s0_ kk'_ = some ((G'_, R_, fc_), E_, up1 O_ K_ (some o'_), []) ∧ oin B_ d_ (B_.1 d_) o'_
  | 0, _, _, _, _, _, _, _, _, h_, _, _, _, _, _, _ => by cases h_
  | f_ + 1, i_, c_, kk_, p_, x_, G_, o_, k_, h_, hi_, hp_, hkd_, hc_, he_, ho_ => by
    rw [p_ar] at h_
    obtain ⟨x1_, h1_, h2_⟩ := pb_inr h_
    have ten2_ : ten B_ m_ (A_.1 m_) E_ (up1 O_ K_ (some o_)) := by rw [hK_]; exact ten_o ht_
    obtain ⟨k1_, G1_, v_, q1_, q2_, q3_, q4_, q5_, q6_⟩ := xd_tot (F_ := F_) (I_ := I_) (X_ := X_) hn_ (pd_ok hA_) hA_ hB_ hx_ ten2_ hp_ hkd_ hc_ he_ h1_
    have x1b : p_ < x1_.1 ∧ x1_.1 ≤ n_ ∧ lx_kd b_ n_ x1_.1 ≠ -1 := by
      have w_ := pex_ok hn_ (pd_ok hA_) hp_ hkd_ (Nat.zero_le _) q1_
      exact ⟨w_.1, w_.2.1, w_.2.2.1⟩
    have ad_ : A_.1 d_ = B_.1 d_ := hx_.2.1 d_ hd_
    have same : ∀ s_, s_ < A_.1 d_ → (A_.2.2.1 (40 * d_ + s_) = 0 ↔ B_.2.2.1 (40 * d_ + s_) = 0) ∧ A_.2.2.2.1 (40 * d_ + s_) = B_.2.2.2.1 (40 * d_ + s_) := by
      intro s_ hs_
      have w_ := hx_.2.2 d_ s_ (by omega) hs_
      refine ⟨?_, w_.2.1⟩
      rcases w_.2.2.2 with z_ | z_ <;> omega
    have d40_ := (hB_.2 d_ (by omega)).1
    have K40_ := (hB_.2 m_ (Nat.le_refl _)).1
    by_cases im_ : i_ = -1
    · exfalso
      rw [if_neg (fun z_ => z_.1 im_)] at h2_
      have a2_ : p_a2 A_ d_ i_ = -1 := if_pos im_
      by_cases k44_ : lx_kd b_ n_ x1_.1 = 44
      · rw [if_pos k44_, if_pos a2_] at h2_
        cases h2_
      · rw [if_neg k44_] at h2_
        have w_ := (ae_r h2_).1
        rw [decide_eq_true (Or.inl im_)] at w_
        cases w_
    · obtain ⟨iN_, hiN_⟩ : ∃ iN_ : Nat, p_ni A_ d_ k_ = (iN_ : Int) := by
        rcases p_ni_c (A_ := A_) (m_ := d_) (k_ := k_) with z_ | z_
        · exact absurd (hi_.trans z_) im_
        · exact ⟨(p_ni A_ d_ k_).toNat, by omega⟩
      have iv_ : i_ = (iN_ : Int) := hi_.trans hiN_
      obtain ⟨n1_, n2_, n3_⟩ := ni_s hiN_
      have n4_ := ni_l hiN_
      have wl : h_tp x1_.2.1 = A_.2.2.2.1 (40 * d_ + iN_) := by
        by_cases z_ : h_tp x1_.2.1 = A_.2.2.2.1 (40 * d_ + iN_)
        · exact z_
        · rw [if_pos ⟨im_, by rw [iv_, Int.toNat_natCast]; exact z_⟩] at h2_
          cases h2_
      rw [if_neg (fun z_ => z_.2 (by rw [iv_, Int.toNat_natCast]; exact wl))] at h2_
      have a1_ : p_a1 A_ d_ K_ i_ x1_.2.2 = (cw 16 (K_ : Int) (iN_ : Int) :: (k1_ ++ kk_)) ++ c0_ := by
        unfold p_a1
        rw [if_neg im_, q2_, iv_]
        rfl
      have a2_ : p_a2 A_ d_ i_ = p_ni A_ d_ (iN_ + 1) := by
        unfold p_a2
        rw [if_neg im_, iv_, Int.toNat_natCast]
      have he2_ : ev F_ I_ B_ X_ m_ s0_ (cw 16 (K_ : Int) (iN_ : Int) :: (k1_ ++ kk_)) = some ((G1_, R_, fc_), E_, up1 O_ K_ (some (up1 o_ iN_ v_)), []) := by
        rw [ev_c q4_]
        refine ew_st (by decide) (by omega) ?_
        have w_ := st16 (B_ := B_) (m_ := m_) (I_ := I_) (a_ := K_) (d_ := (iN_ : Int)) (q_ := (G1_, R_, fc_)) (E_ := E_) (O_ := up1 O_ K_ (some o_)) (o_ := o_) (x_ := v_) (l_ := []) hKB_ (if_pos rfl) (by omega) q6_.2
        rw [up1_2, Int.toNat_natCast] at w_
        rw [Int.toNat_natCast]
        exact w_
      have ho2_ : oin B_ d_ (iN_ + 1) (up1 o_ iN_ v_) := by
        refine ⟨fun s_ hs_ h0_ hlt_ => ?_, fun s_ hs_ h0_ => ?_⟩
        · unfold up1
          by_cases e_ : s_ = iN_
          · rw [if_pos e_, e_, ← q5_, wl]
            exact (same iN_ n2_).2
          · rw [if_neg e_]
            refine ho_.1 s_ hs_ h0_ ?_
            by_cases z_ : s_ < k_
            · exact z_
            · exact absurd ((same s_ (by omega)).1.mpr h0_) (n4_ s_ (by omega) (by omega))
        · unfold up1
          rw [if_neg (fun e_ => h0_ (by rw [e_]; exact (same iN_ n2_).1.mp n3_))]
          exact ho_.2 s_ hs_ h0_
      rw [a1_, a2_] at h2_
      by_cases k44_ : lx_kd b_ n_ x1_.1 = 44
      · rw [if_pos k44_] at h2_
        by_cases z_ : p_ni A_ d_ (iN_ + 1) = -1
        · rw [if_pos z_] at h2_
          cases h2_
        · rw [if_neg z_] at h2_
          obtain ⟨q7_, q8_, q9_⟩ := pb_inr h2_
          have w_ := p_ad_ok x1b.2.1 (by omega) q8_
          exact ar_tot (pl_ := pl_) hn_ hA_ hB_ hx_ ht_ hK_ hKB_ hd_ f_ _ _ _ q7_ x_ G1_ _ (iN_ + 1) q9_ rfl w_.2.2.1 w_.2.2.2 rfl he2_ ho2_
      · rw [if_neg k44_] at h2_
        obtain ⟨w1_, w2_, w3_, w4_⟩ := ae_r h2_
        have w5_ : p_ni A_ d_ (iN_ + 1) = -1 := by
          by_cases z_ : p_ni A_ d_ (iN_ + 1) = -1
          · exact z_
          · rw [decide_eq_true (Or.inr z_)] at w1_
            cases w1_
        refine ⟨_, G1_, _, w3_, he2_, fun s_ hs_ h0_ _ => ?_, ho2_.2⟩
        refine ho2_.1 s_ hs_ h0_ ?_
        by_cases z_ : s_ < iN_ + 1
        · exact z_
        · exact absurd ((same s_ (by omega)).1.mpr h0_) (ni_n w5_ s_ (by omega) (by omega))
end IT2_
end
/-! 99.zd6 -/
section
/-! every right item can be worked out; written by wip/p55/gen/vg -/

/-! every right item can_ be_ worked out_ -/
section IT3_
variable {b_ : Nat → Int} {n_ F_ I_ m_ : Nat} {A_ B_ : pA} {N_ : Nat → Nat} {X_ : Nat → gQ → gE → Option (gQ × gE)} {s0_ : gS}
theorem te_ex {q_ : Nat} {so_ w_ d_ : Int} (h_ : a_ex (a_te A_ m_ q_ so_ w_ d_) B_ m_) : A_.1 m_ < B_.1 m_ ∧ B_.2.2.2.1 (40 * m_ + A_.1 m_) = w_ ∧ B_.2.2.2.2 (40 * m_ + A_.1 m_) = d_ ∧ (B_.2.2.1 (40 * m_ + A_.1 m_) = so_ ∨ (so_ = 3 ∧ B_.2.2.1 (40 * m_ + A_.1 m_) = 4)) := by
  have t_ := te_f (A_ := A_) (m_ := m_) (q_ := q_) (so_ := so_) (w_ := w_) (d_ := d_)
  have h1_ := h_.1
  have h2_ := h_.2.2 m_ (A_.1 m_) (Nat.le_refl _) (by rw [t_.1]; omega)
  rw [t_.1] at h1_
  rw [t_.2.1, t_.2.2.1, t_.2.2.2.1, t_.2.2.2.2] at h2_
  refine ⟨by omega, h2_.2.1.symm, h2_.2.2.1.symm, ?_⟩
  rcases h2_.2.2.2 with z_ | z_
  · exact Or.inl z_.symm
  · exact Or.inr z_
theorem ar_pl {d_ K_ pl_ : Nat} (hn_ : n_ ≤ 1280) (hA_ : a_ok b_ n_ A_ m_) : ∀ (f_ : Nat) (i_ : Int) (c_ : List Int) (p_ : Nat) (x_ : List Int × Nat), p_ar b_ n_ A_ m_ d_ K_ pl_ f_ i_ c_ p_ = .inr x_ → p_ ≤ n_ → lx_kd b_ n_ p_ ≠ -1 → p_ < x_.2 ∧ x_.2 ≤ n_ ∧ lx_kd b_ n_ x_.2 ≠ -1
  | 0, _, _, _, _, h_, _, _ => by cases h_
  | f_ + 1, i_, c_, p_, x_, h_, hp_, hk_ => by
    rw [p_ar] at h_
    obtain ⟨x1_, h1_, h2_⟩ := pb_inr h_
    obtain ⟨k_, q1_, q2_⟩ := ex_ac h1_
    have w_ := pex_ok hn_ (pd_ok hA_) hp_ hk_ (Nat.zero_le _) q1_
    have w1_ : p_ < x1_.1 := w_.1
    have w2_ : x1_.1 ≤ n_ := w_.2.1
    by_cases g_ : i_ ≠ -1 ∧ h_tp x1_.2.1 ≠ A_.2.2.2.1 (40 * d_ + i_.toNat)
    · rw [if_pos g_] at h2_
      cases h2_
    · rw [if_neg g_] at h2_
      by_cases k44_ : lx_kd b_ n_ x1_.1 = 44
      · rw [if_pos k44_] at h2_
        by_cases z_ : p_a2 A_ d_ i_ = -1
        · rw [if_pos z_] at h2_
          cases h2_
        · rw [if_neg z_] at h2_
          obtain ⟨q7_, q8_, q9_⟩ := pb_inr h2_
          have a_ := p_ad_ok w2_ (by omega) q8_
          have y_ := ar_pl hn_ hA_ f_ _ _ q7_ x_ q9_ a_.2.2.1 a_.2.2.2
          exact ⟨by omega, y_.2⟩
      · rw [if_neg k44_] at h2_
        obtain ⟨a1_, a2_, a3_, a4_⟩ := ae_r h2_
        have a_ := p_ad_ok w2_ (by omega) a4_
        exact ⟨by omega, a_.2.2⟩
theorem us_tot {p_ : Nat} {r_ : pT} {c_ kk_ c0_ : List Int} {G_ : pGr} {R_ fc_ : Nat} {E_ : gE} {O_ : gO} {r1_ i1_ : Nat → Int} (hn_ : n_ ≤ 1280) (hA_ : a_ok b_ n_ A_ m_) (hB_ : a_ok b_ n_ B_ m_) (hx_ : a_ex A_ B_ m_) (hx'_ : a_ex r_.1 B_ m_) (hp_ : p_ ≤ n_) (hk0_ : lx_kd b_ n_ p_ ≠ 0) (e_ : p_us b_ n_ A_ N_ m_ c_ p_ = .inr r_) (hc_ : c_ = kk_ ++ c0_) (he_ : ev F_ I_ B_ X_ m_ s0_ kk_ = some ((G_, R_, fc_), E_, O_, [])) (ht_ : tst B_ I_ m_ (A_.1 m_) E_ O_) (hf_ : (fc_ : Int) + t_is i1_ B_ m_ (A_.1 m_) ≤ 201) (hnn_ : ∀ d_, 0 ≤ r1_ d_ ∧ 0 ≤ i1_ d_) (hX_ : ∀ d_, d_ < m_ → B_.2.2.1 (40 * m_ + A_.1 m_) = 5 → B_.2.2.2.2 (40 * m_ + A_.1 m_) = (d_ : Int) → ∀ G_ o_, oin B_ d_ (B_.1 d_) o_ → ∃ G'_ e'_, X_ d_ (G_, R_, fc_ + 1) o_ = some ((G'_, R_ + (r1_ d_).toNat, fc_ + 1 + (i1_ d_).toNat), e'_) ∧ ∀ o1_, o1_ < B_.1 d_ → B_.2.2.1 (40 * d_ + o1_) ≠ 5 → ((e'_ o1_).length : Int) = B_.2.2.2.1 (40 * d_ + o1_)) : ∃ kk'_ G'_ R'_ fc'_ O'_, r_.2.1 = kk'_ ++ c0_ ∧ ev F_ I_ B_ X_ m_ s0_ kk'_ = some ((G'_, R'_, fc'_), E_, O'_, []) ∧ tst B_ I_ m_ (r_.1.1 m_) E_ O'_ ∧ r_.1.1 m_ = A_.1 m_ + 1 ∧ (R'_ : Int) = R_ + t_rg r1_ B_ m_ (A_.1 m_) ∧ (fc'_ : Int) = fc_ + t_is i1_ B_ m_ (A_.1 m_) ∧ p_ < r_.2.2 ∧ r_.2.2 ≤ n_ ∧ lx_kd b_ n_ r_.2.2 ≠ -1 := by
  obtain ⟨q_, r9_, d_, u_, v_, x_, y_, h1_, h2_, h3_, h4_, h5_, h6_, h7_, h8_, h9_, h10_⟩ := us_r e_
  subst h10_
  have tx_ := te_ex hx'_
  have te1_ : (a_te A_ m_ q_ 5 0 (d_ : Int)).1 m_ = A_.1 m_ + 1 := te_f.1
  have s5_ : B_.2.2.1 (40 * m_ + A_.1 m_) = 5 := by
    rcases tx_.2.2.2 with z_ | z_
    · exact z_
    · omega
  have dd_ : B_.2.2.2.2 (40 * m_ + A_.1 m_) = (d_ : Int) := tx_.2.2.1
  have ti_ : t_is i1_ B_ m_ (A_.1 m_) = 1 + i1_ d_ := by unfold t_is; rw [if_pos s5_, dd_, Int.toNat_natCast]
  have tr_ : t_rg r1_ B_ m_ (A_.1 m_) = r1_ d_ := by unfold t_rg; rw [if_neg (by omega), if_pos s5_, dd_, Int.toNat_natCast]
  have nd_ := hnn_ d_
  obtain ⟨e3_, e4_⟩ := ht_.2.2.1 (A_.1 m_) (Nat.le_refl _) tx_.1 (by omega)
  have K40_ := (hB_.2 m_ (Nat.le_refl _)).1
  have p1_ := p_ad_ok hp_ hk0_ h1_
  obtain ⟨-, p2a, p2b⟩ := p_nn_ok h2_
  have p2_ := p_ad_ok p1_.2.2.1 (by omega) p2b
  have p3_ := p_ad_ok p2_.2.2.1 (by omega) h6_
  have p4_ := p_nd_ok (by decide) p3_.2.2.1 h7_
  have he1_ : ev F_ I_ B_ X_ m_ s0_ (cw 15 (A_.1 m_ : Int) 0 :: kk_) = some ((G_, R_, fc_ + 1), E_, up1 O_ (A_.1 m_) (some fun _ => []), []) := by
    rw [ev_c he_]
    refine ew_st (by decide) (by omega) ?_
    rw [Int.toNat_natCast]
    exact st15 tx_.1 e3_ e4_ (by omega)
  have ho0_ : oin B_ d_ 0 (fun _ => []) := ⟨fun s_ _ _ h_ => absurd h_ (Nat.not_lt_zero _), fun _ _ _ => rfl⟩
  obtain ⟨kk1_, G1_, o1_, w1_, w2_, w3_, w4_⟩ : ∃ kk1_ G1_ o1_, x_.1 = kk1_ ++ c0_ ∧ ev F_ I_ B_ X_ m_ s0_ kk1_ = some ((G1_, R_, fc_ + 1), E_, up1 O_ (A_.1 m_) (some o1_), []) ∧ oin B_ d_ (B_.1 d_) o1_ ∧ (v_ < x_.2 ∧ x_.2 ≤ n_ ∧ lx_kd b_ n_ x_.2 ≠ -1) := by
    unfold p_ua at h8_
    by_cases k41_ : lx_kd b_ n_ v_ = 41
    · rw [if_pos k41_] at h8_
      obtain ⟨a1_, a2_, a3_, a4_⟩ := ae_r h8_
      have a5_ : p_ni A_ d_ 0 = -1 := by
        by_cases z_ : p_ni A_ d_ 0 = -1
        · exact z_
        · rw [decide_eq_true z_] at a1_
          cases a1_
      have a6_ := p_ad_ok p4_.2.2.1 (by omega) a4_
      refine ⟨_, G_, _, by rw [a3_, hc_]; rfl, he1_, ⟨fun s_ hs_ h0_ _ => ?_, fun _ _ _ => rfl⟩, a6_.2⟩
      have w_ := hx_.2.2 d_ s_ (by omega) (by rw [hx_.2.1 d_ h5_]; exact hs_)
      exfalso
      refine ni_n a5_ s_ (by rw [hx_.2.1 d_ h5_]; exact hs_) (Nat.zero_le _) ?_
      rcases w_.2.2.2 with z_ | z_ <;> omega
    · rw [if_neg k41_] at h8_
      obtain ⟨kk1_, G1_, o1_, w1_, w2_, w3_⟩ := ar_tot (F_ := F_) (I_ := I_) (X_ := X_) (s0_ := s0_) (c0_ := c0_) hn_ hA_ hB_ hx_ ht_.1 rfl tx_.1 h5_ _ _ _ (cw 15 (A_.1 m_ : Int) 0 :: kk_) v_ x_ G_ _ 0 h8_ rfl p4_.2.2.1 p4_.2.2.2 (by rw [hc_]; rfl) he1_ ho0_
      exact ⟨kk1_, G1_, o1_, w1_, w2_, w3_, ar_pl hn_ hA_ (n_ + 1) _ _ v_ x_ h8_ p4_.2.2.1 p4_.2.2.2⟩
  have p5_ := p_nd_ok (by decide) w4_.2.1 h9_
  obtain ⟨G2_, e2_, x1_, x2_⟩ := hX_ d_ h5_ s5_ dd_ G1_ o1_ w3_
  refine ⟨cw 17 (A_.1 m_ : Int) (d_ : Int) :: kk1_, G2_, R_ + (r1_ d_).toNat, fc_ + 1 + (i1_ d_).toNat, up1 O_ (A_.1 m_) (some e2_), by show cw 17 _ _ :: x_.1 = _; rw [w1_]; rfl, ?_, ?_, te1_, by rw [tr_]; push_cast; omega, by rw [ti_]; push_cast; omega, by show p_ < y_; omega, p5_.2.2.1, p5_.2.2.2⟩
  · rw [ev_c w2_]
    obtain ⟨c1_, c2_, c3_⟩ := cw_d (k_ := 17) (a_ := (A_.1 m_ : Int)) (d_ := (d_ : Int)) (by decide) (by omega)
    unfold ew
    rw [c1_, c2_, c3_, if_pos rfl]
    simp only [Int.toNat_natCast]
    rw [show up1 O_ (A_.1 m_) (some o1_) (A_.1 m_) = some o1_ from if_pos rfl]
    simp only []
    rw [if_pos ⟨tx_.1, by omega, by omega⟩, x1_]
    show some (_, E_, up1 (up1 O_ (A_.1 m_) (some o1_)) (A_.1 m_) (some e2_), []) = _
    rw [up1_2]
  · show tst B_ I_ m_ ((a_te A_ m_ q_ 5 0 (d_ : Int)).1 m_) E_ _
    rw [te1_]
    refine tst_us ht_ tx_.1 s5_ ?_
    rw [dd_, Int.toNat_natCast]
    exact x2_
end IT3_
end
/-! 99.zd7 -/
section
/-! every right item can be worked out; written by wip/p55/gen/vg -/

/-! modules can_ be_ worked out_ -/
theorem su_el {f_ : Nat → Int} : ∀ {k_ : Nat}, (∀ j_, j_ < k_ → 0 ≤ f_ j_) → (0 ≤ su f_ k_) ∧ (∀ j_, j_ < k_ → f_ j_ ≤ su f_ k_) ∧ ∀ j_, j_ ≤ k_ → 0 ≤ su f_ j_ ∧ su f_ j_ ≤ su f_ k_
  | 0, _ => ⟨Int.le_refl _, fun j_ hj_ => absurd hj_ (Nat.not_lt_zero _), fun j_ hj_ => by
    have : j_ = 0 := by omega
    subst this
    exact ⟨Int.le_refl _, Int.le_refl _⟩⟩
  | k_ + 1, h_ => by
    have ih_ := su_el (f_ := f_) (k_ := k_) (fun j_ hj_ => h_ j_ (by omega))
    have hk_ := h_ k_ (by omega)
    have e_ : su f_ (k_ + 1) = su f_ k_ + f_ k_ := rfl
    refine ⟨by omega, fun j_ hj_ => ?_, fun j_ hj_ => ?_⟩
    · by_cases z_ : j_ = k_
      · rw [z_]; omega
      · have := ih_.2.1 j_ (by omega)
        omega
    · by_cases z_ : j_ = k_ + 1
      · rw [z_]; omega
      · have := ih_.2.2 j_ (by omega)
        omega
theorem r_bt_c {I_ R_ w_ : Nat} (h_ : 1 ≤ w_) : ∃ y_, r_bt I_ R_ w_ = 2 * ((1 + I_ + R_ : Nat) : Int) :: y_ := by
  cases e_ : r_bt I_ R_ w_ with
  | nil =>
    have := congrArg List.length e_
    rw [r_bt_l] at this
    simp at this
    omega
  | cons z_ y_ =>
    refine ⟨y_, ?_⟩
    have q_ : (r_bt I_ R_ w_)[0]? = some z_ := by rw [e_]; rfl
    unfold r_bt at q_
    rw [List.getElem?_map, List.getElem?_range (by omega)] at q_
    have q_ := Option.some.inj q_
    rw [← q_]
    simp
section IT4_
variable {b_ : Nat → Int} {n_ F_ I_ m_ : Nat} {A_ B_ : pA} {N_ : Nat → Nat} {X_ : Nat → gQ → gE → Option (gQ × gE)} {s0_ : gS}
theorem rb_pl {w_ : Int} {p_ : Nat} {z_ : Nat × Int} (hp_ : p_ ≤ n_) (hk_ : lx_kd b_ n_ p_ ≠ -1) (h_ : p_rb b_ n_ w_ p_ = .inr z_) : p_ ≤ z_.1 ∧ z_.1 ≤ n_ ∧ lx_kd b_ n_ z_.1 ≠ -1 := by
  unfold p_rb at h_
  by_cases g_ : lx_kd b_ n_ p_ = 61
  · rw [if_pos g_] at h_
    obtain ⟨q_, h1_, h2_⟩ := pb_inr h_
    obtain ⟨x_, h3_, h4_⟩ := pb_inr h2_
    obtain ⟨r_, h5_, h6_⟩ := pb_inr h4_
    cases h6_
    have a1_ := p_ad_ok hp_ (by omega) h1_
    have kq_ : lx_kd b_ n_ q_ = 2 := (p_nu_ok h3_).1
    have a2_ := p_ad_ok a1_.2.2.1 (by omega) h5_
    exact ⟨by show p_ ≤ r_; omega, a2_.2.2⟩
  · rw [if_neg g_] at h_
    cases h_
    exact ⟨Nat.le_refl _, hp_, hk_⟩
theorem it_tot {p_ : Nat} {r_ : pT} {c_ kk_ c0_ : List Int} {G_ : pGr} {R_ fc_ : Nat} {E_ : gE} {O_ : gO} {r1_ i1_ : Nat → Int} (hn_ : n_ ≤ 1280) (hA_ : a_ok b_ n_ A_ m_) (hB_ : a_ok b_ n_ B_ m_) (hx_ : a_ex A_ B_ m_) (hx'_ : a_ex r_.1 B_ m_) (hp_ : p_ ≤ n_) (hkd_ : lx_kd b_ n_ p_ ≠ -1) (e_ : p_it b_ n_ A_ N_ m_ c_ p_ = some (.inr r_)) (hc_ : c_ = kk_ ++ c0_) (he_ : ev F_ I_ B_ X_ m_ s0_ kk_ = some ((G_, R_, fc_), E_, O_, [])) (ht_ : tst B_ I_ m_ (A_.1 m_) E_ O_) (hR_ : A_.1 m_ < B_.1 m_ → (R_ : Int) + t_rg r1_ B_ m_ (A_.1 m_) ≤ 6) (hf_ : A_.1 m_ < B_.1 m_ → (fc_ : Int) + t_is i1_ B_ m_ (A_.1 m_) ≤ 201) (hnn_ : ∀ d_, 0 ≤ r1_ d_ ∧ 0 ≤ i1_ d_) (hX_ : A_.1 m_ < B_.1 m_ → ∀ d_, d_ < m_ → B_.2.2.1 (40 * m_ + A_.1 m_) = 5 → B_.2.2.2.2 (40 * m_ + A_.1 m_) = (d_ : Int) → ∀ G_ o_, oin B_ d_ (B_.1 d_) o_ → ∃ G'_ e'_, X_ d_ (G_, R_, fc_ + 1) o_ = some ((G'_, R_ + (r1_ d_).toNat, fc_ + 1 + (i1_ d_).toNat), e'_) ∧ ∀ o1_, o1_ < B_.1 d_ → B_.2.2.1 (40 * d_ + o1_) ≠ 5 → ((e'_ o1_).length : Int) = B_.2.2.2.1 (40 * d_ + o1_)) : ∃ kk'_ G'_ R'_ fc'_ E'_ O'_, r_.2.1 = kk'_ ++ c0_ ∧ ev F_ I_ B_ X_ m_ s0_ kk'_ = some ((G'_, R'_, fc'_), E'_, O'_, []) ∧ tst B_ I_ m_ (r_.1.1 m_) E'_ O'_ ∧ ((r_.1.1 m_ = A_.1 m_ ∧ R'_ = R_ ∧ fc'_ = fc_) ∨ (r_.1.1 m_ = A_.1 m_ + 1 ∧ A_.1 m_ < B_.1 m_ ∧ (R'_ : Int) = R_ + t_rg r1_ B_ m_ (A_.1 m_) ∧ (fc'_ : Int) = fc_ + t_is i1_ B_ m_ (A_.1 m_))) ∧ p_ < r_.2.2 ∧ r_.2.2 ≤ n_ ∧ lx_kd b_ n_ r_.2.2 ≠ -1 := by
  have K40_ := (hB_.2 m_ (Nat.le_refl _)).1
  unfold p_it at e_
  by_cases k4_ : lx_kd b_ n_ p_ = 4
  · rw [if_pos k4_] at e_
    obtain ⟨q_, r9_, u_, y_, h1_, h2_, h3_, h4_, h5_⟩ := in_r (Option.some.inj e_)
    subst h5_
    have tx_ := te_ex hx'_
    have te1_ : (a_te A_ m_ q_ 0 u_.2 0).1 m_ = A_.1 m_ + 1 := te_f.1
    have s5_ : B_.2.2.1 (40 * m_ + A_.1 m_) = 0 := by
      rcases tx_.2.2.2 with z_ | z_
      · exact z_
      · omega
    have p1_ := p_ad_ok hp_ (by omega) h1_
    obtain ⟨-, p2a, p2b⟩ := p_nn_ok h2_
    have p2_ := p_ad_ok p1_.2.2.1 (by omega) p2b
    have p3_ := p_wi_ok p2_.2.2.1 p2_.2.2.2 h3_
    have p4_ := p_nd_ok (by decide) p3_.2.1 h4_
    refine ⟨kk_, G_, R_, fc_, E_, O_, hc_, he_, ?_, Or.inr ⟨te1_, tx_.1, ?_, ?_⟩, by show p_ < y_; omega, p4_.2.2.1, p4_.2.2.2⟩
    · show tst B_ I_ m_ ((a_te A_ m_ q_ 0 u_.2 0).1 m_) E_ O_
      rw [te1_]
      exact tst_in ht_ tx_.1 s5_
    · unfold t_rg
      rw [if_neg (by omega), if_neg (by omega)]
      omega
    · unfold t_is
      rw [if_neg (by omega)]
      omega
  · rw [if_neg k4_] at e_
    have va_ : ∀ so_ : Int, (so_ = 1 ∨ so_ = 2) → lx_kd b_ n_ p_ ≠ 0 → p_va b_ n_ A_ m_ so_ c_ p_ = .inr r_ → ∃ kk'_ G'_ R'_ fc'_ E'_ O'_, r_.2.1 = kk'_ ++ c0_ ∧ ev F_ I_ B_ X_ m_ s0_ kk'_ = some ((G'_, R'_, fc'_), E'_, O'_, []) ∧ tst B_ I_ m_ (r_.1.1 m_) E'_ O'_ ∧ ((r_.1.1 m_ = A_.1 m_ ∧ R'_ = R_ ∧ fc'_ = fc_) ∨ (r_.1.1 m_ = A_.1 m_ + 1 ∧ A_.1 m_ < B_.1 m_ ∧ (R'_ : Int) = R_ + t_rg r1_ B_ m_ (A_.1 m_) ∧ (fc'_ : Int) = fc_ + t_is i1_ B_ m_ (A_.1 m_))) ∧ p_ < r_.2.2 ∧ r_.2.2 ≤ n_ ∧ lx_kd b_ n_ r_.2.2 ≠ -1 := by
      intro so_ hso_ k0_ e_
      obtain ⟨q_, r9_, u_, v_, x_, y_, h1_, h2_, h3_, h4_, h5_, h6_, h7_, h8_⟩ := va_r e_
      subst h8_
      have tx_ := te_ex hx'_
      have te1_ : (a_te A_ m_ q_ so_ u_.2 0).1 m_ = A_.1 m_ + 1 := te_f.1
      have s5_ : B_.2.2.1 (40 * m_ + A_.1 m_) = so_ := by
        rcases tx_.2.2.2 with z_ | z_
        · exact z_
        · omega
      have p1_ := p_ad_ok hp_ k0_ h1_
      obtain ⟨-, p2a, p2b⟩ := p_nn_ok h2_
      have p2_ := p_ad_ok p1_.2.2.1 (by omega) p2b
      have p3_ := p_wi_ok p2_.2.2.1 p2_.2.2.2 h3_
      have p4_ := p_nd_ok (by decide) p3_.2.1 h4_
      obtain ⟨k_, G1_, w_, q1_, q2_, q3_, q4_, q5_, q6_⟩ := xd_tot (F_ := F_) (I_ := I_) (X_ := X_) hn_ (pd_ok hA_) hA_ hB_ hx_ ht_.1 p4_.2.2.1 p4_.2.2.2 hc_ he_ h5_
      have p5_ : v_ < x_.1 ∧ x_.1 ≤ n_ ∧ lx_kd b_ n_ x_.1 ≠ -1 := by
        have z_ := pex_ok hn_ (pd_ok hA_) p4_.2.2.1 p4_.2.2.2 (Nat.zero_le _) q1_
        exact ⟨z_.1, z_.2.1, z_.2.2.1⟩
      have p6_ := p_nd_ok (by decide) p5_.2.1 h7_
      obtain ⟨e3_, e4_⟩ := ht_.2.2.1 (A_.1 m_) (Nat.le_refl _) tx_.1 (by omega)
      refine ⟨cw 12 (A_.1 m_ : Int) 0 :: (k_ ++ kk_), G1_, R_, fc_, up1 E_ (A_.1 m_) w_, O_, by show cw 12 _ _ :: x_.2.2 = _; rw [q2_]; rfl, ?_, ?_, Or.inr ⟨te1_, tx_.1, ?_, ?_⟩, by show p_ < y_; omega, p6_.2.2.1, p6_.2.2.2⟩
      · rw [ev_c q4_]
        refine ew_st (by decide) (by omega) ?_
        rw [Int.toNat_natCast]
        exact st12 tx_.1 e4_ q6_.2
      · show tst B_ I_ m_ ((a_te A_ m_ q_ so_ u_.2 0).1 m_) _ O_
        rw [te1_]
        exact tst_up ht_ tx_.1 (by omega) (by rw [← q5_, h6_]; exact tx_.2.1.symm) (fun z_ => by omega)
      · unfold t_rg
        rw [if_neg (by omega), if_neg (by omega)]
        omega
      · unfold t_is
        rw [if_neg (by omega)]
        omega
    by_cases k5_ : lx_kd b_ n_ p_ = 5
    · rw [if_pos k5_] at e_
      exact va_ 1 (Or.inl rfl) (by omega) (Option.some.inj e_)
    · rw [if_neg k5_] at e_
      by_cases k6_ : lx_kd b_ n_ p_ = 6
      · rw [if_pos k6_] at e_
        exact va_ 2 (Or.inr rfl) (by omega) (Option.some.inj e_)
      · rw [if_neg k6_] at e_
        by_cases k7_ : lx_kd b_ n_ p_ = 7
        · rw [if_pos k7_] at e_
          obtain ⟨q_, r9_, u_, z_, y_, h1_, h2_, h3_, h4_, h5_, h6_⟩ := re_r (Option.some.inj e_)
          subst h6_
          have tx_ := te_ex hx'_
          have te1_ : (a_te A_ m_ q_ 3 u_.2 z_.2).1 m_ = A_.1 m_ + 1 := te_f.1
          have s5_ : B_.2.2.1 (40 * m_ + A_.1 m_) = 3 ∨ B_.2.2.1 (40 * m_ + A_.1 m_) = 4 := by
            rcases tx_.2.2.2 with z_ | z_
            · exact Or.inl z_
            · exact Or.inr z_.2
          have p1_ := p_ad_ok hp_ (by omega) h1_
          obtain ⟨-, p2a, p2b⟩ := p_nn_ok h2_
          have p2_ := p_ad_ok p1_.2.2.1 (by omega) p2b
          have p3_ := p_wi_ok p2_.2.2.1 p2_.2.2.2 h3_
          have p4_ := rb_pl p3_.2.1 p3_.2.2.1 h4_
          have p5_ := p_nd_ok (by decide) p4_.2.1 h5_
          obtain ⟨e3_, e4_⟩ := ht_.2.2.1 (A_.1 m_) (Nat.le_refl _) tx_.1 (by omega)
          have tr_ : t_rg r1_ B_ m_ (A_.1 m_) = B_.2.2.2.1 (40 * m_ + A_.1 m_) := by unfold t_rg; rw [if_pos s5_]
          have hR1_ := hR_ tx_.1
          rw [tr_] at hR1_
          have w8_ : 1 ≤ B_.2.2.2.1 (40 * m_ + A_.1 m_) ∧ B_.2.2.2.1 (40 * m_ + A_.1 m_) ≤ 8 := by rw [tx_.2.1]; exact p3_.2.2.2
          refine ⟨cw 13 (A_.1 m_ : Int) 0 :: kk_, G_, R_ + (B_.2.2.2.1 (40 * m_ + A_.1 m_)).toNat, fc_, up1 E_ (A_.1 m_) (r_bt I_ R_ (B_.2.2.2.1 (40 * m_ + A_.1 m_)).toNat), O_, by show cw 13 _ _ :: c_ = _; rw [hc_]; rfl, ?_, ?_, Or.inr ⟨te1_, tx_.1, ?_, ?_⟩, by show p_ < y_; omega, p5_.2.2.1, p5_.2.2.2⟩
          · rw [ev_c he_]
            refine ew_st (by decide) (by omega) ?_
            rw [Int.toNat_natCast]
            exact st13 tx_.1 e4_ w8_ (by omega)
          · show tst B_ I_ m_ ((a_te A_ m_ q_ 3 u_.2 z_.2).1 m_) _ O_
            rw [te1_]
            exact tst_up ht_ tx_.1 (by omega) (by rw [r_bt_l]; omega) (fun _ => ⟨R_, rfl, by omega⟩)
          · rw [tr_]
            push_cast
            omega
          · unfold t_is
            rw [if_neg (by omega)]
            omega
        · rw [if_neg k7_] at e_
          by_cases k8_ : lx_kd b_ n_ p_ = 8
          · rw [if_pos k8_] at e_
            have e_ := Option.some.inj e_
            obtain ⟨q_, r9_, d_, u_, v_, x_, y_, -, -, -, -, -, -, -, -, -, h10_⟩ := us_r e_
            have tx_ : A_.1 m_ < B_.1 m_ := by
              have hx2_ := hx'_
              rw [h10_] at hx2_
              exact (te_ex hx2_).1
            obtain ⟨kk'_, G'_, R'_, fc'_, O'_, w1_, w2_, w3_, w4_, w5_, w6_, w7_⟩ := us_tot (r1_ := r1_) hn_ hA_ hB_ hx_ hx'_ hp_ (by omega) e_ hc_ he_ ht_ (hf_ tx_) hnn_ (hX_ tx_)
            exact ⟨kk'_, G'_, R'_, fc'_, E_, O'_, w1_, w2_, w3_, Or.inr ⟨w4_, tx_, w5_, w6_⟩, w7_⟩
          · rw [if_neg k8_] at e_
            by_cases k1_ : lx_kd b_ n_ p_ = 1
            · rw [if_pos k1_] at e_
              obtain ⟨s_, q_, r9_, x_, y_, h1_, h2_, h3_, h4_, h5_, h6_, h7_, h8_, h9_⟩ := ne_r (Option.some.inj e_)
              subst h9_
              have p1_ := p_ad_ok hp_ (by omega) h4_
              have p2_ := p_nd_ok (by decide) p1_.2.2.1 h5_
              obtain ⟨k_, G1_, w_, q1_, q2_, q3_, q4_, q5_, q6_⟩ := xd_tot (F_ := F_) (I_ := I_) (X_ := X_) hn_ (pd_ok hA_) hA_ hB_ hx_ ht_.1 p2_.2.2.1 p2_.2.2.2 hc_ he_ h6_
              have p5_ : r9_ < x_.1 ∧ x_.1 ≤ n_ ∧ lx_kd b_ n_ x_.1 ≠ -1 := by
                have z_ := pex_ok hn_ (pd_ok hA_) p2_.2.2.1 p2_.2.2.2 (Nat.zero_le _) q1_
                exact ⟨z_.1, z_.2.1, z_.2.2.1⟩
              have p6_ := p_nd_ok (by decide) p5_.2.1 h8_
              have ex_ := hx_.2.2 m_ s_ (Nat.le_refl _) h2_
              have s34_ : B_.2.2.1 (40 * m_ + s_) = 3 ∨ B_.2.2.1 (40 * m_ + s_) = 4 := by
                rcases ex_.2.2.2 with z_ | z_ <;> omega
              obtain ⟨rb, g1_, g2_⟩ := ht_.2.1 s_ h2_ s34_
              have sB_ : s_ < B_.1 m_ := by have := hx_.1; omega
              have ao_ := (hB_.2 m_ (Nat.le_refl _)).2 s_ sB_
              have w1_ := ao_.2.2.2.1 (by omega)
              obtain ⟨yy_, hyy_⟩ := r_bt_c (I_ := I_) (R_ := rb) (w_ := (B_.2.2.2.1 (40 * m_ + s_)).toNat) (by omega)
              have wl : (w_.length : Int) = B_.2.2.2.1 (40 * m_ + s_) := by rw [← q5_, h7_]; exact ex_.2.1
              refine ⟨cw 14 (s_ : Int) 0 :: (k_ ++ kk_), G1_, R_, fc_, E_, O_, by show cw 14 _ _ :: x_.2.2 = _; rw [q2_]; rfl, ?_, ht_, Or.inl ⟨rfl, rfl, rfl⟩, by show p_ < y_; omega, p6_.2.2.1, p6_.2.2.2⟩
              rw [ev_c q4_]
              refine ew_st (by decide) (by omega) ?_
              rw [Int.toNat_natCast]
              exact st14 sB_ (g1_.trans hyy_) (by push_cast; omega) (by push_cast; omega)
            · rw [if_neg k1_] at e_
              cases e_
end IT4_
end
/-! 99.zd8 -/
section
/-! modules can be worked out; written by wip/p55/gen/vg -/

/-! a_ module's items, and what it_ is_ worked out_ to_ -/
def mch (b_ : Nat → Int) (n_ : Nat) (B_ : pA) (N_ : Nat → Nat) (m_ : Nat) : Nat → pA → List Int → Nat → List Int → Prop
  | 0, _, _, _, _ => False
  | f_ + 1, A_, c_, p_, ce_ => (a_ok b_ n_ A_ m_ ∧ a_ex A_ B_ m_ ∧ p_ ≤ n_ ∧ lx_kd b_ n_ p_ ≠ -1) ∧ ((lx_kd b_ n_ p_ = 125 ∧ A_.1 m_ = B_.1 m_ ∧ ce_ = c_) ∨ ∃ r_, p_it b_ n_ A_ N_ m_ c_ p_ = some (.inr r_) ∧ mch b_ n_ B_ N_ m_ f_ r_.1 r_.2.1 r_.2.2 ce_)
theorem mch_ex {b_ : Nat → Int} {n_ m_ f_ : Nat} {A_ B_ : pA} {N_ : Nat → Nat} {c_ ce_ : List Int} {p_ : Nat} (h_ : mch b_ n_ B_ N_ m_ f_ A_ c_ p_ ce_) : a_ok b_ n_ A_ m_ ∧ a_ex A_ B_ m_ ∧ p_ ≤ n_ ∧ lx_kd b_ n_ p_ ≠ -1 := by
  cases f_ with
  | zero => exact h_.elim
  | succ f_ => exact h_.1
theorem mod_tot {b_ : Nat → Int} {n_ F_ I_ m_ : Nat} {B_ : pA} {N_ : Nat → Nat} {X_ : Nat → gQ → gE → Option (gQ × gE)} {s0_ : gS} {r1_ i1_ : Nat → Int} {R0_ fc0_ : Nat} {c0_ : List Int} (hn_ : n_ ≤ 1280) (hB_ : a_ok b_ n_ B_ m_) (hnn_ : ∀ d_, 0 ≤ r1_ d_ ∧ 0 ≤ i1_ d_) (hlim : ∀ K_, K_ ≤ B_.1 m_ → (R0_ : Int) + su (t_rg r1_ B_ m_) K_ ≤ 6 ∧ (fc0_ : Int) + su (t_is i1_ B_ m_) K_ ≤ 201) (hX_ : ∀ d_ K_ : Nat, d_ < m_ → K_ < B_.1 m_ → B_.2.2.1 (40 * m_ + K_) = 5 → B_.2.2.2.2 (40 * m_ + K_) = (d_ : Int) → ∀ (G_ : pGr) (R_ fc_ : Nat) (o_ : Nat → List Int), (R_ : Int) + r1_ d_ ≤ 6 → (fc_ : Int) + i1_ d_ ≤ 201 → oin B_ d_ (B_.1 d_) o_ → ∃ G'_ e'_, X_ d_ (G_, R_, fc_) o_ = some ((G'_, R_ + (r1_ d_).toNat, fc_ + (i1_ d_).toNat), e'_) ∧ ∀ o1_, o1_ < B_.1 d_ → B_.2.2.1 (40 * d_ + o1_) ≠ 5 → ((e'_ o1_).length : Int) = B_.2.2.2.1 (40 * d_ + o1_)) : ∀ (f_ : Nat) (A_ : pA) (c_ : List Int) (p_ : Nat) (ce_ kk_ : List Int) (G_ : pGr) (R_ fc_ : Nat) (E_ : gE) (O_ : gO), mch b_ n_ B_ N_ m_ f_ A_ c_ p_ ce_ → c_ = kk_ ++ c0_ → ev F_ I_ B_ X_ m_ s0_ kk_ = some ((G_, R_, fc_), E_, O_, []) → tst B_ I_ m_ (A_.1 m_) E_ O_ → (R_ : Int) = R0_ + su (t_rg r1_ B_ m_) (A_.1 m_) → (fc_ : Int) = fc0_ + su (t_is i1_ B_ m_) (A_.1 m_) → ∃ kk'_ G'_ R'_ fc'_ E'_ O'_, ce_ = kk'_ ++ c0_ ∧ ev F_ I_ B_ X_ m_ s0_ kk'_ = some ((G'_, R'_, fc'_), E'_, O'_, []) ∧ tst B_ I_ m_ (B_.1 m_) E'_ O'_ ∧ (R'_ : Int) = R0_ + su (t_rg r1_ B_ m_) (B_.1 m_) ∧ (fc'_ : Int) = fc0_ + su (t_is i1_ B_ m_) (B_.1 m_)
  | 0, _, _, _, _, _, _, _, _, _, _, h_, _, _, _, _, _ => h_.elim
  | f_ + 1, A_, c_, p_, ce_, kk_, G_, R_, fc_, E_, O_, h_, hc_, he_, ht_, hR_, hf_ => by
    obtain ⟨⟨hA_, hx_, hp_, hk_⟩, h2_⟩ := h_
    rcases h2_ with ⟨z1_, z2_, z3_⟩ | ⟨r_, z1_, z2_⟩
    · rw [z3_]
      rw [z2_] at ht_ hR_ hf_
      exact ⟨kk_, G_, R_, fc_, E_, O_, hc_, he_, ht_, hR_, hf_⟩
    · have hx'_ := (mch_ex z2_).2.1
      have lim1_ : ∀ K_, K_ < B_.1 m_ → su (t_rg r1_ B_ m_) (K_ + 1) = su (t_rg r1_ B_ m_) K_ + t_rg r1_ B_ m_ K_ ∧ su (t_is i1_ B_ m_) (K_ + 1) = su (t_is i1_ B_ m_) K_ + t_is i1_ B_ m_ K_ := fun K_ _ => ⟨rfl, rfl⟩
      obtain ⟨kk'_, G'_, R'_, fc'_, E'_, O'_, w1_, w2_, w3_, w4_, w5_⟩ := it_tot (r1_ := r1_) (i1_ := i1_) hn_ hA_ hB_ hx_ hx'_ hp_ hk_ z1_ hc_ he_ ht_ (fun z_ => by
        have q_ := hlim (A_.1 m_ + 1) (by omega)
        have q2_ := lim1_ (A_.1 m_) z_
        omega) (fun z_ => by
        have q_ := hlim (A_.1 m_ + 1) (by omega)
        have q2_ := lim1_ (A_.1 m_) z_
        omega) hnn_ (fun z_ d_ hd_ h5_ hdd_ G_ o_ ho_ => by
        have q_ := hlim (A_.1 m_ + 1) (by omega)
        have q2_ := lim1_ (A_.1 m_) z_
        have ti_ : t_is i1_ B_ m_ (A_.1 m_) = 1 + i1_ d_ := by unfold t_is; rw [if_pos h5_, hdd_, Int.toNat_natCast]
        have tr_ : t_rg r1_ B_ m_ (A_.1 m_) = r1_ d_ := by unfold t_rg; rw [if_neg (by omega), if_pos h5_, hdd_, Int.toNat_natCast]
        exact hX_ d_ (A_.1 m_) hd_ z_ h5_ hdd_ G_ R_ (fc_ + 1) o_ (by omega) (by push_cast; omega) ho_)
      rcases w4_ with ⟨y1_, y2_, y3_⟩ | ⟨y1_, y2_, y3_, y4_⟩
      · exact mod_tot hn_ hB_ hnn_ hlim hX_ f_ r_.1 r_.2.1 r_.2.2 ce_ kk'_ G'_ R'_ fc'_ E'_ O'_ z2_ w1_ w2_ w3_ (by rw [y1_, y2_]; exact hR_) (by rw [y1_, y3_]; exact hf_)
      · have q2_ := lim1_ (A_.1 m_) y2_
        exact mod_tot hn_ hB_ hnn_ hlim hX_ f_ r_.1 r_.2.1 r_.2.2 ce_ kk'_ G'_ R'_ fc'_ E'_ O'_ z2_ w1_ w2_ w3_ (by rw [y1_]; omega) (by rw [y1_]; omega)
/-! more fuel gives the_ same -/
theorem ew_mo {F_ I_ : Nat} {A_ : pA} {X_ Y_ : Nat → gQ → gE → Option (gQ × gE)} {m_ : Nat} {w_ : Int} {s_ r_ : gS} (hXY_ : ∀ d_ q_ e_ z_, X_ d_ q_ e_ = some z_ → Y_ d_ q_ e_ = some z_) (h_ : ew F_ I_ A_ X_ m_ w_ s_ = some r_) : ew F_ I_ A_ Y_ m_ w_ s_ = some r_ := by
  by_cases h17_ : w_ % 32 = 17
  · obtain ⟨o_, z_, h1_, h2_, h3_, h4_, h5_, h6_, h7_⟩ := ew17 h_ h17_
    have h8_ := hXY_ _ _ _ _ h6_
    unfold ew
    rw [if_pos h17_, h1_, h2_]
    simp only []
    rw [if_pos ⟨h3_, h4_, h5_⟩, h8_, h7_]
  · unfold ew at h_ ⊢
    rw [if_neg h17_] at h_ ⊢
    exact h_
theorem ec_mo {F_ I_ : Nat} {A_ : pA} {X_ Y_ : Nat → gQ → gE → Option (gQ × gE)} {m_ : Nat} (hXY_ : ∀ d_ q_ e_ z_, X_ d_ q_ e_ = some z_ → Y_ d_ q_ e_ = some z_) : ∀ (c_ : List Int) (s_ r_ : gS), ec F_ I_ A_ X_ m_ c_ s_ = some r_ → ec F_ I_ A_ Y_ m_ c_ s_ = some r_
  | [], s_, r_, h_ => h_
  | w_ :: c_, s_, r_, h_ => by
    rw [ec] at h_ ⊢
    split at h_
    · rename_i s1_ e_
      rw [ew_mo hXY_ e_]
      exact ec_mo hXY_ c_ s1_ r_ h_
    · cases h_
theorem exm_mo {F_ I_ : Nat} {A_ : pA} {C_ : Nat → List Int} : ∀ (f_ d_ : Nat) (q_ : gQ) (e_ : gE) (z_ : gQ × gE), exm F_ I_ A_ C_ f_ d_ q_ e_ = some z_ → exm F_ I_ A_ C_ (f_ + 1) d_ q_ e_ = some z_
  | 0, _, _, _, _, h_ => by cases h_
  | f_ + 1, d_, q_, e_, z_, h_ => by
    rw [exm] at h_ ⊢
    split at h_
    · rename_i s_ e1_
      rw [ec_mo (fun d_ q_ e_ z_ => exm_mo f_ d_ q_ e_ z_) _ _ _ e1_]
      exact h_
    · cases h_
/-- every module can_ be_ worked out_ -/
theorem exm_tot {b_ : Nat → Int} {n_ F_ I_ M_ : Nat} {B_ : pA} {N_ : Nat → Nat} {C_ : Nat → List Int} {r1_ i1_ : Nat → Int} (hn_ : n_ ≤ 1280) (hB_ : ∀ m_, m_ < M_ → a_ok b_ n_ B_ m_) (hnn_ : ∀ d_, 0 ≤ r1_ d_ ∧ 0 ≤ i1_ d_) (hs_ : ∀ m_, m_ < M_ → r1_ m_ = mc (su (t_rg r1_ B_ m_) (B_.1 m_)) ∧ i1_ m_ = mc (su (t_is i1_ B_ m_) (B_.1 m_))) (hC_ : ∀ m_, m_ < M_ → ∃ f_ A_ c0_ u_ ce_, mch b_ n_ B_ N_ m_ f_ A_ c0_ u_ ce_ ∧ A_.1 m_ = 0 ∧ ce_ = (C_ m_).reverse ++ c0_) : ∀ (k_ m_ : Nat), m_ < k_ → m_ < M_ → r1_ m_ ≤ 6 → i1_ m_ ≤ 200 → ∀ (f_ : Nat) (G_ : pGr) (R_ fc_ : Nat) (e_ : gE), m_ < f_ → (R_ : Int) + r1_ m_ ≤ 6 → (fc_ : Int) + i1_ m_ ≤ 201 → oin B_ m_ (B_.1 m_) e_ → ∃ G'_ e'_, exm F_ I_ B_ C_ f_ m_ (G_, R_, fc_) e_ = some ((G'_, R_ + (r1_ m_).toNat, fc_ + (i1_ m_).toNat), e'_) ∧ ∀ s_, s_ < B_.1 m_ → B_.2.2.1 (40 * m_ + s_) ≠ 5 → ((e'_ s_).length : Int) = B_.2.2.2.1 (40 * m_ + s_)
  | 0, m_, hk_, _, _, _ => absurd hk_ (Nat.not_lt_zero _)
  | k_ + 1, m_, hk_, hM_, h6_, h200_ => by
    intro f_ G_ R_ fc_ e_ hf_ hR_ hfc_ ho_
    obtain ⟨g_, rfl⟩ : ∃ g_, f_ = g_ + 1 := ⟨f_ - 1, by omega⟩
    have hm_ := hs_ m_ hM_
    have bm_ := hB_ m_ hM_
    have am_ := bm_.2 m_ (Nat.le_refl _)
    have nr : ∀ j_, j_ < B_.1 m_ → 0 ≤ t_rg r1_ B_ m_ j_ := by
      intro j_ hj_
      unfold t_rg
      split
      · exact (am_.2 j_ hj_).2.2.1.1
      · split
        · exact (hnn_ _).1
        · exact Int.le_refl _
    have ni_ : ∀ j_, j_ < B_.1 m_ → 0 ≤ t_is i1_ B_ m_ j_ := by
      intro j_ hj_
      unfold t_is
      split
      · have := (hnn_ (B_.2.2.2.2 (40 * m_ + j_)).toNat).2
        omega
      · exact Int.le_refl _
    have er := su_el nr
    have ei_ := su_el ni_
    have xr : su (t_rg r1_ B_ m_) (B_.1 m_) = r1_ m_ := by
      have q_ := hm_.1
      unfold mc at q_
      split at q_ <;> omega
    have xi_ : su (t_is i1_ B_ m_) (B_.1 m_) = i1_ m_ := by
      have q_ := hm_.2
      unfold mc at q_
      split at q_ <;> omega
    obtain ⟨f1_, A_, c0_, u_, ce_, c1_, c2_, c3_⟩ := hC_ m_ hM_
    have t0_ : tst B_ I_ m_ (A_.1 m_) e_ (fun _ => none) := by
      rw [c2_]
      exact ⟨⟨Nat.zero_le _, fun s_ hs_ => absurd hs_ (Nat.not_lt_zero _)⟩, fun s_ hs_ => absurd hs_ (Nat.not_lt_zero _), fun s_ _ hs_ h0_ => ⟨ho_.2 s_ hs_ h0_, rfl⟩, fun s_ hs_ h0_ => ho_.1 s_ hs_ h0_ hs_⟩
    obtain ⟨kk_, G'_, R'_, fc'_, E'_, O'_, w1_, w2_, w3_, w4_, w5_⟩ := mod_tot (F_ := F_) (I_ := I_) (X_ := exm F_ I_ B_ C_ g_) (s0_ := ((G_, R_, fc_), e_, fun _ => none, [])) (r1_ := r1_) (i1_ := i1_) (R0_ := R_) (fc0_ := fc_) (c0_ := c0_) hn_ bm_ hnn_ (fun K_ hK_ => by
      have q1_ := er.2.2 K_ hK_
      have q2_ := ei_.2.2 K_ hK_
      omega) (fun d_ K_ hd_ hK_ h5_ hdd_ G1_ R1_ fc1_ o_ hR1_ hf1_ ho1_ => by
      have ti_ : t_is i1_ B_ m_ K_ = 1 + i1_ d_ := by unfold t_is; rw [if_pos h5_, hdd_, Int.toNat_natCast]
      have tr_ : t_rg r1_ B_ m_ K_ = r1_ d_ := by unfold t_rg; rw [if_neg (by omega), if_pos h5_, hdd_, Int.toNat_natCast]
      have q1_ := er.2.1 K_ hK_
      have q2_ := ei_.2.1 K_ hK_
      exact exm_tot hn_ hB_ hnn_ hs_ hC_ k_ d_ (by omega) (by omega) (by omega) (by omega) g_ G1_ R1_ fc1_ o_ (by omega) hR1_ hf1_ ho1_) f1_ A_ c0_ u_ ce_ [] G_ R_ fc_ e_ (fun _ => none) c1_ rfl rfl t0_ (by rw [c2_]; show (R_ : Int) = R_ + 0; omega) (by rw [c2_]; show (fc_ : Int) = fc_ + 0; omega)
    have ek_ : kk_ = (C_ m_).reverse := by
      rw [w1_] at c3_
      exact List.append_cancel_right c3_
    rw [ek_] at w2_
    have w2_ : ec F_ I_ B_ (exm F_ I_ B_ C_ g_) m_ (C_ m_).reverse.reverse ((G_, R_, fc_), e_, fun _ => none, []) = some ((G'_, R'_, fc'_), E'_, O'_, []) := w2_
    rw [List.reverse_reverse] at w2_
    have nm_ := hnn_ m_
    refine ⟨G'_, E'_, ?_, fun s_ hs_ h5_ => (w3_.1.2 s_ hs_).1 h5_⟩
    rw [exm, w2_]
    show some ((G'_, R'_, fc'_), E'_) = _
    rw [show R'_ = R_ + (r1_ m_).toNat by omega, show fc'_ = fc_ + (i1_ m_).toNat by omega]
end
/-! 99.zd9 -/
section
/-! the items of all modules; written by wip/p55/gen/vg -/

/-! the_ items of_ all_ modules -/
theorem ex_rf {A_ : pA} {M_ : Nat} : a_ex A_ A_ M_ := ⟨Nat.le_refl _, fun _ _ => rfl, fun _ _ _ _ => ⟨rfl, rfl, rfl, Or.inl rfl⟩⟩
theorem ex_tr {A_ B_ C_ : pA} {M_ : Nat} (h_ : a_ex A_ B_ M_) (g_ : a_ex B_ C_ M_) : a_ex A_ C_ M_ := by
  have le_ : ∀ m_, m_ ≤ M_ → A_.1 m_ ≤ B_.1 m_ := by
    intro m_ hm_
    by_cases z_ : m_ = M_
    · rw [z_]; exact h_.1
    · rw [h_.2.1 m_ (by omega)]; exact Nat.le_refl _
  refine ⟨Nat.le_trans h_.1 g_.1, fun m_ hm_ => (h_.2.1 m_ hm_).trans (g_.2.1 m_ hm_), fun m_ s_ hm_ hs_ => ?_⟩
  have x_ := h_.2.2 m_ s_ hm_ hs_
  have y_ := g_.2.2 m_ s_ hm_ (Nat.lt_of_lt_of_le hs_ (le_ m_ hm_))
  refine ⟨x_.1.trans y_.1, x_.2.1.trans y_.2.1, x_.2.2.1.trans y_.2.2.1, ?_⟩
  rcases x_.2.2.2 with z_ | z_
  · rcases y_.2.2.2 with w_ | w_
    · exact Or.inl (z_.trans w_)
    · exact Or.inr ⟨by omega, w_.2⟩
  · rcases y_.2.2.2 with w_ | w_
    · exact Or.inr ⟨z_.1, by omega⟩
    · omega
theorem te_xx {b_ : Nat → Int} {n_ m_ q_ : Nat} {A_ : pA} {so_ w_ d_ : Int} (hA_ : a_ok b_ n_ A_ m_) (h40_ : A_.1 m_ < 40) : a_ex A_ (a_te A_ m_ q_ so_ w_ d_) m_ := by
  refine ⟨?_, fun k_ hk_ => ?_, fun k_ s_ hk_ hs_ => ?_⟩
  · rw [te_f.1]; omega
  · show A_.1 k_ = if k_ = m_ then A_.1 m_ + 1 else A_.1 k_
    rw [if_neg (by omega)]
  · have a40_ := (hA_.2 k_ hk_).1
    have ne_ : 40 * k_ + s_ ≠ 40 * m_ + A_.1 m_ := by
      by_cases z_ : k_ = m_
      · rw [z_] at hs_ ⊢; omega
      · omega
    unfold a_te
    simp only []
    rw [if_neg ne_, if_neg ne_, if_neg ne_, if_neg ne_]
    exact ⟨rfl, rfl, rfl, Or.inl rfl⟩
theorem dr_xx {m_ k_ : Nat} {A_ : pA} (h3_ : A_.2.2.1 k_ = 3) : a_ex A_ (a_dr A_ k_) m_ := by
  refine ⟨Nat.le_refl _, fun _ _ => rfl, fun j_ s_ hj_ hs_ => ⟨rfl, rfl, rfl, ?_⟩⟩
  show A_.2.2.1 (40 * j_ + s_) = (if 40 * j_ + s_ = k_ then 4 else A_.2.2.1 (40 * j_ + s_)) ∨ (A_.2.2.1 (40 * j_ + s_) = 3 ∧ (if 40 * j_ + s_ = k_ then (4 : Int) else A_.2.2.1 (40 * j_ + s_)) = 4)
  by_cases z_ : 40 * j_ + s_ = k_
  · rw [if_pos z_, z_]
    exact Or.inr ⟨h3_, rfl⟩
  · rw [if_neg z_]
    exact Or.inl rfl
section CH_
variable {b_ : Nat → Int} {n_ m_ : Nat} {A_ B_ : pA} {N_ : Nat → Nat}
theorem rb_vl {w_ : Int} {p_ : Nat} {z_ : Nat × Int} (hw_ : 1 ≤ w_ ∧ w_ ≤ 8) (h_ : p_rb b_ n_ w_ p_ = .inr z_) : 0 ≤ z_.2 ∧ z_.2 ≤ 255 := by
  unfold p_rb at h_
  by_cases g_ : lx_kd b_ n_ p_ = 61
  · rw [if_pos g_] at h_
    obtain ⟨q_, h1_, h2_⟩ := pb_inr h_
    obtain ⟨x_, h3_, h4_⟩ := pb_inr h2_
    obtain ⟨r_, h5_, h6_⟩ := pb_inr h4_
    cases h6_
    have k_ := (p_nu_ok h3_).2.2
    have k8_ := pw_8 w_.toNat (by omega)
    show 0 ≤ x_ ∧ x_ ≤ 255
    omega
  · rw [if_neg g_] at h_
    cases h_
    exact ⟨by show (0 : Int) ≤ 0; decide, by show (0 : Int) ≤ 255; decide⟩
theorem xd_pl {c_ : List Int} {p_ : Nat} {x_ : pR} (hn_ : n_ ≤ 1280) (hA_ : a_ok b_ n_ A_ m_) (hp_ : p_ ≤ n_) (hk_ : lx_kd b_ n_ p_ ≠ -1) (h_ : p_xd b_ n_ A_ m_ c_ p_ = .inr x_) : (p_ < x_.1 ∧ x_.1 ≤ n_ ∧ lx_kd b_ n_ x_.1 ≠ -1) ∧ ∃ k_, x_.2.2 = k_ ++ c_ := by
  obtain ⟨k_, q1_, q2_⟩ := ex_ac h_
  have z_ := pex_ok hn_ (pd_ok hA_) hp_ hk_ (Nat.zero_le _) q1_
  exact ⟨⟨z_.1, z_.2.1, z_.2.2.1⟩, k_, q2_⟩
theorem ar_cd {d_ K_ pl_ : Nat} (hn_ : n_ ≤ 1280) (hA_ : a_ok b_ n_ A_ m_) : ∀ (f_ : Nat) (i_ : Int) (c_ : List Int) (p_ : Nat) (x_ : List Int × Nat), p_ar b_ n_ A_ m_ d_ K_ pl_ f_ i_ c_ p_ = .inr x_ → ∃ k_, x_.1 = k_ ++ c_
  | 0, _, _, _, _, h_ => by cases h_
  | f_ + 1, i_, c_, p_, x_, h_ => by
    rw [p_ar] at h_
    obtain ⟨x1_, h1_, h2_⟩ := pb_inr h_
    obtain ⟨k_, q1_, q2_⟩ := ex_ac h1_
    have a1_ : ∃ k1_, p_a1 A_ d_ K_ i_ x1_.2.2 = k1_ ++ c_ := by
      unfold p_a1
      rw [q2_]
      by_cases z_ : i_ = -1
      · rw [if_pos z_]; exact ⟨k_, rfl⟩
      · rw [if_neg z_]; exact ⟨cw 16 K_ i_ :: k_, rfl⟩
    obtain ⟨k1_, ha_⟩ := a1_
    by_cases g_ : i_ ≠ -1 ∧ h_tp x1_.2.1 ≠ A_.2.2.2.1 (40 * d_ + i_.toNat)
    · rw [if_pos g_] at h2_
      cases h2_
    · rw [if_neg g_] at h2_
      by_cases k44_ : lx_kd b_ n_ x1_.1 = 44
      · rw [if_pos k44_] at h2_
        by_cases z_ : p_a2 A_ d_ i_ = -1
        · rw [if_pos z_] at h2_
          cases h2_
        · rw [if_neg z_] at h2_
          obtain ⟨q7_, q8_, q9_⟩ := pb_inr h2_
          obtain ⟨k2_, w_⟩ := ar_cd hn_ hA_ f_ _ _ q7_ x_ q9_
          rw [ha_, ← List.append_assoc] at w_
          exact ⟨k2_ ++ k1_, w_⟩
      · rw [if_neg k44_] at h2_
        rw [(ae_r h2_).2.2.1]
        exact ⟨k1_, ha_⟩
theorem it_b {p_ : Nat} {r_ : pT} {c_ : List Int} (hn_ : n_ ≤ 1280) (hA_ : a_ok b_ n_ A_ m_) (hp_ : p_ ≤ n_) (hkd_ : lx_kd b_ n_ p_ ≠ -1) (e_ : p_it b_ n_ A_ N_ m_ c_ p_ = some (.inr r_)) : a_ok b_ n_ r_.1 m_ ∧ a_ex A_ r_.1 m_ ∧ (p_ < r_.2.2 ∧ r_.2.2 ≤ n_ ∧ lx_kd b_ n_ r_.2.2 ≠ -1) ∧ ∃ k_, r_.2.1 = k_ ++ c_ := by
  have A40_ := (hA_.2 m_ (Nat.le_refl _)).1
  have hm15_ := hA_.1
  have nw_ : ∀ q_ r9_, p_ < q_ → q_ ≤ n_ → p_nw b_ n_ A_ m_ q_ = .inr r9_ → A_.1 m_ < 40 ∧ nmp b_ n_ q_ ∧ q_ < r9_ ∧ r9_ ≤ n_ ∧ lx_kd b_ n_ r9_ ≠ -1 := by
    intro q_ r9_ hq_ hqn_ h_
    obtain ⟨a1_, a2_, a3_⟩ := p_nn_ok h_
    have a4_ := p_ad_ok hqn_ (by omega) a3_
    exact ⟨by omega, ⟨hqn_, a2_⟩, a4_.2⟩
  unfold p_it at e_
  by_cases k4_ : lx_kd b_ n_ p_ = 4
  · rw [if_pos k4_] at e_
    obtain ⟨q_, r9_, u_, y_, h1_, h2_, h3_, h4_, h5_⟩ := in_r (Option.some.inj e_)
    subst h5_
    have p1_ := p_ad_ok hp_ (by omega) h1_
    have p2_ := nw_ q_ r9_ p1_.2.1 p1_.2.2.1 h2_
    have p3_ := p_wi_ok p2_.2.2.2.1 p2_.2.2.2.2 h3_
    have p4_ := p_nd_ok (by decide) p3_.2.1 h4_
    exact ⟨a_te_ok hA_ p2_.1 p2_.2.1 (by decide) (by omega) (fun _ => by omega) (fun z_ => by cases z_) (by decide), te_xx hA_ p2_.1, ⟨by show p_ < y_; omega, p4_.2.2⟩, [], rfl⟩
  · rw [if_neg k4_] at e_
    have va_ : ∀ so_ : Int, (so_ = 1 ∨ so_ = 2) → lx_kd b_ n_ p_ ≠ 0 → p_va b_ n_ A_ m_ so_ c_ p_ = .inr r_ → a_ok b_ n_ r_.1 m_ ∧ a_ex A_ r_.1 m_ ∧ (p_ < r_.2.2 ∧ r_.2.2 ≤ n_ ∧ lx_kd b_ n_ r_.2.2 ≠ -1) ∧ ∃ k_, r_.2.1 = k_ ++ c_ := by
      intro so_ hso_ k0_ e_
      obtain ⟨q_, r9_, u_, v_, x_, y_, h1_, h2_, h3_, h4_, h5_, h6_, h7_, h8_⟩ := va_r e_
      subst h8_
      have p1_ := p_ad_ok hp_ k0_ h1_
      have p2_ := nw_ q_ r9_ p1_.2.1 p1_.2.2.1 h2_
      have p3_ := p_wi_ok p2_.2.2.2.1 p2_.2.2.2.2 h3_
      have p4_ := p_nd_ok (by decide) p3_.2.1 h4_
      obtain ⟨p5_, k_, hk_⟩ := xd_pl hn_ hA_ p4_.2.2.1 p4_.2.2.2 h5_
      have p6_ := p_nd_ok (by decide) p5_.2.1 h7_
      exact ⟨a_te_ok hA_ p2_.1 p2_.2.1 (by omega) (by omega) (fun _ => by omega) (fun z_ => by omega) (by decide), te_xx hA_ p2_.1, ⟨by show p_ < y_; omega, p6_.2.2⟩, cw 12 (A_.1 m_) 0 :: k_, by show cw 12 _ _ :: x_.2.2 = _; rw [hk_]; rfl⟩
    by_cases k5_ : lx_kd b_ n_ p_ = 5
    · rw [if_pos k5_] at e_
      exact va_ 1 (Or.inl rfl) (by omega) (Option.some.inj e_)
    · rw [if_neg k5_] at e_
      by_cases k6_ : lx_kd b_ n_ p_ = 6
      · rw [if_pos k6_] at e_
        exact va_ 2 (Or.inr rfl) (by omega) (Option.some.inj e_)
      · rw [if_neg k6_] at e_
        by_cases k7_ : lx_kd b_ n_ p_ = 7
        · rw [if_pos k7_] at e_
          obtain ⟨q_, r9_, u_, z_, y_, h1_, h2_, h3_, h4_, h5_, h6_⟩ := re_r (Option.some.inj e_)
          subst h6_
          have p1_ := p_ad_ok hp_ (by omega) h1_
          have p2_ := nw_ q_ r9_ p1_.2.1 p1_.2.2.1 h2_
          have p3_ := p_wi_ok p2_.2.2.2.1 p2_.2.2.2.2 h3_
          have p4_ := rb_pl p3_.2.1 p3_.2.2.1 h4_
          have zb_ := rb_vl p3_.2.2.2 h4_
          have p5_ := p_nd_ok (by decide) p4_.2.1 h5_
          exact ⟨a_te_ok hA_ p2_.1 p2_.2.1 (by decide) (by omega) (fun _ => by omega) (fun z_ => by cases z_) zb_, te_xx hA_ p2_.1, ⟨by show p_ < y_; omega, p5_.2.2⟩, [cw 13 (A_.1 m_) 0], rfl⟩
        · rw [if_neg k7_] at e_
          by_cases k8_ : lx_kd b_ n_ p_ = 8
          · rw [if_pos k8_] at e_
            obtain ⟨q_, r9_, d_, u_, v_, x_, y_, h1_, h2_, h3_, h4_, h5_, h6_, h7_, h8_, h9_, h10_⟩ := us_r (Option.some.inj e_)
            subst h10_
            have p1_ := p_ad_ok hp_ (by omega) h1_
            have p2_ := nw_ q_ r9_ p1_.2.1 p1_.2.2.1 h2_
            have p3_ := p_ad_ok p2_.2.2.2.1 (by omega) h6_
            have p4_ := p_nd_ok (by decide) p3_.2.2.1 h7_
            have p5_ : (v_ < x_.2 ∧ x_.2 ≤ n_ ∧ lx_kd b_ n_ x_.2 ≠ -1) ∧ ∃ k_, x_.1 = k_ ++ (cw 15 (A_.1 m_) 0 :: c_) := by
              unfold p_ua at h8_
              by_cases k41_ : lx_kd b_ n_ v_ = 41
              · rw [if_pos k41_] at h8_
                obtain ⟨a1_, a2_, a3_, a4_⟩ := ae_r h8_
                have a6_ := p_ad_ok p4_.2.2.1 (by omega) a4_
                exact ⟨a6_.2, [], by rw [a3_]; rfl⟩
              · rw [if_neg k41_] at h8_
                exact ⟨ar_pl hn_ hA_ _ _ _ _ _ h8_ p4_.2.2.1 p4_.2.2.2, ar_cd hn_ hA_ _ _ _ _ _ h8_⟩
            obtain ⟨p5_, k_, hk_⟩ := p5_
            have p6_ := p_nd_ok (by decide) p5_.2.1 h9_
            exact ⟨a_te_ok hA_ p2_.1 p2_.2.1 (by decide) (by decide) (fun z_ => absurd rfl z_) (fun _ => by omega) (by omega), te_xx hA_ p2_.1, ⟨by show p_ < y_; omega, p6_.2.2⟩, cw 17 (A_.1 m_) d_ :: (k_ ++ [cw 15 (A_.1 m_) 0]), by show cw 17 _ _ :: x_.1 = _; rw [hk_]; simp⟩
          · rw [if_neg k8_] at e_
            by_cases k1_ : lx_kd b_ n_ p_ = 1
            · rw [if_pos k1_] at e_
              obtain ⟨s_, q_, r9_, x_, y_, h1_, h2_, h3_, h4_, h5_, h6_, h7_, h8_, h9_⟩ := ne_r (Option.some.inj e_)
              subst h9_
              have p1_ := p_ad_ok hp_ (by omega) h4_
              have p2_ := p_nd_ok (by decide) p1_.2.2.1 h5_
              obtain ⟨p5_, k_, hk_⟩ := xd_pl hn_ hA_ p2_.2.2.1 p2_.2.2.2 h6_
              have p6_ := p_nd_ok (by decide) p5_.2.1 h8_
              exact ⟨a_dr_ok hA_ h3_, dr_xx h3_, ⟨by show p_ < y_; omega, p6_.2.2⟩, cw 14 (s_ : Int) 0 :: k_, by show cw 14 _ _ :: x_.2.2 = _; rw [hk_]; rfl⟩
            · rw [if_neg k1_] at e_
              cases e_
theorem it_N {N'_ : Nat → Nat} {p_ : Nat} {c_ : List Int} (h_ : ∀ k_, k_ < m_ → N_ k_ = N'_ k_) : p_it b_ n_ A_ N_ m_ c_ p_ = p_it b_ n_ A_ N'_ m_ c_ p_ := by
  have e_ : ∀ r_, p_fm b_ n_ N_ m_ r_ = p_fm b_ n_ N'_ m_ r_ := fun r_ => p_fd_cg (fun j_ hj_ => by show nm_q b_ n_ (N_ j_) r_ = nm_q b_ n_ (N'_ j_) r_; rw [h_ j_ hj_])
  have e2_ : p_us b_ n_ A_ N_ m_ c_ p_ = p_us b_ n_ A_ N'_ m_ c_ p_ := by
    unfold p_us
    simp only [e_]
  unfold p_it
  rw [e2_]
theorem mch_cd (hn_ : n_ ≤ 1280) : ∀ (f_ : Nat) (A_ : pA) (c_ : List Int) (p_ : Nat) (ce_ : List Int), mch b_ n_ B_ N_ m_ f_ A_ c_ p_ ce_ → ∃ k_, ce_ = k_ ++ c_
  | 0, _, _, _, _, h_ => h_.elim
  | f_ + 1, A_, c_, p_, ce_, h_ => by
    obtain ⟨⟨hA_, hx_, hp_, hk_⟩, h2_⟩ := h_
    rcases h2_ with ⟨z1_, z2_, z3_⟩ | ⟨r_, z1_, z2_⟩
    · exact ⟨[], z3_⟩
    · obtain ⟨-, -, -, k1_, h1_⟩ := it_b hn_ hA_ hp_ hk_ z1_
      obtain ⟨k2_, h2_⟩ := mch_cd hn_ f_ _ _ _ ce_ z2_
      rw [h1_, ← List.append_assoc] at h2_
      exact ⟨k2_ ++ k1_, h2_⟩
end CH_
end
/-! 99.ze1 -/
section
/-! the modules of a design; written by wip/p55/gen/vg -/

/-! a_ design's modules, each with its_ items -/
/-- where a_ module's body begins -/
def bod (b_ : Nat → Int) (n_ q_ : Nat) : pE Nat := pb (p_ad b_ n_ q_) (p_nd b_ n_ 123)
def mcc (b_ : Nat → Int) (n_ : Nat) (r_ : pD) (m_ : Nat) : Prop := ∃ f_ A_ c0_ u_ ce_ l_, mch b_ n_ r_.1 r_.2.1 m_ f_ A_ c0_ u_ ce_ ∧ A_.1 m_ = 0 ∧ bod b_ n_ (r_.2.1 m_) = .inr u_ ∧ r_.2.2.2.1 m_ = c0_.length ∧ r_.2.2.2.1 (m_ + 1) = ce_.length ∧ r_.2.2.2.2 = l_ ++ ce_
theorem bm_r {b_ : Nat → Int} {n_ M_ p_ : Nat} {A_ : pA} {N_ : Nat → Nat} {x_ : pA × (Nat → Nat) × Nat} (h_ : p_bm b_ n_ A_ N_ M_ p_ = .inr x_) (hp_ : p_ ≤ n_) : ∃ q_ u_, M_ ≠ 16 ∧ bod b_ n_ q_ = .inr u_ ∧ x_ = (a_bm A_ M_, n_up N_ M_ q_, u_) ∧ p_ < u_ ∧ u_ ≤ n_ ∧ lx_kd b_ n_ u_ ≠ -1 := by
  unfold p_bm at h_
  obtain ⟨q_, h1_, h2_⟩ := pb_inr h_
  by_cases k1_ : lx_kd b_ n_ q_ = 1
  · rw [if_pos k1_] at h2_
    by_cases g_ : p_fm b_ n_ N_ M_ q_ = -1
    · rw [if_pos g_] at h2_
      by_cases g2_ : M_ = 16
      · rw [if_pos g2_] at h2_
        cases h2_
      · rw [if_neg g2_] at h2_
        obtain ⟨r_, h3_, h4_⟩ := pb_inr h2_
        obtain ⟨u_, h5_, h6_⟩ := pb_inr h4_
        cases h6_
        have p1_ := p_nd_ok (by decide) hp_ h1_
        have p2_ := p_ad_ok p1_.2.2.1 (by omega) h3_
        have p3_ := p_nd_ok (by decide) p2_.2.2.1 h5_
        exact ⟨q_, u_, g2_, by unfold bod; rw [pb_r h3_]; exact h5_, rfl, by omega, p3_.2.2⟩
    · rw [if_neg g_] at h2_
      cases h2_
  · rw [if_neg k1_] at h2_
    cases h2_
theorem dl_ch {b_ : Nat → Int} {n_ : Nat} (hn_ : n_ ≤ 1280) : ∀ (f_ : Nat) (A_ : pA) (N_ : Nat → Nat) (M_ : Nat) (mc : Nat → Nat) (c_ : List Int) (p_ : Nat) (r_ : pD), p_dl b_ n_ f_ A_ N_ M_ mc c_ p_ = .inr r_ → a_ok b_ n_ A_ M_ → p_ ≤ n_ → lx_kd b_ n_ p_ ≠ -1 → M_ < r_.2.2.1 ∧ a_ex A_ r_.1 M_ ∧ (∀ m_, m_ ≤ M_ → r_.2.1 m_ = N_ m_ ∧ r_.2.2.2.1 m_ = mc m_) ∧ (∃ f1_ ce_ l_, mch b_ n_ r_.1 r_.2.1 M_ f1_ A_ c_ p_ ce_ ∧ r_.2.2.2.1 (M_ + 1) = ce_.length ∧ r_.2.2.2.2 = l_ ++ ce_) ∧ (∀ m_, M_ < m_ → m_ < r_.2.2.1 → mcc b_ n_ r_ m_) ∧ ∀ m_, m_ < r_.2.2.1 → a_ok b_ n_ r_.1 m_
  | 0, _, _, _, _, _, _, _, h_, _, _, _ => by cases h_
  | f_ + 1, A_, N_, M_, mc, c_, p_, r_, h_, hA_, hp_, hk_ => by
    cases hi_ : p_it b_ n_ A_ N_ M_ c_ p_ with
    | some x_ =>
      rw [dl_i hi_] at h_
      obtain ⟨r1_, h1_, h2_⟩ := pb_inr h_
      rw [h1_] at hi_
      obtain ⟨b1_, b2_, b3_, k_, b4_⟩ := it_b hn_ hA_ hp_ hk_ hi_
      obtain ⟨i1_, i2_, i3_, ⟨f1_, ce_, l_, i4_, i5_, i6_⟩, i7_, i8_⟩ := dl_ch hn_ f_ r1_.1 N_ M_ mc r1_.2.1 r1_.2.2 r_ h2_ b1_ b3_.2.1 b3_.2.2
      have ex_ := ex_tr b2_ i2_
      refine ⟨i1_, ex_, i3_, ⟨f1_ + 1, ce_, l_, ⟨⟨hA_, ex_, hp_, hk_⟩, Or.inr ⟨r1_, ?_, i4_⟩⟩, i5_, i6_⟩, i7_, i8_⟩
      rw [← hi_]
      exact it_N (fun k_ hk_ => (i3_ k_ (by omega)).1)
    | none =>
      rw [dl_n hi_] at h_
      obtain ⟨y_, h1_, h2_⟩ := pb_inr h_
      unfold p_en at h1_
      obtain ⟨q_, h3_, h4_⟩ := pb_inr h1_
      have p1_ := p_nd_ok (by decide) hp_ h3_
      by_cases k0_ : lx_kd b_ n_ q_ = 0
      · rw [if_pos k0_] at h4_
        cases h4_
        have h2_ := Sum.inr.inj h2_
        subst h2_
        refine ⟨Nat.lt_succ_self _, ex_rf, fun m_ hm_ => ⟨rfl, if_neg (by omega)⟩, ⟨1, c_, [], ⟨⟨hA_, ex_rf, hp_, hk_⟩, Or.inl ⟨p1_.1, rfl, rfl⟩⟩, if_pos rfl, rfl⟩, fun m_ hm1_ hm2_ => ?_, fun m_ hm_ => a_ok_le hA_ (by have hm_ : m_ < M_ + 1 := hm_; omega)⟩
        have hm2_ : m_ < M_ + 1 := hm2_
        omega
      · rw [if_neg k0_] at h4_
        obtain ⟨x_, h5_, h6_⟩ := pb_inr h4_
        cases h6_
        obtain ⟨q2_, u_, m16_, hb_, hx_, p2_⟩ := bm_r h5_ p1_.2.2.1
        subst hx_
        have M15_ := hA_.1
        have ok1_ : a_ok b_ n_ (a_bm A_ (M_ + 1)) (M_ + 1) := a_bm_ok (fun m_ hm_ => a_ok_le hA_ (by omega)) (by omega)
        have h2_ : p_dl b_ n_ f_ (a_bm A_ (M_ + 1)) (n_up N_ (M_ + 1) q2_) (M_ + 1) (n_up mc (M_ + 1) c_.length) c_ u_ = .inr r_ := h2_
        obtain ⟨i1_, i2_, i3_, ⟨f1_, ce_, l_, i4_, i5_, i6_⟩, i7_, i8_⟩ := dl_ch hn_ f_ _ _ (M_ + 1) _ c_ u_ r_ h2_ ok1_ p2_.2.1 p2_.2.2
        have bmA_ : ∀ m_, m_ ≤ M_ → (a_bm A_ (M_ + 1)).1 m_ = A_.1 m_ := fun m_ hm_ => if_neg (by omega)
        have ex_ : a_ex A_ r_.1 M_ := by
          refine ⟨?_, fun m_ hm_ => ?_, fun m_ s_ hm_ hs_ => ?_⟩
          · rw [← bmA_ M_ (Nat.le_refl _), i2_.2.1 M_ (by omega)]
            exact Nat.le_refl _
          · rw [← bmA_ m_ (by omega), i2_.2.1 m_ (by omega)]
          · exact i2_.2.2 m_ s_ (by omega) (by rw [bmA_ m_ hm_]; exact hs_)
        have cM_ : A_.1 M_ = r_.1.1 M_ := by rw [← bmA_ M_ (Nat.le_refl _), i2_.2.1 M_ (by omega)]
        have mcM_ := (i3_ (M_ + 1) (Nat.le_refl _)).2
        have e1_ : n_up mc (M_ + 1) c_.length (M_ + 1) = c_.length := if_pos rfl
        obtain ⟨kk_, hkk_⟩ := mch_cd hn_ _ _ _ _ _ i4_
        refine ⟨by omega, ex_, fun m_ hm_ => ?_, ⟨1, c_, l_ ++ kk_, ⟨⟨hA_, ex_, hp_, hk_⟩, Or.inl ⟨p1_.1, cM_, rfl⟩⟩, by rw [mcM_, e1_], by rw [i6_, hkk_, List.append_assoc]⟩, fun m_ hm1_ hm2_ => ?_, i8_⟩
        · have w_ := i3_ m_ (by omega)
          exact ⟨w_.1.trans (if_neg (by omega)), w_.2.trans (if_neg (by omega))⟩
        · by_cases z_ : m_ = M_ + 1
          · subst z_
            refine ⟨f1_, _, c_, u_, ce_, l_, i4_, if_pos rfl, ?_, by rw [mcM_, e1_], i5_, i6_⟩
            rw [(i3_ (M_ + 1) (Nat.le_refl _)).1, show n_up N_ (M_ + 1) q2_ (M_ + 1) = q2_ from if_pos rfl]
            exact hb_
          · exact i7_ m_ (by omega) hm2_
/-- each module of_ a_ right design has_ its_ items -/
theorem de_ch {b_ : Nat → Int} {n_ : Nat} {r_ : pD} (hn_ : n_ ≤ 1280) (h_ : p_de b_ n_ = .inr r_) : (∀ m_, m_ < r_.2.2.1 → mcc b_ n_ r_ m_ ∧ a_ok b_ n_ r_.1 m_) ∧ 0 < r_.2.2.1 := by
  unfold p_de at h_
  by_cases g_ : lx_kd b_ n_ (lx_k b_ n_ 0) = -1
  · rw [if_pos g_] at h_
    cases h_
  · rw [if_neg g_] at h_
    obtain ⟨x_, h1_, h2_⟩ := pb_inr h_
    have k0_ : lx_k b_ n_ 0 ≤ n_ := (lx_k_le (Nat.zero_le n_)).2
    obtain ⟨q_, u_, -, hb_, hx_, p2_⟩ := bm_r h1_ k0_
    subst hx_
    have ok1_ : a_ok b_ n_ (a_bm (fun _ => 0, fun _ => 0, fun _ => 0, fun _ => 0, fun _ => 0) 0) 0 := a_bm_ok (fun m_ hm_ => absurd hm_ (Nat.not_lt_zero _)) (by decide)
    have h2_ : p_dl b_ n_ (n_ + 1) (a_bm (fun _ => 0, fun _ => 0, fun _ => 0, fun _ => 0, fun _ => 0) 0) (n_up (fun _ => 0) 0 q_) 0 (fun _ => 0) [] u_ = .inr r_ := h2_
    obtain ⟨i1_, i2_, i3_, ⟨f1_, ce_, l_, i4_, i5_, i6_⟩, i7_, i8_⟩ := dl_ch hn_ _ _ _ 0 _ [] u_ r_ h2_ ok1_ p2_.2.1 p2_.2.2
    refine ⟨fun m_ hm_ => ⟨?_, i8_ m_ hm_⟩, i1_⟩
    by_cases z_ : m_ = 0
    · subst z_
      refine ⟨f1_, _, [], u_, ce_, l_, i4_, rfl, ?_, (i3_ 0 (Nat.le_refl _)).2, i5_, i6_⟩
      rw [(i3_ 0 (Nat.le_refl _)).1, show n_up (fun _ => 0) 0 q_ 0 = q_ from if_pos rfl]
      exact hb_
    · exact i7_ m_ (by omega) hm_
/-- the_ code of_ each module, in its_ order -/
def dC (r_ : pD) (m_ : Nat) : List Int := ((r_.2.2.2.2.drop (r_.2.2.2.2.length - r_.2.2.2.1 (m_ + 1))).take (r_.2.2.2.1 (m_ + 1) - r_.2.2.2.1 m_)).reverse
theorem dC_r {b_ : Nat → Int} {n_ m_ : Nat} {r_ : pD} (hn_ : n_ ≤ 1280) (h_ : mcc b_ n_ r_ m_) : ∃ f_ A_ c0_ u_ ce_ l_, mch b_ n_ r_.1 r_.2.1 m_ f_ A_ c0_ u_ ce_ ∧ A_.1 m_ = 0 ∧ ce_ = (dC r_ m_).reverse ++ c0_ ∧ bod b_ n_ (r_.2.1 m_) = .inr u_ ∧ r_.2.2.2.1 m_ = c0_.length ∧ r_.2.2.2.1 (m_ + 1) = c0_.length + (dC r_ m_).length ∧ r_.2.2.2.2 = l_ ++ ce_ := by
  obtain ⟨f_, A_, c0_, u_, ce_, l_, h1_, h2_, h3_, h4_, h5_, h6_⟩ := h_
  obtain ⟨k_, hk_⟩ := mch_cd hn_ _ _ _ _ _ h1_
  have e_ : dC r_ m_ = k_.reverse := by
    unfold dC
    rw [h4_, h5_, h6_, hk_]
    rw [show (l_ ++ (k_ ++ c0_)).length - (k_ ++ c0_).length = l_.length by simp, List.drop_left, show (k_ ++ c0_).length - c0_.length = k_.length by simp, List.take_left]
  refine ⟨f_, A_, c0_, u_, ce_, l_, h1_, h2_, by rw [e_, List.reverse_reverse]; exact hk_, h3_, h4_, ?_, h6_⟩
  rw [h5_, hk_, e_]
  simp
  omega
end
