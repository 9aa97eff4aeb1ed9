/-! Tester.workFault -/
def vw_174 : sx_Wl := ([(9, 1), (9, 2), (9, 3)], [92, 93, 94, 95, 96], [(9, 0)])
def vq_174 (a2_ : Int) (cc_ : Nat) (S0_ : sm_S) (u_ : Option sm_V) (S1_ : sm_S) : Prop := u_ = none ∧ gi S1_ ∧ ai_fr (sx_W vw_174) S0_ S1_ ∧ (S1_.2.1 9 0 0 = some cc_ ∧ shn S1_)
set_option maxHeartbeats 2000000 in
set_option maxRecDepth 20000 in
theorem vl_174 {sc_ : Nat × (Nat → Int)} (a2_ : Int) (cc_ : Nat) (S0_ : sm_S) (hs_ : S0_.1 2 cc_ 1 + S0_.1 2 cc_ 2 ≤ 12) (h2_ : 0 ≤ a2_ ∧ a2_ ≤ 1223) (hn_ : shn S0_) : ∀ nn_ : Nat, (∀ (y3_ : Int) (ip_ : Int) (g_ : Int) (S_ : sm_S), gi S_ → ai_fr (sx_W vw_174) S0_ S_ → ((0 ≤ g_ ∧ g_ ≤ 149 ∧ -2147483000 + 3 * (150 - g_) ≤ ip_ ∧ ip_ ≤ 2000) ∧ (S_.2.1 9 0 0 = some cc_) ∧ (shn S_) ∧ True) → ((90000 - g_).toNat) < nn_ → sm_T (mt_P sc_) 4 174 (121, [some (.inr (.inr (some (9, 0)))), some (.inr (.inr (some (2, cc_)))), some (.inl a2_), some (.inr (.inl y3_)), none, none, some (.inl ip_), some (.inl g_), none], [], S_) (fun ro9_ => ∃ u_ S1_, ro9_ = (.inl u_, S1_, 0) ∧ vq_174 a2_ cc_ S0_ u_ S1_)) ∧ (∀ (y3_ : Int) (fm_ : Int) (g_ : Int) (S_ : sm_S), gi S_ → ai_fr (sx_W vw_174) S0_ S_ → ((0 ≤ g_ ∧ g_ ≤ 151) ∧ (S_.2.1 9 0 0 = some cc_) ∧ (shn S_) ∧ True) → ((100 * (200 - g_) + 90).toNat) < nn_ → sm_T (mt_P sc_) 4 174 (199, [some (.inr (.inr (some (9, 0)))), some (.inr (.inr (some (2, cc_)))), some (.inl a2_), some (.inr (.inl y3_)), none, some (.inl fm_), some (.inl g_), none, none], [], S_) (fun ro9_ => ∃ u_ S1_, ro9_ = (.inl u_, S1_, 0) ∧ vq_174 a2_ cc_ S0_ u_ S1_)) ∧ (∀ (y3_ : Int) (fm_ : Int) (g_ : Int) (rc_ : Int) (k_ : Int) (S_ : sm_S), gi S_ → ai_fr (sx_W vw_174) S0_ S_ → ((0 ≤ g_ ∧ g_ < 150 ∧ 0 ≤ rc_ ∧ rc_ ≤ 1 ∧ 0 ≤ k_ ∧ k_ ≤ 3) ∧ (S_.2.1 9 0 0 = some cc_) ∧ (shn S_) ∧ True) → ((100 * (200 - g_) + 80 - k_).toNat) < nn_ → sm_T (mt_P sc_) 4 174 (214, [some (.inr (.inr (some (9, 0)))), some (.inr (.inr (some (2, cc_)))), some (.inl a2_), some (.inr (.inl y3_)), none, some (.inl fm_), some (.inl g_), some (.inl rc_), some (.inl k_)], [], S_) (fun ro9_ => ∃ u_ S1_, ro9_ = (.inl u_, S1_, 0) ∧ vq_174 a2_ cc_ S0_ u_ S1_)) := by
  intro nn_
  induction nn_ with
  | zero => exact ⟨fun _ _ _ _ _ _ _ h_ => absurd h_ (Nat.not_lt_zero _), fun _ _ _ _ _ _ _ h_ => absurd h_ (Nat.not_lt_zero _), fun _ _ _ _ _ _ _ _ _ h_ => absurd h_ (Nat.not_lt_zero _)⟩
  | succ nn_ ih_ =>
    refine ⟨?_, ?_, ?_⟩
    · rintro y3_ ip_ g_ S_ hI_ hF_ ⟨h0_, hck_, hn1_, -⟩ hm_
      have z1_ : S_.1 2 cc_ 1 = S0_.1 2 cc_ 1 := hF_.1 2 cc_ 1 rfl
      have z2_ : S_.1 2 cc_ 2 = S0_.1 2 cc_ 2 := hF_.1 2 cc_ 2 rfl
      have cw : 0 ≤ S_.1 9 0 2 ∧ S_.1 9 0 2 ≤ 64 := hI_.1 9 0 2 rfl
      have cg9_ : 0 ≤ S_.1 2 cc_ 8 ∧ S_.1 2 cc_ 8 ≤ 150 := hI_.1 2 cc_ 8 rfl
      have cq1_ : 0 ≤ S_.1 2 cc_ 1 ∧ S_.1 2 cc_ 1 ≤ 12 := hI_.1 2 cc_ 1 rfl
      have cq2_ : 0 ≤ S_.1 2 cc_ 2 ∧ S_.1 2 cc_ 2 ≤ 6 := hI_.1 2 cc_ 2 rfl
      have bx1_ : 0 ≤ S_.1 2 cc_ 8 ∧ S_.1 2 cc_ 8 ≤ 150 := hI_.1 2 cc_ 8 rfl
      refine sm_T_go 4 (c1 := (128, [some (.inr (.inr (some (9, 0)))), some (.inr (.inr (some (2, cc_)))), some (.inl a2_), some (.inr (.inl y3_)), none, none, some (.inl ip_), some (.inl g_), none], [.inl 1, .inl (S_.1 2 cc_ 8), .inl g_], S_)) rfl ?_
      refine sm_T_bin (w := (S_.1 2 cc_ 8) - 1) rfl (bi_sub (by omega) (by omega) (by omega)) ?_ -- pc_ 128
      refine sm_T_br (a := 3) (z := 31) rfl (fun cx2_ => ?_) (fun cx2_ => ?_)
      · have cx2_ : (S_.1 2 cc_ 8) - 1 ≤ g_ := of_decide_eq_true cx2_
        refine sm_T_go 3 (c1 := (165, [some (.inr (.inr (some (9, 0)))), some (.inr (.inr (some (2, cc_)))), some (.inl a2_), some (.inr (.inl y3_)), none, none, some (.inl ip_), some (.inl g_), none], [.inr (.inr (some (2, cc_))), .inr (.inr (some (94, 0)))], S_)) rfl ?_
        refine sm_T_cal (d1 := 0) (Q1 := vq_54 cc_ S_) rfl rfl (by decide) (vc_54 cc_ S_ hI_ ) (fun u_ Sx3_ px6_ => ?_)
        obtain ⟨rfl, vx8_, rfl, px6_⟩ := px6_
        have m165_ := px6_
        refine sm_T_go 1 (c1 := (170, [some (.inr (.inr (some (9, 0)))), some (.inr (.inr (some (2, cc_)))), some (.inl a2_), some (.inr (.inl y3_)), none, none, some (.inl ip_), some (.inl g_), none], [.inl g_, .inl vx8_, .inr (.inr (some (94, 0)))], S_)) rfl ?_
        refine sm_T_bin (w := vx8_ + g_) rfl (bi_add (by omega) (by omega) (by omega)) ?_ -- pc_ 170
        refine sm_T_go 4 (c1 := (177, [some (.inr (.inr (some (9, 0)))), some (.inr (.inr (some (2, cc_)))), some (.inl a2_), some (.inr (.inl y3_)), none, none, some (.inl ip_), some (.inl g_), none], [.inr (.inl y3_), .inl ip_, .inl g_, .inr (.inr (some (9, 0))), .inl (vx8_ + g_), .inr (.inr (some (94, 0)))], S_)) rfl ?_
        refine sm_T_cal (d1 := 2) (Q1 := vq_173 g_ ip_ y3_ cc_ S_) rfl rfl (by decide) (vc_173 g_ ip_ y3_ cc_ S_ hI_ (by exact hck_) (by omega) (by omega)) (fun u_ Sx9_ px12_ => ?_)
        obtain ⟨vx14_, rfl, hIx10_, hFx11_, px12_⟩ := px12_
        have hFx13_ : ai_fr (sx_W vw_174) S0_ Sx9_ := ai_fr_tr hF_ (fr_le hFx11_ rfl)
        have ex15_ : Sx9_.1 2 cc_ 8 = S_.1 2 cc_ 8 := hFx11_.1 2 cc_ 8 rfl
        have w177_ := px12_
        have n177_ := shn_fr hn1_ hFx11_
        have tk177_ := (hFx11_.2.1 9 0 0 rfl).trans hck_
        refine sm_T_b0 (a := 0) (z := 7) rfl (fun cx16_ => ?_) (fun cx16_ => ?_)
        · have cx16_ : vx14_ = 0 := of_decide_eq_true cx16_
          refine sm_T_go 1 (c1 := (188, [some (.inr (.inr (some (9, 0)))), some (.inr (.inr (some (2, cc_)))), some (.inl a2_), some (.inr (.inl y3_)), none, none, some (.inl ip_), some (.inl g_), none], [.inl 0, .inl (vx8_ + g_), .inr (.inr (some (94, 0)))], Sx9_)) rfl ?_
          refine sm_T_iast (n := 162) rfl rfl (by omega) (by omega) ?_
          have hIx17_ : gi (sm_aI Sx9_ 94 0 (vx8_ + g_).toNat 0) := gi_aI hIx10_ (show 0 ≤ 0 ∧ 0 ≤ 1 from ⟨by omega, by omega⟩)
          have hFx18_ : ai_fr (sx_W vw_174) S0_ (sm_aI Sx9_ 94 0 (vx8_ + g_).toNat 0) := ai_fr_tr hFx13_ (ai_fr_aI rfl)
          refine sm_T_go 2 (c1 := (192, [some (.inr (.inr (some (9, 0)))), some (.inr (.inr (some (2, cc_)))), some (.inl a2_), some (.inr (.inl y3_)), none, none, some (.inl ip_), some (.inl g_), none], [.inl 1, .inl g_], sm_aI Sx9_ 94 0 (vx8_ + g_).toNat 0)) rfl ?_
          refine sm_T_bin (w := g_ + 1) rfl (bi_add (by omega) (by omega) (by omega)) ?_ -- pc_ 192
          refine sm_T_go 3 (c1 := (199, [some (.inr (.inr (some (9, 0)))), some (.inr (.inr (some (2, cc_)))), some (.inl a2_), some (.inr (.inl y3_)), none, some (.inl (g_ + 1)), some (.inl (g_ + 1)), some (.inl g_), none], [], sm_aI Sx9_ 94 0 (vx8_ + g_).toNat 0)) rfl ?_
          refine sm_T_wk [some (.inr (.inr (some (9, 0)))), some (.inr (.inr (some (2, cc_)))), some (.inl a2_), some (.inr (.inl y3_)), none, some (.inl (g_ + 1)), some (.inl (g_ + 1)), none, none] (by exact ⟨rfl, rfl, rfl, rfl, rfl, rfl, trivial⟩) ?_
          refine ih_.2.1 y3_ (g_ + 1) (g_ + 1) (sm_aI Sx9_ 94 0 (vx8_ + g_).toNat 0) hIx17_ hFx18_ ⟨?_, ?_, ?_, trivial⟩ ?_
          · omega
          · exact tk177_
          · exact n177_
          · omega
        · have cx16_ : ¬ (vx14_ = 0) := of_decide_eq_false cx16_
          refine sm_T_go 2 (c1 := (188, [some (.inr (.inr (some (9, 0)))), some (.inr (.inr (some (2, cc_)))), some (.inl a2_), some (.inr (.inl y3_)), none, none, some (.inl ip_), some (.inl g_), none], [.inl 1, .inl (vx8_ + g_), .inr (.inr (some (94, 0)))], Sx9_)) rfl ?_
          refine sm_T_iast (n := 162) rfl rfl (by omega) (by omega) ?_
          have hIx19_ : gi (sm_aI Sx9_ 94 0 (vx8_ + g_).toNat 1) := gi_aI hIx10_ (show 0 ≤ 1 ∧ 1 ≤ 1 from ⟨by omega, by omega⟩)
          have hFx20_ : ai_fr (sx_W vw_174) S0_ (sm_aI Sx9_ 94 0 (vx8_ + g_).toNat 1) := ai_fr_tr hFx13_ (ai_fr_aI rfl)
          refine sm_T_go 2 (c1 := (192, [some (.inr (.inr (some (9, 0)))), some (.inr (.inr (some (2, cc_)))), some (.inl a2_), some (.inr (.inl y3_)), none, none, some (.inl ip_), some (.inl g_), none], [.inl 1, .inl g_], sm_aI Sx9_ 94 0 (vx8_ + g_).toNat 1)) rfl ?_
          refine sm_T_bin (w := g_ + 1) rfl (bi_add (by omega) (by omega) (by omega)) ?_ -- pc_ 192
          refine sm_T_go 3 (c1 := (199, [some (.inr (.inr (some (9, 0)))), some (.inr (.inr (some (2, cc_)))), some (.inl a2_), some (.inr (.inl y3_)), none, some (.inl (g_ + 1)), some (.inl (g_ + 1)), some (.inl g_), none], [], sm_aI Sx9_ 94 0 (vx8_ + g_).toNat 1)) rfl ?_
          refine sm_T_wk [some (.inr (.inr (some (9, 0)))), some (.inr (.inr (some (2, cc_)))), some (.inl a2_), some (.inr (.inl y3_)), none, some (.inl (g_ + 1)), some (.inl (g_ + 1)), none, none] (by exact ⟨rfl, rfl, rfl, rfl, rfl, rfl, trivial⟩) ?_
          refine ih_.2.1 y3_ (g_ + 1) (g_ + 1) (sm_aI Sx9_ 94 0 (vx8_ + g_).toNat 1) hIx19_ hFx20_ ⟨?_, ?_, ?_, trivial⟩ ?_
          · omega
          · exact tk177_
          · exact n177_
          · omega
      · have cx2_ : ¬ ((S_.1 2 cc_ 8) - 1 ≤ g_) := of_decide_eq_false cx2_
        refine sm_T_go 3 (c1 := (137, [some (.inr (.inr (some (9, 0)))), some (.inr (.inr (some (2, cc_)))), some (.inl a2_), some (.inr (.inl y3_)), none, none, some (.inl ip_), some (.inl g_), none], [.inl g_, .inr (.inr (some (2, cc_))), .inl ip_], S_)) rfl ?_
        refine sm_T_cal (d1 := 0) (Q1 := vq_59 g_ cc_ S_) rfl rfl (by decide) (vc_59 g_ cc_ S_ hI_ (by omega)) (fun u_ Sx21_ px24_ => ?_)
        obtain ⟨rfl, vx26_, rfl, px24_⟩ := px24_
        have g137_ := px24_.1
        refine sm_T_br (a := 2) (z := 20) rfl (fun cx27_ => ?_) (fun cx27_ => ?_)
        · have cx27_ : ip_ < vx26_ := of_decide_eq_true cx27_
          refine sm_T_go 3 (c1 := (165, [some (.inr (.inr (some (9, 0)))), some (.inr (.inr (some (2, cc_)))), some (.inl a2_), some (.inr (.inl y3_)), none, none, some (.inl ip_), some (.inl g_), none], [.inr (.inr (some (2, cc_))), .inr (.inr (some (94, 0)))], S_)) rfl ?_
          refine sm_T_cal (d1 := 0) (Q1 := vq_54 cc_ S_) rfl rfl (by decide) (vc_54 cc_ S_ hI_ ) (fun u_ Sx28_ px31_ => ?_)
          obtain ⟨rfl, vx33_, rfl, px31_⟩ := px31_
          have m165_ := px31_
          refine sm_T_go 1 (c1 := (170, [some (.inr (.inr (some (9, 0)))), some (.inr (.inr (some (2, cc_)))), some (.inl a2_), some (.inr (.inl y3_)), none, none, some (.inl ip_), some (.inl g_), none], [.inl g_, .inl vx33_, .inr (.inr (some (94, 0)))], S_)) rfl ?_
          refine sm_T_bin (w := vx33_ + g_) rfl (bi_add (by omega) (by omega) (by omega)) ?_ -- pc_ 170
          refine sm_T_go 4 (c1 := (177, [some (.inr (.inr (some (9, 0)))), some (.inr (.inr (some (2, cc_)))), some (.inl a2_), some (.inr (.inl y3_)), none, none, some (.inl ip_), some (.inl g_), none], [.inr (.inl y3_), .inl ip_, .inl g_, .inr (.inr (some (9, 0))), .inl (vx33_ + g_), .inr (.inr (some (94, 0)))], S_)) rfl ?_
          refine sm_T_cal (d1 := 2) (Q1 := vq_173 g_ ip_ y3_ cc_ S_) rfl rfl (by decide) (vc_173 g_ ip_ y3_ cc_ S_ hI_ (by exact hck_) (by omega) (by omega)) (fun u_ Sx34_ px37_ => ?_)
          obtain ⟨vx39_, rfl, hIx35_, hFx36_, px37_⟩ := px37_
          have hFx38_ : ai_fr (sx_W vw_174) S0_ Sx34_ := ai_fr_tr hF_ (fr_le hFx36_ rfl)
          have ex40_ : Sx34_.1 2 cc_ 8 = S_.1 2 cc_ 8 := hFx36_.1 2 cc_ 8 rfl
          have w177_ := px37_
          have n177_ := shn_fr hn1_ hFx36_
          have tk177_ := (hFx36_.2.1 9 0 0 rfl).trans hck_
          refine sm_T_b0 (a := 0) (z := 7) rfl (fun cx41_ => ?_) (fun cx41_ => ?_)
          · have cx41_ : vx39_ = 0 := of_decide_eq_true cx41_
            refine sm_T_go 1 (c1 := (188, [some (.inr (.inr (some (9, 0)))), some (.inr (.inr (some (2, cc_)))), some (.inl a2_), some (.inr (.inl y3_)), none, none, some (.inl ip_), some (.inl g_), none], [.inl 0, .inl (vx33_ + g_), .inr (.inr (some (94, 0)))], Sx34_)) rfl ?_
            refine sm_T_iast (n := 162) rfl rfl (by omega) (by omega) ?_
            have hIx42_ : gi (sm_aI Sx34_ 94 0 (vx33_ + g_).toNat 0) := gi_aI hIx35_ (show 0 ≤ 0 ∧ 0 ≤ 1 from ⟨by omega, by omega⟩)
            have hFx43_ : ai_fr (sx_W vw_174) S0_ (sm_aI Sx34_ 94 0 (vx33_ + g_).toNat 0) := ai_fr_tr hFx38_ (ai_fr_aI rfl)
            refine sm_T_go 2 (c1 := (192, [some (.inr (.inr (some (9, 0)))), some (.inr (.inr (some (2, cc_)))), some (.inl a2_), some (.inr (.inl y3_)), none, none, some (.inl ip_), some (.inl g_), none], [.inl 1, .inl g_], sm_aI Sx34_ 94 0 (vx33_ + g_).toNat 0)) rfl ?_
            refine sm_T_bin (w := g_ + 1) rfl (bi_add (by omega) (by omega) (by omega)) ?_ -- pc_ 192
            refine sm_T_go 3 (c1 := (199, [some (.inr (.inr (some (9, 0)))), some (.inr (.inr (some (2, cc_)))), some (.inl a2_), some (.inr (.inl y3_)), none, some (.inl (g_ + 1)), some (.inl (g_ + 1)), some (.inl g_), none], [], sm_aI Sx34_ 94 0 (vx33_ + g_).toNat 0)) rfl ?_
            refine sm_T_wk [some (.inr (.inr (some (9, 0)))), some (.inr (.inr (some (2, cc_)))), some (.inl a2_), some (.inr (.inl y3_)), none, some (.inl (g_ + 1)), some (.inl (g_ + 1)), none, none] (by exact ⟨rfl, rfl, rfl, rfl, rfl, rfl, trivial⟩) ?_
            refine ih_.2.1 y3_ (g_ + 1) (g_ + 1) (sm_aI Sx34_ 94 0 (vx33_ + g_).toNat 0) hIx42_ hFx43_ ⟨?_, ?_, ?_, trivial⟩ ?_
            · omega
            · exact tk177_
            · exact n177_
            · omega
          · have cx41_ : ¬ (vx39_ = 0) := of_decide_eq_false cx41_
            refine sm_T_go 2 (c1 := (188, [some (.inr (.inr (some (9, 0)))), some (.inr (.inr (some (2, cc_)))), some (.inl a2_), some (.inr (.inl y3_)), none, none, some (.inl ip_), some (.inl g_), none], [.inl 1, .inl (vx33_ + g_), .inr (.inr (some (94, 0)))], Sx34_)) rfl ?_
            refine sm_T_iast (n := 162) rfl rfl (by omega) (by omega) ?_
            have hIx44_ : gi (sm_aI Sx34_ 94 0 (vx33_ + g_).toNat 1) := gi_aI hIx35_ (show 0 ≤ 1 ∧ 1 ≤ 1 from ⟨by omega, by omega⟩)
            have hFx45_ : ai_fr (sx_W vw_174) S0_ (sm_aI Sx34_ 94 0 (vx33_ + g_).toNat 1) := ai_fr_tr hFx38_ (ai_fr_aI rfl)
            refine sm_T_go 2 (c1 := (192, [some (.inr (.inr (some (9, 0)))), some (.inr (.inr (some (2, cc_)))), some (.inl a2_), some (.inr (.inl y3_)), none, none, some (.inl ip_), some (.inl g_), none], [.inl 1, .inl g_], sm_aI Sx34_ 94 0 (vx33_ + g_).toNat 1)) rfl ?_
            refine sm_T_bin (w := g_ + 1) rfl (bi_add (by omega) (by omega) (by omega)) ?_ -- pc_ 192
            refine sm_T_go 3 (c1 := (199, [some (.inr (.inr (some (9, 0)))), some (.inr (.inr (some (2, cc_)))), some (.inl a2_), some (.inr (.inl y3_)), none, some (.inl (g_ + 1)), some (.inl (g_ + 1)), some (.inl g_), none], [], sm_aI Sx34_ 94 0 (vx33_ + g_).toNat 1)) rfl ?_
            refine sm_T_wk [some (.inr (.inr (some (9, 0)))), some (.inr (.inr (some (2, cc_)))), some (.inl a2_), some (.inr (.inl y3_)), none, some (.inl (g_ + 1)), some (.inl (g_ + 1)), none, none] (by exact ⟨rfl, rfl, rfl, rfl, rfl, rfl, trivial⟩) ?_
            refine ih_.2.1 y3_ (g_ + 1) (g_ + 1) (sm_aI Sx34_ 94 0 (vx33_ + g_).toNat 1) hIx44_ hFx45_ ⟨?_, ?_, ?_, trivial⟩ ?_
            · omega
            · exact tk177_
            · exact n177_
            · omega
        · have cx27_ : ¬ (ip_ < vx26_) := of_decide_eq_false cx27_
          refine sm_T_go 3 (c1 := (148, [some (.inr (.inr (some (9, 0)))), some (.inr (.inr (some (2, cc_)))), some (.inl a2_), some (.inr (.inl y3_)), none, none, some (.inl ip_), some (.inl g_), none], [.inl g_, .inr (.inr (some (2, cc_))), .inl ip_], S_)) rfl ?_
          refine sm_T_cal (d1 := 0) (Q1 := vq_59 g_ cc_ S_) rfl rfl (by decide) (vc_59 g_ cc_ S_ hI_ (by omega)) (fun u_ Sx46_ px49_ => ?_)
          obtain ⟨rfl, vx51_, rfl, px49_⟩ := px49_
          have g148_ := px49_.1
          refine sm_T_bin (w := ip_ - vx51_) rfl (bi_sub (by omega) (by omega) (by omega)) ?_ -- pc_ 151
          refine sm_T_go 1 (c1 := (154, [some (.inr (.inr (some (9, 0)))), some (.inr (.inr (some (2, cc_)))), some (.inl a2_), some (.inr (.inl y3_)), none, none, some (.inl (ip_ - vx51_)), some (.inl g_), none], [], S_)) rfl ?_
          refine sm_T_inc (a := 7) (z := 1) (v := g_) (w := g_ + 1) rfl rfl (by omega) (by omega) (by omega) ?_ -- pc_ 154
          refine sm_T_go 1 (c1 := (121, [some (.inr (.inr (some (9, 0)))), some (.inr (.inr (some (2, cc_)))), some (.inl a2_), some (.inr (.inl y3_)), none, none, some (.inl (ip_ - vx51_)), some (.inl (g_ + 1)), none], [], S_)) rfl ?_
          refine ih_.1 y3_ (ip_ - vx51_) (g_ + 1) S_ hI_ hF_ ⟨?_, ?_, ?_, trivial⟩ ?_
          · omega
          · exact hck_
          · exact hn1_
          · omega
    · rintro y3_ fm_ g_ S_ hI_ hF_ ⟨h0_, hck_, hn1_, -⟩ hm_
      have z1_ : S_.1 2 cc_ 1 = S0_.1 2 cc_ 1 := hF_.1 2 cc_ 1 rfl
      have z2_ : S_.1 2 cc_ 2 = S0_.1 2 cc_ 2 := hF_.1 2 cc_ 2 rfl
      have cw : 0 ≤ S_.1 9 0 2 ∧ S_.1 9 0 2 ≤ 64 := hI_.1 9 0 2 rfl
      have cg9_ : 0 ≤ S_.1 2 cc_ 8 ∧ S_.1 2 cc_ 8 ≤ 150 := hI_.1 2 cc_ 8 rfl
      have cq1_ : 0 ≤ S_.1 2 cc_ 1 ∧ S_.1 2 cc_ 1 ≤ 12 := hI_.1 2 cc_ 1 rfl
      have cq2_ : 0 ≤ S_.1 2 cc_ 2 ∧ S_.1 2 cc_ 2 ≤ 6 := hI_.1 2 cc_ 2 rfl
      have bx1_ : 0 ≤ S_.1 2 cc_ 8 ∧ S_.1 2 cc_ 8 ≤ 150 := hI_.1 2 cc_ 8 rfl
      refine sm_T_go 3 (c1 := (205, [some (.inr (.inr (some (9, 0)))), some (.inr (.inr (some (2, cc_)))), some (.inl a2_), some (.inr (.inl y3_)), none, some (.inl fm_), some (.inl g_), none, none], [.inl (S_.1 2 cc_ 8), .inl g_], S_)) rfl ?_
      refine sm_T_br (a := 3) (z := 93) rfl (fun cx2_ => ?_) (fun cx2_ => ?_)
      · have cx2_ : (S_.1 2 cc_ 8) ≤ g_ := of_decide_eq_true cx2_
        refine sm_T_go 2 (c1 := (300, [some (.inr (.inr (some (9, 0)))), some (.inr (.inr (some (2, cc_)))), some (.inl a2_), some (.inr (.inl y3_)), none, some (.inl fm_), some (.inl g_), none, none], [.inl a2_, .inr (.inr (some (9, 0)))], S_)) rfl ?_
        refine sm_T_cal (d1 := 2) (Q1 := vq_175 a2_ cc_ S_) rfl rfl (by decide) (vc_175 a2_ cc_ S_ hI_ (by exact hck_) (by omega) (by exact hn1_)) (fun u_ Sx3_ px6_ => ?_)
        obtain ⟨rfl, hIx4_, hFx5_, px6_⟩ := px6_
        have hFx7_ : ai_fr (sx_W vw_174) S0_ Sx3_ := ai_fr_tr hF_ (fr_le hFx5_ rfl)
        have ex8_ : Sx3_.1 2 cc_ 8 = S_.1 2 cc_ 8 := hFx5_.1 2 cc_ 8 rfl
        have k300_ := px6_
        have tk300_ := (hFx5_.2.1 9 0 0 rfl).trans hck_
        refine sm_T_rv rfl ⟨_, _, rfl, rfl, hIx4_, hFx7_, ?_⟩
        exact ⟨tk300_, k300_⟩
      · have cx2_ : ¬ ((S_.1 2 cc_ 8) ≤ g_) := of_decide_eq_false cx2_
        refine sm_T_go 4 (c1 := (214, [some (.inr (.inr (some (9, 0)))), some (.inr (.inr (some (2, cc_)))), some (.inl a2_), some (.inr (.inl y3_)), none, some (.inl fm_), some (.inl g_), some (.inl 0), some (.inl 0)], [], S_)) rfl ?_
        refine ih_.2.2 y3_ fm_ g_ 0 0 S_ hI_ hF_ ⟨?_, ?_, ?_, trivial⟩ ?_
        · omega
        · exact hck_
        · exact hn1_
        · omega
    · rintro y3_ fm_ g_ rc_ k_ S_ hI_ hF_ ⟨h0_, hck_, hn1_, -⟩ hm_
      have z1_ : S_.1 2 cc_ 1 = S0_.1 2 cc_ 1 := hF_.1 2 cc_ 1 rfl
      have z2_ : S_.1 2 cc_ 2 = S0_.1 2 cc_ 2 := hF_.1 2 cc_ 2 rfl
      have cw : 0 ≤ S_.1 9 0 2 ∧ S_.1 9 0 2 ≤ 64 := hI_.1 9 0 2 rfl
      have cg9_ : 0 ≤ S_.1 2 cc_ 8 ∧ S_.1 2 cc_ 8 ≤ 150 := hI_.1 2 cc_ 8 rfl
      have cq1_ : 0 ≤ S_.1 2 cc_ 1 ∧ S_.1 2 cc_ 1 ≤ 12 := hI_.1 2 cc_ 1 rfl
      have cq2_ : 0 ≤ S_.1 2 cc_ 2 ∧ S_.1 2 cc_ 2 ≤ 6 := hI_.1 2 cc_ 2 rfl
      refine sm_T_go 3 (c1 := (219, [some (.inr (.inr (some (9, 0)))), some (.inr (.inr (some (2, cc_)))), some (.inl a2_), some (.inr (.inl y3_)), none, some (.inl fm_), some (.inl g_), some (.inl rc_), some (.inl k_)], [.inl g_, .inr (.inr (some (2, cc_))), .inl k_], S_)) rfl ?_
      refine sm_T_cal (d1 := 0) (Q1 := vq_59 g_ cc_ S_) rfl rfl (by decide) (vc_59 g_ cc_ S_ hI_ (by omega)) (fun u_ Sx1_ px4_ => ?_)
      obtain ⟨rfl, vx6_, rfl, px4_⟩ := px4_
      have g219_ := px4_.1
      refine sm_T_br (a := 3) (z := 41) rfl (fun cx7_ => ?_) (fun cx7_ => ?_)
      · have cx7_ : vx6_ ≤ k_ := of_decide_eq_true cx7_
        refine sm_T_go 1 (c1 := (265, [some (.inr (.inr (some (9, 0)))), some (.inr (.inr (some (2, cc_)))), some (.inl a2_), some (.inr (.inl y3_)), none, some (.inl fm_), some (.inl g_), some (.inl rc_), some (.inl k_)], [.inl rc_], S_)) rfl ?_
        refine sm_T_b0 (a := 0) (z := 27) rfl (fun cx8_ => ?_) (fun cx8_ => ?_)
        · have cx8_ : rc_ = 0 := of_decide_eq_true cx8_
          refine sm_T_inc (a := 6) (z := 1) (v := g_) (w := g_ + 1) rfl rfl (by omega) (by omega) (by omega) ?_ -- pc_ 292
          refine sm_T_go 1 (c1 := (199, [some (.inr (.inr (some (9, 0)))), some (.inr (.inr (some (2, cc_)))), some (.inl a2_), some (.inr (.inl y3_)), none, some (.inl fm_), some (.inl (g_ + 1)), some (.inl rc_), some (.inl k_)], [], S_)) rfl ?_
          refine sm_T_wk [some (.inr (.inr (some (9, 0)))), some (.inr (.inr (some (2, cc_)))), some (.inl a2_), some (.inr (.inl y3_)), none, some (.inl fm_), some (.inl (g_ + 1)), none, none] (by exact ⟨rfl, rfl, rfl, rfl, rfl, rfl, trivial⟩) ?_
          refine ih_.2.1 y3_ fm_ (g_ + 1) S_ hI_ hF_ ⟨?_, ?_, ?_, trivial⟩ ?_
          · omega
          · first | exact hck_ | exact tk273_
          · first | exact hn1_ | exact n273_
          · omega
        · have cx8_ : ¬ (rc_ = 0) := of_decide_eq_false cx8_
          refine sm_T_go 4 (c1 := (273, [some (.inr (.inr (some (9, 0)))), some (.inr (.inr (some (2, cc_)))), some (.inl a2_), some (.inr (.inl y3_)), none, some (.inl fm_), some (.inl g_), some (.inl rc_), some (.inl k_)], [.inr (.inl 0), .inl (-1), .inl g_, .inr (.inr (some (9, 0)))], S_)) rfl ?_
          refine sm_T_cal (d1 := 2) (Q1 := vq_173 g_ (-1) 0 cc_ S_) rfl rfl (by decide) (vc_173 g_ (-1) 0 cc_ S_ hI_ (by exact hck_) (by omega) (by omega)) (fun u_ Sx9_ px12_ => ?_)
          obtain ⟨vx14_, rfl, hIx10_, hFx11_, px12_⟩ := px12_
          have hFx13_ : ai_fr (sx_W vw_174) S0_ Sx9_ := ai_fr_tr hF_ (fr_le hFx11_ rfl)
          have w273_ := px12_
          have u1_ := hFx11_.1 2 cc_ 1 rfl
          have u2_ := hFx11_.1 2 cc_ 2 rfl
          have n273_ := shn_fr hn1_ hFx11_
          have tk273_ := (hFx11_.2.1 9 0 0 rfl).trans hck_
          refine sm_T_b0 (a := 0) (z := 16) rfl (fun cx15_ => ?_) (fun cx15_ => ?_)
          · have cx15_ : vx14_ = 0 := of_decide_eq_true cx15_
            refine sm_T_inc (a := 6) (z := 1) (v := g_) (w := g_ + 1) rfl rfl (by omega) (by omega) (by omega) ?_ -- pc_ 292
            refine sm_T_go 1 (c1 := (199, [some (.inr (.inr (some (9, 0)))), some (.inr (.inr (some (2, cc_)))), some (.inl a2_), some (.inr (.inl y3_)), none, some (.inl fm_), some (.inl (g_ + 1)), some (.inl rc_), some (.inl k_)], [], Sx9_)) rfl ?_
            refine sm_T_wk [some (.inr (.inr (some (9, 0)))), some (.inr (.inr (some (2, cc_)))), some (.inl a2_), some (.inr (.inl y3_)), none, some (.inl fm_), some (.inl (g_ + 1)), none, none] (by exact ⟨rfl, rfl, rfl, rfl, rfl, rfl, trivial⟩) ?_
            refine ih_.2.1 y3_ fm_ (g_ + 1) Sx9_ hIx10_ hFx13_ ⟨?_, ?_, ?_, trivial⟩ ?_
            · omega
            · first | exact hck_ | exact tk273_
            · first | exact hn1_ | exact n273_
            · omega
          · have cx15_ : ¬ (vx14_ = 0) := of_decide_eq_false cx15_
            refine sm_T_go 3 (c1 := (284, [some (.inr (.inr (some (9, 0)))), some (.inr (.inr (some (2, cc_)))), some (.inl a2_), some (.inr (.inl y3_)), none, some (.inl fm_), some (.inl g_), some (.inl rc_), some (.inl k_)], [.inr (.inr (some (2, cc_))), .inr (.inr (some (94, 0)))], Sx9_)) rfl ?_
            refine sm_T_cal (d1 := 0) (Q1 := vq_54 cc_ Sx9_) rfl rfl (by decide) (vc_54 cc_ Sx9_ hIx10_ ) (fun u_ Sx16_ px19_ => ?_)
            obtain ⟨rfl, vx21_, rfl, px19_⟩ := px19_
            have m284_ := px19_
            refine sm_T_go 1 (c1 := (289, [some (.inr (.inr (some (9, 0)))), some (.inr (.inr (some (2, cc_)))), some (.inl a2_), some (.inr (.inl y3_)), none, some (.inl fm_), some (.inl g_), some (.inl rc_), some (.inl k_)], [.inl g_, .inl vx21_, .inr (.inr (some (94, 0)))], Sx9_)) rfl ?_
            refine sm_T_bin (w := vx21_ + g_) rfl (bi_add (by omega) (by omega) (by omega)) ?_ -- pc_ 289
            refine sm_T_go 1 (c1 := (291, [some (.inr (.inr (some (9, 0)))), some (.inr (.inr (some (2, cc_)))), some (.inl a2_), some (.inr (.inl y3_)), none, some (.inl fm_), some (.inl g_), some (.inl rc_), some (.inl k_)], [.inl 1, .inl (vx21_ + g_), .inr (.inr (some (94, 0)))], Sx9_)) rfl ?_
            refine sm_T_iast (n := 162) rfl rfl (by omega) (by omega) ?_
            have hIx22_ : gi (sm_aI Sx9_ 94 0 (vx21_ + g_).toNat 1) := gi_aI hIx10_ (show 0 ≤ 1 ∧ 1 ≤ 1 from ⟨by omega, by omega⟩)
            have hFx23_ : ai_fr (sx_W vw_174) S0_ (sm_aI Sx9_ 94 0 (vx21_ + g_).toNat 1) := ai_fr_tr hFx13_ (ai_fr_aI rfl)
            refine sm_T_inc (a := 6) (z := 1) (v := g_) (w := g_ + 1) rfl rfl (by omega) (by omega) (by omega) ?_ -- pc_ 292
            refine sm_T_go 1 (c1 := (199, [some (.inr (.inr (some (9, 0)))), some (.inr (.inr (some (2, cc_)))), some (.inl a2_), some (.inr (.inl y3_)), none, some (.inl fm_), some (.inl (g_ + 1)), some (.inl rc_), some (.inl k_)], [], sm_aI Sx9_ 94 0 (vx21_ + g_).toNat 1)) rfl ?_
            refine sm_T_wk [some (.inr (.inr (some (9, 0)))), some (.inr (.inr (some (2, cc_)))), some (.inl a2_), some (.inr (.inl y3_)), none, some (.inl fm_), some (.inl (g_ + 1)), none, none] (by exact ⟨rfl, rfl, rfl, rfl, rfl, rfl, trivial⟩) ?_
            refine ih_.2.1 y3_ fm_ (g_ + 1) (sm_aI Sx9_ 94 0 (vx21_ + g_).toNat 1) hIx22_ hFx23_ ⟨?_, ?_, ?_, trivial⟩ ?_
            · omega
            · first | exact hck_ | exact tk273_
            · first | exact hn1_ | exact n273_
            · omega
      · have cx7_ : ¬ (vx6_ ≤ k_) := of_decide_eq_false cx7_
        refine sm_T_go 1 (c1 := (227, [some (.inr (.inr (some (9, 0)))), some (.inr (.inr (some (2, cc_)))), some (.inl a2_), some (.inr (.inl y3_)), none, some (.inl fm_), some (.inl g_), some (.inl rc_), some (.inl k_)], [.inl rc_], S_)) rfl ?_
        refine sm_T_b0 (a := 1) (z := 23) rfl (fun cx24_ => ?_) (fun cx24_ => ?_)
        · have cx24_ : rc_ ≠ 0 := of_decide_eq_true cx24_
          refine sm_T_go 3 (c1 := (257, [some (.inr (.inr (some (9, 0)))), some (.inr (.inr (some (2, cc_)))), some (.inl a2_), some (.inr (.inl y3_)), none, some (.inl fm_), some (.inl g_), some (.inl 1), some (.inl k_)], [], S_)) rfl ?_
          refine sm_T_inc (a := 8) (z := 1) (v := k_) (w := k_ + 1) rfl rfl (by omega) (by omega) (by omega) ?_ -- pc_ 257
          refine sm_T_go 1 (c1 := (214, [some (.inr (.inr (some (9, 0)))), some (.inr (.inr (some (2, cc_)))), some (.inl a2_), some (.inr (.inl y3_)), none, some (.inl fm_), some (.inl g_), some (.inl 1), some (.inl (k_ + 1))], [], S_)) rfl ?_
          refine ih_.2.2 y3_ fm_ g_ 1 (k_ + 1) S_ hI_ hF_ ⟨?_, ?_, ?_, trivial⟩ ?_
          · omega
          · exact hck_
          · exact hn1_
          · omega
        · have cx24_ : ¬ (rc_ ≠ 0) := of_decide_eq_false cx24_
          refine sm_T_go 6 (c1 := (241, [some (.inr (.inr (some (9, 0)))), some (.inr (.inr (some (2, cc_)))), some (.inl a2_), some (.inr (.inl y3_)), none, some (.inl fm_), some (.inl g_), some (.inl rc_), some (.inl k_)], [.inl g_, .inl 3, .inr (.inr (some (36, (0 + cc_)))), .inr (.inr (some (94, 0)))], S_)) rfl ?_
          refine sm_T_bin (w := 3 * g_) rfl (bi_mul (by omega) (by omega) (by omega)) ?_ -- pc_ 241
          refine sm_T_go 1 (c1 := (244, [some (.inr (.inr (some (9, 0)))), some (.inr (.inr (some (2, cc_)))), some (.inl a2_), some (.inr (.inl y3_)), none, some (.inl fm_), some (.inl g_), some (.inl rc_), some (.inl k_)], [.inl k_, .inl (3 * g_), .inr (.inr (some (36, (0 + cc_)))), .inr (.inr (some (94, 0)))], S_)) rfl ?_
          refine sm_T_bin (w := 3 * g_ + k_) rfl (bi_add (by omega) (by omega) (by omega)) ?_ -- pc_ 244
          refine sm_T_iald (n := 450) rfl rfl (by omega) (by omega) ?_
          have bx25_ : 0 ≤ S_.2.2.1 36 (0 + cc_) (3 * g_ + k_).toNat ∧ S_.2.2.1 36 (0 + cc_) (3 * g_ + k_).toNat ≤ 161 := hI_.2 36 (0 + cc_) _
          refine sm_T_iald (n := 162) rfl rfl (by omega) (by omega) ?_
          have bx26_ : 0 ≤ S_.2.2.1 94 0 (S_.2.2.1 36 (0 + cc_) (3 * g_ + k_).toNat).toNat ∧ S_.2.2.1 94 0 (S_.2.2.1 36 (0 + cc_) (3 * g_ + k_).toNat).toNat ≤ 1 := hI_.2 94 0 _
          refine sm_T_b0 (a := 0) (z := 7) rfl (fun cx27_ => ?_) (fun cx27_ => ?_)
          · have cx27_ : (S_.2.2.1 94 0 (S_.2.2.1 36 (0 + cc_) (3 * g_ + k_).toNat).toNat) = 0 := of_decide_eq_true cx27_
            refine sm_T_go 2 (c1 := (257, [some (.inr (.inr (some (9, 0)))), some (.inr (.inr (some (2, cc_)))), some (.inl a2_), some (.inr (.inl y3_)), none, some (.inl fm_), some (.inl g_), some (.inl 0), some (.inl k_)], [], S_)) rfl ?_
            refine sm_T_inc (a := 8) (z := 1) (v := k_) (w := k_ + 1) rfl rfl (by omega) (by omega) (by omega) ?_ -- pc_ 257
            refine sm_T_go 1 (c1 := (214, [some (.inr (.inr (some (9, 0)))), some (.inr (.inr (some (2, cc_)))), some (.inl a2_), some (.inr (.inl y3_)), none, some (.inl fm_), some (.inl g_), some (.inl 0), some (.inl (k_ + 1))], [], S_)) rfl ?_
            refine ih_.2.2 y3_ fm_ g_ 0 (k_ + 1) S_ hI_ hF_ ⟨?_, ?_, ?_, trivial⟩ ?_
            · omega
            · exact hck_
            · exact hn1_
            · omega
          · have cx27_ : ¬ ((S_.2.2.1 94 0 (S_.2.2.1 36 (0 + cc_) (3 * g_ + k_).toNat).toNat) = 0) := of_decide_eq_false cx27_
            refine sm_T_go 3 (c1 := (257, [some (.inr (.inr (some (9, 0)))), some (.inr (.inr (some (2, cc_)))), some (.inl a2_), some (.inr (.inl y3_)), none, some (.inl fm_), some (.inl g_), some (.inl 1), some (.inl k_)], [], S_)) rfl ?_
            refine sm_T_inc (a := 8) (z := 1) (v := k_) (w := k_ + 1) rfl rfl (by omega) (by omega) (by omega) ?_ -- pc_ 257
            refine sm_T_go 1 (c1 := (214, [some (.inr (.inr (some (9, 0)))), some (.inr (.inr (some (2, cc_)))), some (.inl a2_), some (.inr (.inl y3_)), none, some (.inl fm_), some (.inl g_), some (.inl 1), some (.inl (k_ + 1))], [], S_)) rfl ?_
            refine ih_.2.2 y3_ fm_ g_ 1 (k_ + 1) S_ hI_ hF_ ⟨?_, ?_, ?_, trivial⟩ ?_
            · omega
            · exact hck_
            · exact hn1_
            · omega
set_option maxHeartbeats 2000000 in
set_option maxRecDepth 20000 in
theorem vc_174 {sc_ : Nat × (Nat → Int)} (a2_ : Int) (cc_ : Nat) (S0_ : sm_S) (hI_ : gi S0_) (hs_ : S0_.1 2 cc_ 1 + S0_.1 2 cc_ 2 ≤ 12) (h2_ : 0 ≤ a2_ ∧ a2_ ≤ 1223) (hn_ : shn S0_) : sm_T (mt_P sc_) 4 174 (0, [some (.inr (.inr (some (9, 0)))), some (.inr (.inr (some (2, cc_)))), some (.inl a2_), none, none, none, none, none, none], [], S0_) (fun ro9_ => ∃ u_ S1_, ro9_ = (.inl u_, S1_, 0) ∧ vq_174 a2_ cc_ S0_ u_ S1_) := by
  have hF_ : ai_fr (sx_W vw_174) S0_ S0_ := ai_fr_rf
  refine sm_T_go 2 (c1 := (2, [some (.inr (.inr (some (9, 0)))), some (.inr (.inr (some (2, cc_)))), some (.inl a2_), none, none, none, none, none, none], [.inr (.inr (some (2, cc_))), .inr (.inr (some (9, 0)))], S0_)) rfl ?_
  refine sm_T_cal (d1 := 3) (Q1 := vq_168 cc_ S0_) rfl rfl (by decide) (vc_168 cc_ S0_ hI_ (by omega)) (fun u_ Sx1_ px4_ => ?_)
  obtain ⟨rfl, hIx2_, hFx3_, px4_⟩ := px4_
  have hFx5_ : ai_fr (sx_W vw_174) S0_ Sx1_ := ai_fr_tr hF_ (fr_le hFx3_ rfl)
  have tk2 := px4_
  have n2_ := shn_fr hn_ hFx3_
  have y1_ := hFx3_.1 2 cc_ 1 rfl
  have y2_ := hFx3_.1 2 cc_ 2 rfl
  have cw2_ : 0 ≤ Sx1_.1 9 0 2 ∧ Sx1_.1 9 0 2 ≤ 64 := hIx2_.1 9 0 2 rfl
  have cg2_ : 0 ≤ Sx1_.1 2 cc_ 8 ∧ Sx1_.1 2 cc_ 8 ≤ 150 := hIx2_.1 2 cc_ 8 rfl
  refine sm_T_go 3 (c1 := (10, [some (.inr (.inr (some (9, 0)))), some (.inr (.inr (some (2, cc_)))), some (.inl a2_), none, none, none, none, none, none], [.inl a2_, .inr (.inr (some (96, 0)))], Sx1_)) rfl ?_
  refine sm_T_iald (n := 1224) rfl rfl (by omega) (by omega) ?_
  have bx6_ : (-2147483648) ≤ Sx1_.2.2.1 96 0 a2_.toNat ∧ Sx1_.2.2.1 96 0 a2_.toNat ≤ 2147483647 := hIx2_.2 96 0 _
  refine sm_T_b0 (a := 0) (z := 4) rfl (fun cx7_ => ?_) (fun cx7_ => ?_)
  · have cx7_ : (Sx1_.2.2.1 96 0 a2_.toNat) = 0 := of_decide_eq_true cx7_
    refine sm_T_go 4 (c1 := (21, [some (.inr (.inr (some (9, 0)))), some (.inr (.inr (some (2, cc_)))), some (.inl a2_), none, none, none, none, none, none], [.inl 1, .inl a2_, .inr (.inr (some (96, 0)))], Sx1_)) rfl ?_
    refine sm_T_iast (n := 1224) rfl rfl (by omega) (by omega) ?_
    have hIx8_ : gi (sm_aI Sx1_ 96 0 a2_.toNat 1) := gi_aI hIx2_ (show (-2147483648) ≤ 1 ∧ 1 ≤ 2147483647 from ⟨by omega, by omega⟩)
    have hFx9_ : ai_fr (sx_W vw_174) S0_ (sm_aI Sx1_ 96 0 a2_.toNat 1) := ai_fr_tr hFx5_ (ai_fr_aI rfl)
    refine sm_T_go 3 (c1 := (27, [some (.inr (.inr (some (9, 0)))), some (.inr (.inr (some (2, cc_)))), some (.inl a2_), none, none, none, none, none, none], [.inl 0, .inr (.inr (some (94, 0)))], sm_aI Sx1_ 96 0 a2_.toNat 1)) rfl ?_
    refine sm_T_cal (d1 := 0) (Q1 := vq_2t4 0 (sm_aI Sx1_ 96 0 a2_.toNat 1)) rfl rfl (by decide) (vc_2t4 0 (sm_aI Sx1_ 96 0 a2_.toNat 1) hIx8_ (by decide)) (fun u_ Sx10_ px13_ => ?_)
    obtain ⟨rfl, hIx11_, hFx12_, px13_⟩ := px13_
    have hFx14_ : ai_fr (sx_W vw_174) S0_ Sx10_ := ai_fr_tr hFx9_ (fr_le hFx12_ rfl)
    have tk27_ := (hFx12_.2.1 9 0 0 rfl).trans tk2
    have n27_ := shn_fr (show shn (sm_aI Sx1_ 96 0 a2_.toNat 1) from n2_) hFx12_
    have x1_ : Sx10_.1 2 cc_ 1 = S0_.1 2 cc_ 1 := hFx14_.1 2 cc_ 1 rfl
    have x2_ : Sx10_.1 2 cc_ 2 = S0_.1 2 cc_ 2 := hFx14_.1 2 cc_ 2 rfl
    have cw3_ : 0 ≤ Sx10_.1 9 0 2 ∧ Sx10_.1 9 0 2 ≤ 64 := hIx11_.1 9 0 2 rfl
    have cg3_ : 0 ≤ Sx10_.1 2 cc_ 8 ∧ Sx10_.1 2 cc_ 8 ≤ 150 := hIx11_.1 2 cc_ 8 rfl
    refine sm_T_go 2 (c1 := (32, [some (.inr (.inr (some (9, 0)))), some (.inr (.inr (some (2, cc_)))), some (.inl a2_), none, none, none, none, none, none], [.inl 1, .inl a2_], Sx10_)) rfl ?_
    refine sm_T_bin (w := (a2_ % 2)) rfl (bi_msk (k := 1) (by decide)) ?_ -- pc_ 32
    refine sm_T_b0 (a := 1) (z := 7) rfl (fun cx15_ => ?_) (fun cx15_ => ?_)
    · have cx15_ : (a2_ % 2) ≠ 0 := of_decide_eq_true cx15_
      refine sm_T_nt (u := some (.inr (.inl (-1)))) (S1 := Sx10_) rfl rfl rfl ?_
      refine sm_T_go 4 (c1 := (47, [some (.inr (.inr (some (9, 0)))), some (.inr (.inr (some (2, cc_)))), some (.inl a2_), some (.inr (.inl (-1))), none, none, none, none, none], [.inr (.inr (some (2, cc_))), .inl 2, .inl a2_], Sx10_)) rfl ?_
      refine sm_T_cal (d1 := 0) (Q1 := vq_55 cc_ Sx10_) rfl rfl (by decide) (vc_55 cc_ Sx10_ hIx11_ ) (fun u_ Sx16_ px19_ => ?_)
      obtain ⟨rfl, vx21_, rfl, px19_⟩ := px19_
      have m47_ := px19_
      refine sm_T_bin (w := 2 * vx21_) rfl (bi_mul (by omega) (by omega) (by omega)) ?_ -- pc_ 50
      refine sm_T_br (a := 3) (z := 57) rfl (fun cx22_ => ?_) (fun cx22_ => ?_)
      · have cx22_ : 2 * vx21_ ≤ a2_ := of_decide_eq_true cx22_
        refine sm_T_go 2 (c1 := (110, [some (.inr (.inr (some (9, 0)))), some (.inr (.inr (some (2, cc_)))), some (.inl a2_), some (.inr (.inl (-1))), none, none, none, none, none], [.inl 2, .inl a2_], Sx10_)) rfl ?_
        refine sm_T_bin (w := (a2_ / 2)) rfl (bi_div (by omega) (by omega) (by omega) (by omega)) ?_ -- pc_ 110
        refine sm_T_go 1 (c1 := (112, [some (.inr (.inr (some (9, 0)))), some (.inr (.inr (some (2, cc_)))), some (.inl a2_), some (.inr (.inl (-1))), none, none, none, none, none], [.inr (.inr (some (2, cc_))), .inl (a2_ / 2)], Sx10_)) rfl ?_
        refine sm_T_cal (d1 := 0) (Q1 := vq_55 cc_ Sx10_) rfl rfl (by decide) (vc_55 cc_ Sx10_ hIx11_ ) (fun u_ Sx23_ px26_ => ?_)
        obtain ⟨rfl, vx28_, rfl, px26_⟩ := px26_
        have m112_ := px26_
        refine sm_T_bin (w := (a2_ / 2) - vx28_) rfl (bi_sub (by omega) (by omega) (by omega)) ?_ -- pc_ 115
        refine sm_T_go 3 (c1 := (121, [some (.inr (.inr (some (9, 0)))), some (.inr (.inr (some (2, cc_)))), some (.inl a2_), some (.inr (.inl (-1))), none, none, some (.inl ((a2_ / 2) - vx28_)), some (.inl 0), none], [], Sx10_)) rfl ?_
        refine (vl_174 a2_ cc_ S0_ hs_ h2_ hn_ _).1 (-1) ((a2_ / 2) - vx28_) 0 Sx10_ hIx11_ hFx14_ ⟨?_, ?_, ?_, trivial⟩ (Nat.lt_succ_self _)
        · omega
        · exact tk27_
        · exact n27_
      · have cx22_ : ¬ (2 * vx21_ ≤ a2_) := of_decide_eq_false cx22_
        refine sm_T_go 2 (c1 := (56, [some (.inr (.inr (some (9, 0)))), some (.inr (.inr (some (2, cc_)))), some (.inl a2_), some (.inr (.inl (-1))), none, none, none, none, none], [.inl 1, .inl a2_], Sx10_)) rfl ?_
        refine sm_T_bin (w := (a2_ / 2)) rfl (bi_shr (k := 1) (by decide) (by omega) (by omega)) ?_ -- pc_ 56
        refine sm_T_go 5 (c1 := (66, [some (.inr (.inr (some (9, 0)))), some (.inr (.inr (some (2, cc_)))), some (.inl a2_), some (.inr (.inl (-1))), none, none, some (.inl (a2_ / 2)), none, none], [.inl 1, .inl (a2_ / 2), .inr (.inr (some (94, 0)))], Sx10_)) rfl ?_
        refine sm_T_iast (n := 162) rfl rfl (by omega) (by omega) ?_
        have hIx29_ : gi (sm_aI Sx10_ 94 0 (a2_ / 2).toNat 1) := gi_aI hIx11_ (show 0 ≤ 1 ∧ 1 ≤ 1 from ⟨by omega, by omega⟩)
        have hFx30_ : ai_fr (sx_W vw_174) S0_ (sm_aI Sx10_ 94 0 (a2_ / 2).toNat 1) := ai_fr_tr hFx14_ (ai_fr_aI rfl)
        refine sm_T_go 4 (c1 := (75, [some (.inr (.inr (some (9, 0)))), some (.inr (.inr (some (2, cc_)))), some (.inl a2_), some (.inr (.inl (-1))), none, none, some (.inl (a2_ / 2)), none, none], [.inl 64, .inl (a2_ / 2), .inr (.inr (some (93, 0)))], sm_aI Sx10_ 94 0 (a2_ / 2).toNat 1)) rfl ?_
        refine sm_T_bin (w := 64 * (a2_ / 2)) rfl (bi_mul (by omega) (by omega) (by omega)) ?_ -- pc_ 75
        refine sm_T_go 2 (c1 := (80, [some (.inr (.inr (some (9, 0)))), some (.inr (.inr (some (2, cc_)))), some (.inl a2_), some (.inr (.inl (-1))), none, none, some (.inl (a2_ / 2)), none, none], [.inl 64, .inl (a2_ / 2), .inl (64 * (a2_ / 2)), .inr (.inr (some (93, 0)))], sm_aI Sx10_ 94 0 (a2_ / 2).toNat 1)) rfl ?_
        refine sm_T_bin (w := 64 * (a2_ / 2)) rfl (bi_mul (by omega) (by omega) (by omega)) ?_ -- pc_ 80
        have bx31_ : 0 ≤ Sx10_.1 9 0 2 ∧ Sx10_.1 9 0 2 ≤ 64 := hIx11_.1 9 0 2 rfl
        refine sm_T_go 2 (c1 := (85, [some (.inr (.inr (some (9, 0)))), some (.inr (.inr (some (2, cc_)))), some (.inl a2_), some (.inr (.inl (-1))), none, none, some (.inl (a2_ / 2)), none, none], [.inl (Sx10_.1 9 0 2), .inl (64 * (a2_ / 2)), .inl (64 * (a2_ / 2)), .inr (.inr (some (93, 0)))], sm_aI Sx10_ 94 0 (a2_ / 2).toNat 1)) rfl ?_
        refine sm_T_bin (w := 64 * (a2_ / 2) + (Sx10_.1 9 0 2)) rfl (bi_add (by omega) (by omega) (by omega)) ?_ -- pc_ 85
        refine sm_T_go 1 (c1 := (87, [some (.inr (.inr (some (9, 0)))), some (.inr (.inr (some (2, cc_)))), some (.inl a2_), some (.inr (.inl (-1))), none, none, some (.inl (a2_ / 2)), none, none], [.inr (.inl (-1)), .inl (64 * (a2_ / 2) + (Sx10_.1 9 0 2)), .inl (64 * (a2_ / 2)), .inr (.inr (some (93, 0)))], sm_aI Sx10_ 94 0 (a2_ / 2).toNat 1)) rfl ?_
        refine sm_T_cal (d1 := 1) (Q1 := vq_5b3 (64 * (a2_ / 2)) (64 * (a2_ / 2) + (Sx10_.1 9 0 2)) (-1) (sm_aI Sx10_ 94 0 (a2_ / 2).toNat 1)) rfl rfl (by decide) (vc_5b3 (64 * (a2_ / 2)) (64 * (a2_ / 2) + (Sx10_.1 9 0 2)) (-1) (sm_aI Sx10_ 94 0 (a2_ / 2).toNat 1) hIx29_ (by omega)) (fun u_ Sx32_ px35_ => ?_)
        obtain ⟨rfl, hIx33_, hFx34_, px35_⟩ := px35_
        have hFx36_ : ai_fr (sx_W vw_174) S0_ Sx32_ := ai_fr_tr hFx30_ (fr_le hFx34_ rfl)
        have tk87_ := (hFx34_.2.1 9 0 0 rfl).trans tk27_
        have n87_ := shn_fr (show shn (sm_aI Sx10_ 94 0 (a2_ / 2).toNat 1) from n27_) hFx34_
        have v1_ : Sx32_.1 2 cc_ 1 = S0_.1 2 cc_ 1 := hFx36_.1 2 cc_ 1 rfl
        have v2_ : Sx32_.1 2 cc_ 2 = S0_.1 2 cc_ 2 := hFx36_.1 2 cc_ 2 rfl
        refine sm_T_go 3 (c1 := (94, [some (.inr (.inr (some (9, 0)))), some (.inr (.inr (some (2, cc_)))), some (.inl a2_), some (.inr (.inl (-1))), none, none, some (.inl (a2_ / 2)), none, none], [.inr (.inr (some (2, cc_))), .inl (a2_ / 2), .inl 0], Sx32_)) rfl ?_
        refine sm_T_cal (d1 := 0) (Q1 := vq_54 cc_ Sx32_) rfl rfl (by decide) (vc_54 cc_ Sx32_ hIx33_ ) (fun u_ Sx37_ px40_ => ?_)
        obtain ⟨rfl, vx42_, rfl, px40_⟩ := px40_
        have m94_ := px40_
        refine sm_T_bin (w := (a2_ / 2) - vx42_) rfl (bi_sub (by omega) (by omega) (by omega)) ?_ -- pc_ 97
        refine sm_T_go 1 (c1 := (99, [some (.inr (.inr (some (9, 0)))), some (.inr (.inr (some (2, cc_)))), some (.inl a2_), some (.inr (.inl (-1))), none, none, some (.inl (a2_ / 2)), none, none], [.inl 1, .inl ((a2_ / 2) - vx42_), .inl 0], Sx32_)) rfl ?_
        refine sm_T_bin (w := (a2_ / 2) - vx42_ + 1) rfl (bi_add (by omega) (by omega) (by omega)) ?_ -- pc_ 99
        refine sm_T_nt (u := some (.inl (sm_mx 0 ((a2_ / 2) - vx42_ + 1)))) (S1 := Sx32_) rfl rfl rfl ?_
        have bx43_ := sm_mx_d 0 ((a2_ / 2) - vx42_ + 1)
        refine sm_T_go 4 (c1 := (199, [some (.inr (.inr (some (9, 0)))), some (.inr (.inr (some (2, cc_)))), some (.inl a2_), some (.inr (.inl (-1))), none, some (.inl (sm_mx 0 ((a2_ / 2) - vx42_ + 1))), some (.inl (sm_mx 0 ((a2_ / 2) - vx42_ + 1))), none, none], [], Sx32_)) rfl ?_
        refine (vl_174 a2_ cc_ S0_ hs_ h2_ hn_ _).2.1 (-1) (sm_mx 0 ((a2_ / 2) - vx42_ + 1)) (sm_mx 0 ((a2_ / 2) - vx42_ + 1)) Sx32_ hIx33_ hFx36_ ⟨?_, ?_, ?_, trivial⟩ (Nat.lt_succ_self _)
        · omega
        · exact tk87_
        · exact n87_
    · have cx15_ : ¬ ((a2_ % 2) ≠ 0) := of_decide_eq_false cx15_
      refine sm_T_go 6 (c1 := (47, [some (.inr (.inr (some (9, 0)))), some (.inr (.inr (some (2, cc_)))), some (.inl a2_), some (.inr (.inl 0)), none, none, none, none, none], [.inr (.inr (some (2, cc_))), .inl 2, .inl a2_], Sx10_)) rfl ?_
      refine sm_T_cal (d1 := 0) (Q1 := vq_55 cc_ Sx10_) rfl rfl (by decide) (vc_55 cc_ Sx10_ hIx11_ ) (fun u_ Sx44_ px47_ => ?_)
      obtain ⟨rfl, vx49_, rfl, px47_⟩ := px47_
      have m47_ := px47_
      refine sm_T_bin (w := 2 * vx49_) rfl (bi_mul (by omega) (by omega) (by omega)) ?_ -- pc_ 50
      refine sm_T_br (a := 3) (z := 57) rfl (fun cx50_ => ?_) (fun cx50_ => ?_)
      · have cx50_ : 2 * vx49_ ≤ a2_ := of_decide_eq_true cx50_
        refine sm_T_go 2 (c1 := (110, [some (.inr (.inr (some (9, 0)))), some (.inr (.inr (some (2, cc_)))), some (.inl a2_), some (.inr (.inl 0)), none, none, none, none, none], [.inl 2, .inl a2_], Sx10_)) rfl ?_
        refine sm_T_bin (w := (a2_ / 2)) rfl (bi_div (by omega) (by omega) (by omega) (by omega)) ?_ -- pc_ 110
        refine sm_T_go 1 (c1 := (112, [some (.inr (.inr (some (9, 0)))), some (.inr (.inr (some (2, cc_)))), some (.inl a2_), some (.inr (.inl 0)), none, none, none, none, none], [.inr (.inr (some (2, cc_))), .inl (a2_ / 2)], Sx10_)) rfl ?_
        refine sm_T_cal (d1 := 0) (Q1 := vq_55 cc_ Sx10_) rfl rfl (by decide) (vc_55 cc_ Sx10_ hIx11_ ) (fun u_ Sx51_ px54_ => ?_)
        obtain ⟨rfl, vx56_, rfl, px54_⟩ := px54_
        have m112_ := px54_
        refine sm_T_bin (w := (a2_ / 2) - vx56_) rfl (bi_sub (by omega) (by omega) (by omega)) ?_ -- pc_ 115
        refine sm_T_go 3 (c1 := (121, [some (.inr (.inr (some (9, 0)))), some (.inr (.inr (some (2, cc_)))), some (.inl a2_), some (.inr (.inl 0)), none, none, some (.inl ((a2_ / 2) - vx56_)), some (.inl 0), none], [], Sx10_)) rfl ?_
        refine (vl_174 a2_ cc_ S0_ hs_ h2_ hn_ _).1 0 ((a2_ / 2) - vx56_) 0 Sx10_ hIx11_ hFx14_ ⟨?_, ?_, ?_, trivial⟩ (Nat.lt_succ_self _)
        · omega
        · exact tk27_
        · exact n27_
      · have cx50_ : ¬ (2 * vx49_ ≤ a2_) := of_decide_eq_false cx50_
        refine sm_T_go 2 (c1 := (56, [some (.inr (.inr (some (9, 0)))), some (.inr (.inr (some (2, cc_)))), some (.inl a2_), some (.inr (.inl 0)), none, none, none, none, none], [.inl 1, .inl a2_], Sx10_)) rfl ?_
        refine sm_T_bin (w := (a2_ / 2)) rfl (bi_shr (k := 1) (by decide) (by omega) (by omega)) ?_ -- pc_ 56
        refine sm_T_go 5 (c1 := (66, [some (.inr (.inr (some (9, 0)))), some (.inr (.inr (some (2, cc_)))), some (.inl a2_), some (.inr (.inl 0)), none, none, some (.inl (a2_ / 2)), none, none], [.inl 1, .inl (a2_ / 2), .inr (.inr (some (94, 0)))], Sx10_)) rfl ?_
        refine sm_T_iast (n := 162) rfl rfl (by omega) (by omega) ?_
        have hIx57_ : gi (sm_aI Sx10_ 94 0 (a2_ / 2).toNat 1) := gi_aI hIx11_ (show 0 ≤ 1 ∧ 1 ≤ 1 from ⟨by omega, by omega⟩)
        have hFx58_ : ai_fr (sx_W vw_174) S0_ (sm_aI Sx10_ 94 0 (a2_ / 2).toNat 1) := ai_fr_tr hFx14_ (ai_fr_aI rfl)
        refine sm_T_go 4 (c1 := (75, [some (.inr (.inr (some (9, 0)))), some (.inr (.inr (some (2, cc_)))), some (.inl a2_), some (.inr (.inl 0)), none, none, some (.inl (a2_ / 2)), none, none], [.inl 64, .inl (a2_ / 2), .inr (.inr (some (93, 0)))], sm_aI Sx10_ 94 0 (a2_ / 2).toNat 1)) rfl ?_
        refine sm_T_bin (w := 64 * (a2_ / 2)) rfl (bi_mul (by omega) (by omega) (by omega)) ?_ -- pc_ 75
        refine sm_T_go 2 (c1 := (80, [some (.inr (.inr (some (9, 0)))), some (.inr (.inr (some (2, cc_)))), some (.inl a2_), some (.inr (.inl 0)), none, none, some (.inl (a2_ / 2)), none, none], [.inl 64, .inl (a2_ / 2), .inl (64 * (a2_ / 2)), .inr (.inr (some (93, 0)))], sm_aI Sx10_ 94 0 (a2_ / 2).toNat 1)) rfl ?_
        refine sm_T_bin (w := 64 * (a2_ / 2)) rfl (bi_mul (by omega) (by omega) (by omega)) ?_ -- pc_ 80
        have bx59_ : 0 ≤ Sx10_.1 9 0 2 ∧ Sx10_.1 9 0 2 ≤ 64 := hIx11_.1 9 0 2 rfl
        refine sm_T_go 2 (c1 := (85, [some (.inr (.inr (some (9, 0)))), some (.inr (.inr (some (2, cc_)))), some (.inl a2_), some (.inr (.inl 0)), none, none, some (.inl (a2_ / 2)), none, none], [.inl (Sx10_.1 9 0 2), .inl (64 * (a2_ / 2)), .inl (64 * (a2_ / 2)), .inr (.inr (some (93, 0)))], sm_aI Sx10_ 94 0 (a2_ / 2).toNat 1)) rfl ?_
        refine sm_T_bin (w := 64 * (a2_ / 2) + (Sx10_.1 9 0 2)) rfl (bi_add (by omega) (by omega) (by omega)) ?_ -- pc_ 85
        refine sm_T_go 1 (c1 := (87, [some (.inr (.inr (some (9, 0)))), some (.inr (.inr (some (2, cc_)))), some (.inl a2_), some (.inr (.inl 0)), none, none, some (.inl (a2_ / 2)), none, none], [.inr (.inl 0), .inl (64 * (a2_ / 2) + (Sx10_.1 9 0 2)), .inl (64 * (a2_ / 2)), .inr (.inr (some (93, 0)))], sm_aI Sx10_ 94 0 (a2_ / 2).toNat 1)) rfl ?_
        refine sm_T_cal (d1 := 1) (Q1 := vq_5b3 (64 * (a2_ / 2)) (64 * (a2_ / 2) + (Sx10_.1 9 0 2)) 0 (sm_aI Sx10_ 94 0 (a2_ / 2).toNat 1)) rfl rfl (by decide) (vc_5b3 (64 * (a2_ / 2)) (64 * (a2_ / 2) + (Sx10_.1 9 0 2)) 0 (sm_aI Sx10_ 94 0 (a2_ / 2).toNat 1) hIx57_ (by omega)) (fun u_ Sx60_ px63_ => ?_)
        obtain ⟨rfl, hIx61_, hFx62_, px63_⟩ := px63_
        have hFx64_ : ai_fr (sx_W vw_174) S0_ Sx60_ := ai_fr_tr hFx58_ (fr_le hFx62_ rfl)
        have tk87_ := (hFx62_.2.1 9 0 0 rfl).trans tk27_
        have n87_ := shn_fr (show shn (sm_aI Sx10_ 94 0 (a2_ / 2).toNat 1) from n27_) hFx62_
        have v1_ : Sx60_.1 2 cc_ 1 = S0_.1 2 cc_ 1 := hFx64_.1 2 cc_ 1 rfl
        have v2_ : Sx60_.1 2 cc_ 2 = S0_.1 2 cc_ 2 := hFx64_.1 2 cc_ 2 rfl
        refine sm_T_go 3 (c1 := (94, [some (.inr (.inr (some (9, 0)))), some (.inr (.inr (some (2, cc_)))), some (.inl a2_), some (.inr (.inl 0)), none, none, some (.inl (a2_ / 2)), none, none], [.inr (.inr (some (2, cc_))), .inl (a2_ / 2), .inl 0], Sx60_)) rfl ?_
        refine sm_T_cal (d1 := 0) (Q1 := vq_54 cc_ Sx60_) rfl rfl (by decide) (vc_54 cc_ Sx60_ hIx61_ ) (fun u_ Sx65_ px68_ => ?_)
        obtain ⟨rfl, vx70_, rfl, px68_⟩ := px68_
        have m94_ := px68_
        refine sm_T_bin (w := (a2_ / 2) - vx70_) rfl (bi_sub (by omega) (by omega) (by omega)) ?_ -- pc_ 97
        refine sm_T_go 1 (c1 := (99, [some (.inr (.inr (some (9, 0)))), some (.inr (.inr (some (2, cc_)))), some (.inl a2_), some (.inr (.inl 0)), none, none, some (.inl (a2_ / 2)), none, none], [.inl 1, .inl ((a2_ / 2) - vx70_), .inl 0], Sx60_)) rfl ?_
        refine sm_T_bin (w := (a2_ / 2) - vx70_ + 1) rfl (bi_add (by omega) (by omega) (by omega)) ?_ -- pc_ 99
        refine sm_T_nt (u := some (.inl (sm_mx 0 ((a2_ / 2) - vx70_ + 1)))) (S1 := Sx60_) rfl rfl rfl ?_
        have bx71_ := sm_mx_d 0 ((a2_ / 2) - vx70_ + 1)
        refine sm_T_go 4 (c1 := (199, [some (.inr (.inr (some (9, 0)))), some (.inr (.inr (some (2, cc_)))), some (.inl a2_), some (.inr (.inl 0)), none, some (.inl (sm_mx 0 ((a2_ / 2) - vx70_ + 1))), some (.inl (sm_mx 0 ((a2_ / 2) - vx70_ + 1))), none, none], [], Sx60_)) rfl ?_
        refine (vl_174 a2_ cc_ S0_ hs_ h2_ hn_ _).2.1 0 (sm_mx 0 ((a2_ / 2) - vx70_ + 1)) (sm_mx 0 ((a2_ / 2) - vx70_ + 1)) Sx60_ hIx61_ hFx64_ ⟨?_, ?_, ?_, trivial⟩ (Nat.lt_succ_self _)
        · omega
        · exact tk87_
        · exact n87_
  · have cx7_ : ¬ ((Sx1_.2.2.1 96 0 a2_.toNat) = 0) := of_decide_eq_false cx7_
    refine sm_T_rv rfl ⟨_, _, rfl, rfl, hIx2_, hFx5_, ?_⟩
    exact ⟨tk2, n2_⟩
