/-! 99.zr8 -/
section
/-! the reference: nets routed; written by wip/p55/gen/vg -/

/-! the_ reference: nets routed -/
/-- all_ that a_ route stands on_ -/
def rws (S_ : sm_S) : Prop := ∀ i_ : Int, 0 ≤ i_ → i_ < S_.1 13 0 184 → hpn S_ (S_.2.2.1 262 0 i_.toNat)
theorem rws_fr {w_ : sx_Wl} {S_ S'_ : sm_S} (h_ : rws S_) (g_ : ai_fr (sx_W w_) S_ S'_) (h1_ : (sx_W w_).1 13 184 = false := by rfl) (h2_ : (sx_W w_).2.1 262 = false := by rfl) (h3_ : (sx_W w_).2.1 243 = false := by rfl) (h5_ : (sx_W w_).1 13 159 = false := by rfl) : rws S'_ := by
  unfold rws
  rw [g_.1 13 0 184 h1_, fr_arr g_ h2_]
  exact fun i_ a_ b_ => hpn_fr (h_ i_ a_ b_) g_ h3_ h5_
def opz (S_ : sm_S) (n_ : Int) : Prop := ∀ j_ : Int, 0 ≤ j_ → j_ < n_ → S_.2.2.1 256 0 (256 * S_.1 13 0 177 + S_.2.2.1 262 0 j_.toNat).toNat = 0
theorem pcx_h {S_ : sm_S} {n_ : Int} (h_ : pcx S_ (S_.1 13 0 159) n_) (g_ : 2 ≤ S_.2.2.1 246 0 n_.toNat) : hpn S_ n_ := by
  obtain ⟨k_, a_, b_, c_⟩ := h_ (by omega)
  exact ⟨k_, a_, b_, c_⟩
theorem pnv_w {N_ X_ Y_ : Int} {S_ : sm_S} (h_ : pnv N_ X_ Y_ S_) (hx_ : X_ ≤ S_.1 13 0 174) (hy_ : Y_ ≤ S_.1 13 0 175) : pnw S_ := fun k_ a_ b_ => by
  have q_ := h_ k_ a_ b_
  omega
theorem npk_g {S_ : sm_S} {net_ de_ v_ : Int} (h_ : npk S_ net_ de_ v_) (hI_ : gi S_) (hg_ : grd S_) : 0 ≤ v_ ∧ v_ < S_.1 13 0 176 ∧ S_.2.2.1 258 0 v_.toNat < 1000000000 ∧ 0 < S_.2.2.1 258 0 v_.toNat := by
  obtain ⟨⟨a_, b_, c_, d_⟩, e_, f_, g_⟩ := h_
  have m_ := grd_m hg_
  have k_ := hg_.2.2.2.2
  have z_ : 0 ≤ S_.2.2.1 258 0 v_.toNat := (hI_.2 258 0 v_.toNat).1
  refine ⟨a_, by omega, c_, ?_⟩
  by_cases y_ : S_.2.2.1 258 0 v_.toNat = 0
  · exact absurd (f_ v_ a_ (by omega) y_) d_
  · omega
/-! M_.connect -/
def vw_461 : sx_Wl := ([], [252, 253, 254, 255, 256, 258, 259, 260, 261], [])
def vq_461 (net_ : Int) (de_ : Int) (S0_ : sm_S) (u_ : Option sm_V) (S1_ : sm_S) : Prop := ∃ v_ : Int, u_ = some (.inl v_) ∧ gi S1_ ∧ ai_fr (sx_W vw_461) S0_ S1_ ∧ (v_ = 0 ∨ v_ = 1)
set_option maxHeartbeats 4000000 in
set_option maxRecDepth 20000 in
theorem vl_461 {sc_ : Nat × (Nat → Int)} (net_ : Int) (de_ : Int) (S0_ : sm_S) (hgr_ : grd S0_) (hn_ : 0 ≤ net_ ∧ net_ ≤ 161) (hde_ : 0 ≤ de_ ∧ de_ ≤ 1) (hpw_ : pnw S0_) (hpn : hpn S0_ net_) : ∀ nn_ : Nat, (∀ (fi_ : Int) (k_ : Int) (S_ : sm_S), gi S_ → ai_fr (sx_W vw_461) S0_ S_ → ((0 ≤ k_ ∧ -1 ≤ fi_ ∧ fi_ < S_.1 13 0 174 * S_.1 13 0 175) ∧ (fi_ ≠ -1 ∨ hpk S_ net_ k_) ∧ True) → (90000000 + (9000 - k_).toNat) < nn_ → sm_T (mt_P sc_) 4 461 (5, [some (.inr (.inr (some (13, 0)))), some (.inl net_), some (.inl de_), some (.inl fi_), some (.inl k_), none, none, none], [], S_) (fun ro9_ => ∃ u_ S1_, ro9_ = (.inl u_, S1_, 0) ∧ vq_461 net_ de_ S0_ u_ S1_)) ∧ (∀ (pin_ : Int) (S_ : sm_S), gi S_ → ai_fr (sx_W vw_461) S0_ S_ → (((-2 ≤ pin_ ∧ pin_ < 0) ∨ npk S_ net_ de_ pin_) ∧ True) → (20000 * (cn1 (uc S_ net_ (-1)) (S_.1 13 0 159).toNat) + 15000) < nn_ → sm_T (mt_P sc_) 4 461 (109, [some (.inr (.inr (some (13, 0)))), some (.inl net_), some (.inl de_), none, some (.inl pin_), none, none, none], [], S_) (fun ro9_ => ∃ u_ S1_, ro9_ = (.inl u_, S1_, 0) ∧ vq_461 net_ de_ S0_ u_ S1_)) ∧ (∀ (pin_ : Int) (n_ : Int) (k_ : Int) (S_ : sm_S), gi S_ → ai_fr (sx_W vw_461) S0_ S_ → ((0 ≤ pin_ ∧ pin_ < S_.1 13 0 176 ∧ 1 ≤ n_ ∧ n_ < S_.1 13 0 176 ∧ 0 ≤ k_ ∧ k_ ≤ n_ ∧ S_.2.2.1 261 0 0 = pin_) ∧ (∀ j9_ : Int, 0 ≤ j9_ → j9_ ≤ n_ → 0 ≤ S_.2.2.1 261 0 j9_.toNat ∧ S_.2.2.1 261 0 j9_.toNat < S_.1 13 0 176) ∧ (nbk S_ net_ pin_) ∧ (nta S_ pin_ ≠ net_) ∧ True) → (20000 * (cn1 (uc S_ net_ (-1)) (S_.1 13 0 159).toNat) + (14000 - k_).toNat) < nn_ → sm_T (mt_P sc_) 4 461 (127, [some (.inr (.inr (some (13, 0)))), some (.inl net_), some (.inl de_), none, some (.inl pin_), some (.inl n_), some (.inl k_), none], [], S_) (fun ro9_ => ∃ u_ S1_, ro9_ = (.inl u_, S1_, 0) ∧ vq_461 net_ de_ S0_ u_ S1_)) ∧ (∀ (pin_ : Int) (n_ : Int) (k_ : Int) (S_ : sm_S), gi S_ → ai_fr (sx_W vw_461) S0_ S_ → ((0 ≤ pin_ ∧ pin_ < S_.1 13 0 176 ∧ 1 ≤ n_ ∧ n_ < S_.1 13 0 176 ∧ 0 ≤ k_ ∧ k_ ≤ n_ ∧ S_.2.2.1 261 0 0 = pin_) ∧ (∀ j9_ : Int, 0 ≤ j9_ → j9_ ≤ n_ → 0 ≤ S_.2.2.1 261 0 j9_.toNat ∧ S_.2.2.1 261 0 j9_.toNat < S_.1 13 0 176) ∧ (nbk S_ net_ pin_) ∧ (k_ = 0 ∨ nta S_ pin_ = net_) ∧ True) → (20000 * (cn1 (uc S_ net_ pin_) (S_.1 13 0 159).toNat + 1) + (9000 - k_).toNat) < nn_ → sm_T (mt_P sc_) 4 461 (174, [some (.inr (.inr (some (13, 0)))), some (.inl net_), some (.inl de_), none, some (.inl pin_), some (.inl n_), some (.inl k_), none], [], S_) (fun ro9_ => ∃ u_ S1_, ro9_ = (.inl u_, S1_, 0) ∧ vq_461 net_ de_ S0_ u_ S1_)) := by
  intro nn_
  induction nn_ with
  | zero => exact ⟨fun _ _ _ _ _ _ h_ => absurd h_ (Nat.not_lt_zero _), fun _ _ _ _ _ h_ => absurd h_ (Nat.not_lt_zero _), fun _ _ _ _ _ _ _ h_ => absurd h_ (Nat.not_lt_zero _), fun _ _ _ _ _ _ _ h_ => absurd h_ (Nat.not_lt_zero _)⟩
  | succ nn_ ih_ =>
    refine ⟨?_, ?_, ?_, ?_⟩
    · rintro fi_ k_ S_ hI_ hF_ ⟨h0_, hx_, -⟩ hm_
      have g174_ : S_.1 13 0 174 = S0_.1 13 0 174 := hF_.1 13 0 174 rfl
      have g175_ : S_.1 13 0 175 = S0_.1 13 0 175 := hF_.1 13 0 175 rfl
      have g176_ : S_.1 13 0 176 = S0_.1 13 0 176 := hF_.1 13 0 176 rfl
      have g159_ : S_.1 13 0 159 = S0_.1 13 0 159 := hF_.1 13 0 159 rfl
      have g177_ : S_.1 13 0 177 = S0_.1 13 0 177 := hF_.1 13 0 177 rfl
      have gr9_ := grd_fr hgr_ hF_
      have pw9_ := pnw_fr hpw_ hF_
      have gm9_ := grd_m gr9_
      have g5_ := gr9_.2.2.2.2
      have P9_ : 0 ≤ S_.1 13 0 159 ∧ S_.1 13 0 159 ≤ 700 := hI_.1 13 0 159 rfl
      have b177_ : 0 ≤ S_.1 13 0 177 ∧ S_.1 13 0 177 ≤ 3 := hI_.1 13 0 177 rfl
      have bx1_ : 0 ≤ S_.1 13 0 159 ∧ S_.1 13 0 159 ≤ 700 := hI_.1 13 0 159 rfl
      refine sm_T_go 3 (c1 := (11, [some (.inr (.inr (some (13, 0)))), some (.inl net_), some (.inl de_), some (.inl fi_), some (.inl k_), none, none, none], [.inl (S_.1 13 0 159), .inl k_], S_)) rfl ?_
      refine sm_T_br (a := 3) (z := 58) rfl (fun cx2_ => ?_) (fun cx2_ => ?_)
      · have cx2_ : (S_.1 13 0 159) ≤ k_ := of_decide_eq_true cx2_
        have f1_ : fi_ ≠ -1 := by (rcases hx_ with y9_ | y9_; exact y9_; (obtain ⟨j9_, a9_, b9_, c9_⟩ := y9_; omega))
        have bx3_ : 0 ≤ S_.1 13 0 177 ∧ S_.1 13 0 177 ≤ 3 := hI_.1 13 0 177 rfl
        refine sm_T_go 5 (c1 := (80, [some (.inr (.inr (some (13, 0)))), some (.inl net_), some (.inl de_), some (.inl fi_), some (.inl k_), none, none, none], [.inl (S_.1 13 0 177), .inl 4712, .inr (.inr (some (252, 0)))], S_)) rfl ?_
        refine sm_T_bin (w := 4712 * (S_.1 13 0 177)) rfl (bi_mul (by omega) (by omega) (by omega)) ?_ -- pc_ 80
        refine sm_T_go 1 (c1 := (82, [some (.inr (.inr (some (13, 0)))), some (.inl net_), some (.inl de_), some (.inl fi_), some (.inl k_), none, none, none], [.inl fi_, .inl (4712 * (S_.1 13 0 177)), .inr (.inr (some (252, 0)))], S_)) rfl ?_
        refine sm_T_bin (w := 4712 * (S_.1 13 0 177) + fi_) rfl (bi_add (by omega) (by omega) (by omega)) ?_ -- pc_ 82
        refine sm_T_go 1 (c1 := (84, [some (.inr (.inr (some (13, 0)))), some (.inl net_), some (.inl de_), some (.inl fi_), some (.inl k_), none, none, none], [.inl net_, .inl (4712 * (S_.1 13 0 177) + fi_), .inr (.inr (some (252, 0)))], S_)) rfl ?_
        refine sm_T_iast (n := 18848) rfl rfl (by omega) (by omega) ?_
        have hIx4_ : gi (sm_aI S_ 252 0 (4712 * (S_.1 13 0 177) + fi_).toNat net_) := gi_aI hI_ (show (-1) ≤ net_ ∧ net_ ≤ 161 from ⟨by omega, by omega⟩)
        have hFx5_ : ai_fr (sx_W vw_461) S0_ (sm_aI S_ 252 0 (4712 * (S_.1 13 0 177) + fi_).toNat net_) := ai_fr_tr hF_ (ai_fr_aI rfl)
        refine sm_T_go 5 (c1 := (96, [some (.inr (.inr (some (13, 0)))), some (.inl net_), some (.inl de_), some (.inl fi_), some (.inl k_), none, none, none], [.inl (S_.1 13 0 177), .inl 256, .inr (.inr (some (256, 0)))], sm_aI S_ 252 0 (4712 * (S_.1 13 0 177) + fi_).toNat net_)) rfl ?_
        refine sm_T_bin (w := 256 * (S_.1 13 0 177)) rfl (bi_mul (by omega) (by omega) (by omega)) ?_ -- pc_ 96
        refine sm_T_go 1 (c1 := (98, [some (.inr (.inr (some (13, 0)))), some (.inl net_), some (.inl de_), some (.inl fi_), some (.inl k_), none, none, none], [.inl net_, .inl (256 * (S_.1 13 0 177)), .inr (.inr (some (256, 0)))], sm_aI S_ 252 0 (4712 * (S_.1 13 0 177) + fi_).toNat net_)) rfl ?_
        refine sm_T_bin (w := 256 * (S_.1 13 0 177) + net_) rfl (bi_add (by omega) (by omega) (by omega)) ?_ -- pc_ 98
        refine sm_T_go 1 (c1 := (100, [some (.inr (.inr (some (13, 0)))), some (.inl net_), some (.inl de_), some (.inl fi_), some (.inl k_), none, none, none], [.inl 0, .inl (256 * (S_.1 13 0 177) + net_), .inr (.inr (some (256, 0)))], sm_aI S_ 252 0 (4712 * (S_.1 13 0 177) + fi_).toNat net_)) rfl ?_
        refine sm_T_zas1 (n := 1024) rfl rfl (by omega) (by omega) (by omega) ?_
        have hIx6_ : gi (sm_aI (sm_aI S_ 252 0 (4712 * (S_.1 13 0 177) + fi_).toNat net_) 256 0 (256 * (S_.1 13 0 177) + net_).toNat 0) := gi_aI hIx4_ (show 0 ≤ 0 ∧ 0 ≤ 1 from ⟨by omega, by omega⟩)
        have hFx7_ : ai_fr (sx_W vw_461) S0_ (sm_aI (sm_aI S_ 252 0 (4712 * (S_.1 13 0 177) + fi_).toNat net_) 256 0 (256 * (S_.1 13 0 177) + net_).toNat 0) := ai_fr_tr hFx5_ (ai_fr_aI rfl)
        refine sm_T_go 3 (c1 := (104, [some (.inr (.inr (some (13, 0)))), some (.inl net_), some (.inl de_), some (.inl fi_), some (.inl k_), none, none, none], [.inl de_, .inl net_, .inr (.inr (some (13, 0)))], sm_aI (sm_aI S_ 252 0 (4712 * (S_.1 13 0 177) + fi_).toNat net_) 256 0 (256 * (S_.1 13 0 177) + net_).toNat 0)) rfl ?_
        refine sm_T_cal (d1 := 3) (Q1 := vq_459 net_ de_ (sm_aI (sm_aI S_ 252 0 (4712 * (S_.1 13 0 177) + fi_).toNat net_) 256 0 (256 * (S_.1 13 0 177) + net_).toNat 0)) rfl rfl (by decide) (vc_459 net_ de_ (sm_aI (sm_aI S_ 252 0 (4712 * (S_.1 13 0 177) + fi_).toNat net_) 256 0 (256 * (S_.1 13 0 177) + net_).toNat 0) hIx6_ (by exact grd_fr hgr_ hFx7_) (by exact hn_) (by exact hde_) (by exact pnw_fr hpw_ hFx7_)) (fun u_ Sx8_ px11_ => ?_)
        obtain ⟨vx13_, rfl, hIx9_, hFx10_, px11_⟩ := px11_
        have hFx12_ : ai_fr (sx_W vw_461) S0_ Sx8_ := ai_fr_tr hFx7_ (fr_le hFx10_ rfl)
        have n104_ := px11_
        have P1_ : 0 ≤ Sx8_.1 13 0 159 ∧ Sx8_.1 13 0 159 ≤ 700 := hIx9_.1 13 0 159 rfl
        have c104_ := cn1_le (uc Sx8_ net_ (-1)) (Sx8_.1 13 0 159).toNat
        refine sm_T_go 1 (c1 := (109, [some (.inr (.inr (some (13, 0)))), some (.inl net_), some (.inl de_), some (.inl fi_), some (.inl vx13_), none, none, none], [], Sx8_)) rfl ?_
        refine sm_T_wk [some (.inr (.inr (some (13, 0)))), some (.inl net_), some (.inl de_), none, some (.inl vx13_), none, none, none] (by exact ⟨rfl, rfl, rfl, rfl, trivial⟩) ?_
        refine ih_.2.1 vx13_ Sx8_ hIx9_ hFx12_ ⟨?_, trivial⟩ ?_
        · (rcases n104_ with y9_ | y9_ | y9_; exact Or.inl (by omega); exact Or.inl (by omega); exact Or.inr y9_)
        · omega
      · have cx2_ : ¬ ((S_.1 13 0 159) ≤ k_) := of_decide_eq_false cx2_
        have pb9_ := pt_b (k_ := k_) hI_ gr9_ pw9_ (by omega) (by omega)
        refine sm_T_go 4 (c1 := (21, [some (.inr (.inr (some (13, 0)))), some (.inl net_), some (.inl de_), some (.inl fi_), some (.inl k_), none, none, none], [.inl k_, .inr (.inr (some (244, 0))), .inr (.inr (some (13, 0)))], S_)) rfl ?_
        refine sm_T_iald (n := 700) rfl rfl (by omega) (by omega) ?_
        have bx14_ : 0 ≤ S_.2.2.1 244 0 k_.toNat ∧ S_.2.2.1 244 0 k_.toNat ≤ 200 := hI_.2 244 0 _
        refine sm_T_go 3 (c1 := (28, [some (.inr (.inr (some (13, 0)))), some (.inl net_), some (.inl de_), some (.inl fi_), some (.inl k_), none, none, none], [.inl k_, .inr (.inr (some (245, 0))), .inl (S_.2.2.1 244 0 k_.toNat), .inr (.inr (some (13, 0)))], S_)) rfl ?_
        refine sm_T_iald (n := 700) rfl rfl (by omega) (by omega) ?_
        have bx15_ : 0 ≤ S_.2.2.1 245 0 k_.toNat ∧ S_.2.2.1 245 0 k_.toNat ≤ 40 := hI_.2 245 0 _
        refine sm_T_cal (d1 := 0) (Q1 := vq_452 (S_.2.2.1 244 0 k_.toNat) (S_.2.2.1 245 0 k_.toNat) S_) rfl rfl (by decide) (vc_452 (S_.2.2.1 244 0 k_.toNat) (S_.2.2.1 245 0 k_.toNat) S_ hI_ (by omega) (by omega)) (fun u_ Sx16_ px19_ => ?_)
        obtain ⟨rfl, vx21_, rfl, px19_⟩ := px19_
        have e29_ := px19_
        have t29_ : vx21_ = ptf S_ k_ := e29_
        refine sm_T_go 4 (c1 := (40, [some (.inr (.inr (some (13, 0)))), some (.inl net_), some (.inl de_), some (.inl fi_), some (.inl k_), some (.inl vx21_), none, none], [.inl k_, .inr (.inr (some (243, 0)))], S_)) rfl ?_
        refine sm_T_iald (n := 700) rfl rfl (by omega) (by omega) ?_
        have bx22_ : 0 ≤ S_.2.2.1 243 0 k_.toNat ∧ S_.2.2.1 243 0 k_.toNat ≤ 161 := hI_.2 243 0 _
        refine sm_T_go 1 (c1 := (42, [some (.inr (.inr (some (13, 0)))), some (.inl net_), some (.inl de_), some (.inl fi_), some (.inl k_), some (.inl vx21_), none, none], [.inl net_, .inl (S_.2.2.1 243 0 k_.toNat)], S_)) rfl ?_
        refine sm_T_br (a := 1) (z := 19) rfl (fun cx23_ => ?_) (fun cx23_ => ?_)
        · have cx23_ : (S_.2.2.1 243 0 k_.toNat) ≠ net_ := of_decide_eq_true cx23_
          refine sm_T_go 2 (c1 := (63, [some (.inr (.inr (some (13, 0)))), some (.inl net_), some (.inl de_), some (.inl fi_), some (.inl k_), some (.inl vx21_), none, none], [], S_)) rfl ?_
          refine sm_T_inc (a := 4) (z := 1) (v := k_) (w := k_ + 1) rfl rfl (by omega) (by omega) (by omega) ?_ -- pc_ 63
          refine sm_T_go 1 (c1 := (5, [some (.inr (.inr (some (13, 0)))), some (.inl net_), some (.inl de_), some (.inl fi_), some (.inl (k_ + 1)), some (.inl vx21_), none, none], [], S_)) rfl ?_
          refine sm_T_wk [some (.inr (.inr (some (13, 0)))), some (.inl net_), some (.inl de_), some (.inl fi_), some (.inl (k_ + 1)), none, none, none] (by exact ⟨rfl, rfl, rfl, rfl, rfl, trivial⟩) ?_
          refine ih_.1 fi_ (k_ + 1) S_ hI_ hF_ ⟨?_, ?_, trivial⟩ ?_
          · omega
          · first | exact Or.inl (by omega) | (rcases hx_ with y9_ | y9_; exact Or.inl y9_; (right; obtain ⟨j9_, a9_, b9_, c9_⟩ := y9_; by_cases z9_ : j9_ = k_; (exfalso; rw [z9_] at c9_; omega); exact ⟨j9_, by omega, b9_, c9_⟩))
          · omega
        · have cx23_ : ¬ ((S_.2.2.1 243 0 k_.toNat) ≠ net_) := of_decide_eq_false cx23_
          refine sm_T_go 2 (c1 := (47, [some (.inr (.inr (some (13, 0)))), some (.inl net_), some (.inl de_), some (.inl fi_), some (.inl k_), some (.inl vx21_), none, none], [.inl (-1), .inl fi_], S_)) rfl ?_
          refine sm_T_br (a := 0) (z := 9) rfl (fun cx24_ => ?_) (fun cx24_ => ?_)
          · have cx24_ : fi_ = (-1) := of_decide_eq_true cx24_
            refine sm_T_go 3 (c1 := (63, [some (.inr (.inr (some (13, 0)))), some (.inl net_), some (.inl de_), some (.inl vx21_), some (.inl k_), some (.inl vx21_), none, none], [], S_)) rfl ?_
            refine sm_T_inc (a := 4) (z := 1) (v := k_) (w := k_ + 1) rfl rfl (by omega) (by omega) (by omega) ?_ -- pc_ 63
            refine sm_T_go 1 (c1 := (5, [some (.inr (.inr (some (13, 0)))), some (.inl net_), some (.inl de_), some (.inl vx21_), some (.inl (k_ + 1)), some (.inl vx21_), none, none], [], S_)) rfl ?_
            refine sm_T_wk [some (.inr (.inr (some (13, 0)))), some (.inl net_), some (.inl de_), some (.inl vx21_), some (.inl (k_ + 1)), none, none, none] (by exact ⟨rfl, rfl, rfl, rfl, rfl, trivial⟩) ?_
            refine ih_.1 vx21_ (k_ + 1) S_ hI_ hF_ ⟨?_, ?_, trivial⟩ ?_
            · omega
            · first | exact Or.inl (by omega) | (rcases hx_ with y9_ | y9_; exact Or.inl y9_; (right; obtain ⟨j9_, a9_, b9_, c9_⟩ := y9_; by_cases z9_ : j9_ = k_; (exfalso; rw [z9_] at c9_; omega); exact ⟨j9_, by omega, b9_, c9_⟩))
            · omega
          · have cx24_ : ¬ (fi_ = (-1)) := of_decide_eq_false cx24_
            refine sm_T_go 2 (c1 := (53, [some (.inr (.inr (some (13, 0)))), some (.inl net_), some (.inl de_), some (.inl fi_), some (.inl k_), some (.inl vx21_), none, none], [.inl fi_, .inl vx21_], S_)) rfl ?_
            refine sm_T_br (a := 3) (z := 8) rfl (fun cx25_ => ?_) (fun cx25_ => ?_)
            · have cx25_ : fi_ ≤ vx21_ := of_decide_eq_true cx25_
              refine sm_T_go 2 (c1 := (63, [some (.inr (.inr (some (13, 0)))), some (.inl net_), some (.inl de_), some (.inl fi_), some (.inl k_), some (.inl vx21_), none, none], [], S_)) rfl ?_
              refine sm_T_inc (a := 4) (z := 1) (v := k_) (w := k_ + 1) rfl rfl (by omega) (by omega) (by omega) ?_ -- pc_ 63
              refine sm_T_go 1 (c1 := (5, [some (.inr (.inr (some (13, 0)))), some (.inl net_), some (.inl de_), some (.inl fi_), some (.inl (k_ + 1)), some (.inl vx21_), none, none], [], S_)) rfl ?_
              refine sm_T_wk [some (.inr (.inr (some (13, 0)))), some (.inl net_), some (.inl de_), some (.inl fi_), some (.inl (k_ + 1)), none, none, none] (by exact ⟨rfl, rfl, rfl, rfl, rfl, trivial⟩) ?_
              refine ih_.1 fi_ (k_ + 1) S_ hI_ hF_ ⟨?_, ?_, trivial⟩ ?_
              · omega
              · first | exact Or.inl (by omega) | (rcases hx_ with y9_ | y9_; exact Or.inl y9_; (right; obtain ⟨j9_, a9_, b9_, c9_⟩ := y9_; by_cases z9_ : j9_ = k_; (exfalso; rw [z9_] at c9_; omega); exact ⟨j9_, by omega, b9_, c9_⟩))
              · omega
            · have cx25_ : ¬ (fi_ ≤ vx21_) := of_decide_eq_false cx25_
              refine sm_T_go 3 (c1 := (63, [some (.inr (.inr (some (13, 0)))), some (.inl net_), some (.inl de_), some (.inl vx21_), some (.inl k_), some (.inl vx21_), none, none], [], S_)) rfl ?_
              refine sm_T_inc (a := 4) (z := 1) (v := k_) (w := k_ + 1) rfl rfl (by omega) (by omega) (by omega) ?_ -- pc_ 63
              refine sm_T_go 1 (c1 := (5, [some (.inr (.inr (some (13, 0)))), some (.inl net_), some (.inl de_), some (.inl vx21_), some (.inl (k_ + 1)), some (.inl vx21_), none, none], [], S_)) rfl ?_
              refine sm_T_wk [some (.inr (.inr (some (13, 0)))), some (.inl net_), some (.inl de_), some (.inl vx21_), some (.inl (k_ + 1)), none, none, none] (by exact ⟨rfl, rfl, rfl, rfl, rfl, trivial⟩) ?_
              refine ih_.1 vx21_ (k_ + 1) S_ hI_ hF_ ⟨?_, ?_, trivial⟩ ?_
              · omega
              · first | exact Or.inl (by omega) | (rcases hx_ with y9_ | y9_; exact Or.inl y9_; (right; obtain ⟨j9_, a9_, b9_, c9_⟩ := y9_; by_cases z9_ : j9_ = k_; (exfalso; rw [z9_] at c9_; omega); exact ⟨j9_, by omega, b9_, c9_⟩))
              · omega
    · rintro pin_ S_ hI_ hF_ ⟨hq_, -⟩ hm_
      have g174_ : S_.1 13 0 174 = S0_.1 13 0 174 := hF_.1 13 0 174 rfl
      have g175_ : S_.1 13 0 175 = S0_.1 13 0 175 := hF_.1 13 0 175 rfl
      have g176_ : S_.1 13 0 176 = S0_.1 13 0 176 := hF_.1 13 0 176 rfl
      have g159_ : S_.1 13 0 159 = S0_.1 13 0 159 := hF_.1 13 0 159 rfl
      have g177_ : S_.1 13 0 177 = S0_.1 13 0 177 := hF_.1 13 0 177 rfl
      have gr9_ := grd_fr hgr_ hF_
      have pw9_ := pnw_fr hpw_ hF_
      have gm9_ := grd_m gr9_
      have g5_ := gr9_.2.2.2.2
      have P9_ : 0 ≤ S_.1 13 0 159 ∧ S_.1 13 0 159 ≤ 700 := hI_.1 13 0 159 rfl
      have b177_ : 0 ≤ S_.1 13 0 177 ∧ S_.1 13 0 177 ≤ 3 := hI_.1 13 0 177 rfl
      refine sm_T_go 1 (c1 := (111, [some (.inr (.inr (some (13, 0)))), some (.inl net_), some (.inl de_), none, some (.inl pin_), none, none, none], [.inl pin_], S_)) rfl ?_
      refine sm_T_b0 (a := 2) (z := 129) rfl (fun cx1_ => ?_) (fun cx1_ => ?_)
      · have cx1_ : pin_ < 0 := of_decide_eq_true cx1_
        refine sm_T_go 2 (c1 := (244, [some (.inr (.inr (some (13, 0)))), some (.inl net_), some (.inl de_), none, some (.inl pin_), none, none, none], [.inl (-2), .inl pin_], S_)) rfl ?_
        refine sm_T_br (a := 1) (z := 8) rfl (fun cx2_ => ?_) (fun cx2_ => ?_)
        · have cx2_ : pin_ ≠ (-2) := of_decide_eq_true cx2_
          refine sm_T_go 2 (c1 := (255, [some (.inr (.inr (some (13, 0)))), some (.inl net_), some (.inl de_), none, some (.inl pin_), none, none, none], [.inl (-1), .inl pin_], S_)) rfl ?_
          refine sm_T_br (a := 1) (z := 7) rfl (fun cx3_ => ?_) (fun cx3_ => ?_)
          · have cx3_ : pin_ ≠ (-1) := of_decide_eq_true cx3_
            refine sm_T_go 1 (c1 := (263, [some (.inr (.inr (some (13, 0)))), some (.inl net_), some (.inl de_), none, some (.inl pin_), none, none, none], [.inl 0], S_)) rfl ?_
            refine sm_T_rz rfl (by omega) ⟨_, _, rfl, _, rfl, hI_, hF_, ?_⟩
            omega
          · have cx3_ : ¬ (pin_ ≠ (-1)) := of_decide_eq_false cx3_
            refine sm_T_go 2 (c1 := (263, [some (.inr (.inr (some (13, 0)))), some (.inl net_), some (.inl de_), none, some (.inl pin_), none, none, none], [.inl 1], S_)) rfl ?_
            refine sm_T_rz rfl (by omega) ⟨_, _, rfl, _, rfl, hI_, hF_, ?_⟩
            omega
        · have cx2_ : ¬ (pin_ ≠ (-2)) := of_decide_eq_false cx2_
          refine sm_T_go 2 (c1 := (249, [some (.inr (.inr (some (13, 0)))), some (.inl net_), some (.inl de_), none, some (.inl pin_), none, none, none], [.inl net_, .inr (.inr (some (13, 0)))], S_)) rfl ?_
          refine sm_T_cal (d1 := 1) (Q1 := vq_458 net_ S_) rfl rfl (by decide) (vc_458 net_ S_ hI_ (by exact hn_)) (fun u_ Sx4_ px7_ => ?_)
          obtain ⟨rfl, hIx5_, hFx6_, px7_⟩ := px7_
          have hFx8_ : ai_fr (sx_W vw_461) S0_ Sx4_ := ai_fr_tr hF_ (fr_le hFx6_ rfl)
          refine sm_T_go 2 (c1 := (255, [some (.inr (.inr (some (13, 0)))), some (.inl net_), some (.inl de_), none, some (.inl pin_), none, none, none], [.inl (-1), .inl pin_], Sx4_)) rfl ?_
          refine sm_T_br (a := 1) (z := 7) rfl (fun cx9_ => ?_) (fun cx9_ => ?_)
          · have cx9_ : pin_ ≠ (-1) := of_decide_eq_true cx9_
            refine sm_T_go 1 (c1 := (263, [some (.inr (.inr (some (13, 0)))), some (.inl net_), some (.inl de_), none, some (.inl pin_), none, none, none], [.inl 0], Sx4_)) rfl ?_
            refine sm_T_rz rfl (by omega) ⟨_, _, rfl, _, rfl, hIx5_, hFx8_, ?_⟩
            omega
          · have cx9_ : ¬ (pin_ ≠ (-1)) := of_decide_eq_false cx9_
            exfalso; omega
      · have cx1_ : ¬ (pin_ < 0) := of_decide_eq_false cx1_
        have N9_ := hq_.resolve_left (by omega)
        have N8_ := npk_g N9_ hI_ gr9_
        refine sm_T_go 4 (c1 := (119, [some (.inr (.inr (some (13, 0)))), some (.inl net_), some (.inl de_), none, some (.inl pin_), none, none, none], [.inl de_, .inl net_, .inl pin_, .inr (.inr (some (13, 0)))], S_)) rfl ?_
        refine sm_T_cal (d1 := 2) (Q1 := vq_460 pin_ net_ de_ S_) rfl rfl (by decide) (vc_460 pin_ net_ de_ S_ hI_ (by exact gr9_) (by exact ⟨N8_.1, N8_.2.1, N8_.2.2.1, N8_.2.2.2⟩) (by exact N9_.2.2.2)) (fun u_ Sx10_ px13_ => ?_)
        obtain ⟨vx15_, rfl, hIx11_, hFx12_, px13_⟩ := px13_
        have hFx14_ : ai_fr (sx_W vw_461) S0_ Sx10_ := ai_fr_tr hF_ (fr_le hFx12_ rfl)
        have w119_ := px13_
        have y176_ := hFx12_.1 13 0 176 rfl
        have u119_ := uc_fr (net_ := net_) (ex_ := -1) hFx12_
        have y159_ := hFx12_.1 13 0 159 rfl
        refine sm_T_go 3 (c1 := (127, [some (.inr (.inr (some (13, 0)))), some (.inl net_), some (.inl de_), none, some (.inl pin_), some (.inl vx15_), some (.inl 0), none], [], Sx10_)) rfl ?_
        refine ih_.2.2.1 pin_ vx15_ 0 Sx10_ hIx11_ hFx14_ ⟨?_, ?_, ?_, ?_, trivial⟩ ?_
        · (rw [y176_]; omega)
        · (intro j9_ u0_ u1_; rw [y176_]; exact w119_.2.2.2 j9_ u0_ u1_)
        · exact nbk_fr N9_.2.1 hFx12_
        · (rw [nta_fr hFx12_]; exact N9_.1.2.2.2)
        · (rw [u119_, y159_]; omega)
    · rintro pin_ n_ k_ S_ hI_ hF_ ⟨h0_, hw_, hb_, hn1_, -⟩ hm_
      have g174_ : S_.1 13 0 174 = S0_.1 13 0 174 := hF_.1 13 0 174 rfl
      have g175_ : S_.1 13 0 175 = S0_.1 13 0 175 := hF_.1 13 0 175 rfl
      have g176_ : S_.1 13 0 176 = S0_.1 13 0 176 := hF_.1 13 0 176 rfl
      have g159_ : S_.1 13 0 159 = S0_.1 13 0 159 := hF_.1 13 0 159 rfl
      have g177_ : S_.1 13 0 177 = S0_.1 13 0 177 := hF_.1 13 0 177 rfl
      have gr9_ := grd_fr hgr_ hF_
      have pw9_ := pnw_fr hpw_ hF_
      have gm9_ := grd_m gr9_
      have g5_ := gr9_.2.2.2.2
      have P9_ : 0 ≤ S_.1 13 0 159 ∧ S_.1 13 0 159 ≤ 700 := hI_.1 13 0 159 rfl
      have b177_ : 0 ≤ S_.1 13 0 177 ∧ S_.1 13 0 177 ≤ 3 := hI_.1 13 0 177 rfl
      refine sm_T_go 2 (c1 := (131, [some (.inr (.inr (some (13, 0)))), some (.inl net_), some (.inl de_), none, some (.inl pin_), some (.inl n_), some (.inl k_), none], [.inl n_, .inl k_], S_)) rfl ?_
      refine sm_T_br (a := 3) (z := 40) rfl (fun cx1_ => ?_) (fun cx1_ => ?_)
      · have cx1_ : n_ ≤ k_ := of_decide_eq_true cx1_
        have c131_ := uc_pin gr9_ hI_ pw9_ hb_ hn1_ (by omega)
        refine sm_T_go 2 (c1 := (174, [some (.inr (.inr (some (13, 0)))), some (.inl net_), some (.inl de_), none, some (.inl pin_), some (.inl n_), some (.inl 0), none], [], S_)) rfl ?_
        refine ih_.2.2.2 pin_ n_ 0 S_ hI_ hF_ ⟨?_, ?_, ?_, ?_, trivial⟩ ?_
        · omega
        · exact hw_
        · exact hb_
        · exact Or.inl rfl
        · omega
      · have cx1_ : ¬ (n_ ≤ k_) := of_decide_eq_false cx1_
        have wk_ := hw_ k_ (by omega) (by omega)
        refine sm_T_go 4 (c1 := (141, [some (.inr (.inr (some (13, 0)))), some (.inl net_), some (.inl de_), none, some (.inl pin_), some (.inl n_), some (.inl k_), none], [.inl k_, .inr (.inr (some (261, 0))), .inr (.inr (some (13, 0)))], S_)) rfl ?_
        refine sm_T_iald (n := 4712) rfl rfl (by omega) (by omega) ?_
        have bx2_ : 0 ≤ S_.2.2.1 261 0 k_.toNat ∧ S_.2.2.1 261 0 k_.toNat ≤ 4711 := hI_.2 261 0 _
        refine sm_T_cal (d1 := 0) (Q1 := vq_454 (S_.2.2.1 261 0 k_.toNat) S_) rfl rfl (by decide) (vc_454 (S_.2.2.1 261 0 k_.toNat) S_ hI_ (by omega)) (fun u_ Sx3_ px6_ => ?_)
        obtain ⟨rfl, vx8_, rfl, px6_⟩ := px6_
        have e142_ := px6_
        refine sm_T_go 3 (c1 := (150, [some (.inr (.inr (some (13, 0)))), some (.inl net_), some (.inl de_), none, some (.inl pin_), some (.inl n_), some (.inl k_), some (.inl vx8_)], [.inl (-1), .inl vx8_], S_)) rfl ?_
        refine sm_T_br (a := 0) (z := 15) rfl (fun cx9_ => ?_) (fun cx9_ => ?_)
        · have cx9_ : vx8_ = (-1) := of_decide_eq_true cx9_
          refine sm_T_inc (a := 6) (z := 1) (v := k_) (w := k_ + 1) rfl rfl (by omega) (by omega) (by omega) ?_ -- pc_ 165
          refine sm_T_go 1 (c1 := (127, [some (.inr (.inr (some (13, 0)))), some (.inl net_), some (.inl de_), none, some (.inl pin_), some (.inl n_), some (.inl (k_ + 1)), some (.inl vx8_)], [], S_)) rfl ?_
          refine sm_T_wk [some (.inr (.inr (some (13, 0)))), some (.inl net_), some (.inl de_), none, some (.inl pin_), some (.inl n_), some (.inl (k_ + 1)), none] (by exact ⟨rfl, rfl, rfl, rfl, rfl, rfl, trivial⟩) ?_
          refine ih_.2.2.1 pin_ n_ (k_ + 1) S_ hI_ hF_ ⟨?_, ?_, ?_, ?_, trivial⟩ ?_
          · first | omega | (rw [y162_, z162_]; omega)
          · first | exact hw_ | (rw [y162_, z162_]; exact hw_)
          · first | exact hb_ | exact b162_
          · first | exact hn1_ | exact d162_
          · first | omega | (rw [c162_]; omega)
        · have cx9_ : ¬ (vx8_ = (-1)) := of_decide_eq_false cx9_
          refine sm_T_go 2 (c1 := (156, [some (.inr (.inr (some (13, 0)))), some (.inl net_), some (.inl de_), none, some (.inl pin_), some (.inl n_), some (.inl k_), some (.inl vx8_)], [.inl net_, .inl vx8_], S_)) rfl ?_
          refine sm_T_br (a := 0) (z := 9) rfl (fun cx10_ => ?_) (fun cx10_ => ?_)
          · have cx10_ : vx8_ = net_ := of_decide_eq_true cx10_
            refine sm_T_inc (a := 6) (z := 1) (v := k_) (w := k_ + 1) rfl rfl (by omega) (by omega) (by omega) ?_ -- pc_ 165
            refine sm_T_go 1 (c1 := (127, [some (.inr (.inr (some (13, 0)))), some (.inl net_), some (.inl de_), none, some (.inl pin_), some (.inl n_), some (.inl (k_ + 1)), some (.inl vx8_)], [], S_)) rfl ?_
            refine sm_T_wk [some (.inr (.inr (some (13, 0)))), some (.inl net_), some (.inl de_), none, some (.inl pin_), some (.inl n_), some (.inl (k_ + 1)), none] (by exact ⟨rfl, rfl, rfl, rfl, rfl, rfl, trivial⟩) ?_
            refine ih_.2.2.1 pin_ n_ (k_ + 1) S_ hI_ hF_ ⟨?_, ?_, ?_, ?_, trivial⟩ ?_
            · first | omega | (rw [y162_, z162_]; omega)
            · first | exact hw_ | (rw [y162_, z162_]; exact hw_)
            · first | exact hb_ | exact b162_
            · first | exact hn1_ | exact d162_
            · first | omega | (rw [c162_]; omega)
          · have cx10_ : ¬ (vx8_ = net_) := of_decide_eq_false cx10_
            refine sm_T_go 2 (c1 := (162, [some (.inr (.inr (some (13, 0)))), some (.inl net_), some (.inl de_), none, some (.inl pin_), some (.inl n_), some (.inl k_), some (.inl vx8_)], [.inl vx8_, .inr (.inr (some (13, 0)))], S_)) rfl ?_
            refine sm_T_cal (d1 := 1) (Q1 := vq_458 vx8_ S_) rfl rfl (by decide) (vc_458 vx8_ S_ hI_ (by omega)) (fun u_ Sx11_ px14_ => ?_)
            obtain ⟨rfl, hIx12_, hFx13_, px14_⟩ := px14_
            have hFx15_ : ai_fr (sx_W vw_461) S0_ Sx11_ := ai_fr_tr hF_ (fr_le hFx13_ rfl)
            have r162_ := px14_
            have a162_ : ∀ x9_ : Int, 0 ≤ x9_ → x9_ < S_.1 13 0 176 → (nta Sx11_ x9_ = net_ ↔ nta S_ x9_ = net_) := fun x9_ u0_ u1_ => by (rw [r162_ x9_ u0_ u1_]; split; (rename_i q9_; constructor; (intro z9_; exfalso; omega); (intro z9_; exfalso; omega)); exact Iff.rfl)
            have c162_ := uc_cg (net_ := net_) (ex_ := -1) gr9_ hI_ pw9_ (hFx13_.1 13 0 159 rfl) (fr_arr hFx13_ rfl) (ptf_fr hFx13_) a162_
            have y162_ := hFx13_.1 13 0 176 rfl
            have z162_ : Sx11_.2.2.1 261 0 = S_.2.2.1 261 0 := fr_arr hFx13_ rfl
            have b162_ := nbk_fr hb_ hFx13_
            have d162_ : nta Sx11_ pin_ ≠ net_ := fun z9_ => hn1_ ((a162_ pin_ (by omega) (by omega)).mp z9_)
            refine sm_T_inc (a := 6) (z := 1) (v := k_) (w := k_ + 1) rfl rfl (by omega) (by omega) (by omega) ?_ -- pc_ 165
            refine sm_T_go 1 (c1 := (127, [some (.inr (.inr (some (13, 0)))), some (.inl net_), some (.inl de_), none, some (.inl pin_), some (.inl n_), some (.inl (k_ + 1)), some (.inl vx8_)], [], Sx11_)) rfl ?_
            refine sm_T_wk [some (.inr (.inr (some (13, 0)))), some (.inl net_), some (.inl de_), none, some (.inl pin_), some (.inl n_), some (.inl (k_ + 1)), none] (by exact ⟨rfl, rfl, rfl, rfl, rfl, rfl, trivial⟩) ?_
            refine ih_.2.2.1 pin_ n_ (k_ + 1) Sx11_ hIx12_ hFx15_ ⟨?_, ?_, ?_, ?_, trivial⟩ ?_
            · first | omega | (rw [y162_, z162_]; omega)
            · first | exact hw_ | (rw [y162_, z162_]; exact hw_)
            · first | exact hb_ | exact b162_
            · first | exact hn1_ | exact d162_
            · first | omega | (rw [c162_]; omega)
    · rintro pin_ n_ k_ S_ hI_ hF_ ⟨h0_, hw_, hb_, hn1_, -⟩ hm_
      have g174_ : S_.1 13 0 174 = S0_.1 13 0 174 := hF_.1 13 0 174 rfl
      have g175_ : S_.1 13 0 175 = S0_.1 13 0 175 := hF_.1 13 0 175 rfl
      have g176_ : S_.1 13 0 176 = S0_.1 13 0 176 := hF_.1 13 0 176 rfl
      have g159_ : S_.1 13 0 159 = S0_.1 13 0 159 := hF_.1 13 0 159 rfl
      have g177_ : S_.1 13 0 177 = S0_.1 13 0 177 := hF_.1 13 0 177 rfl
      have gr9_ := grd_fr hgr_ hF_
      have pw9_ := pnw_fr hpw_ hF_
      have gm9_ := grd_m gr9_
      have g5_ := gr9_.2.2.2.2
      have P9_ : 0 ≤ S_.1 13 0 159 ∧ S_.1 13 0 159 ≤ 700 := hI_.1 13 0 159 rfl
      have b177_ : 0 ≤ S_.1 13 0 177 ∧ S_.1 13 0 177 ≤ 3 := hI_.1 13 0 177 rfl
      refine sm_T_go 2 (c1 := (178, [some (.inr (.inr (some (13, 0)))), some (.inl net_), some (.inl de_), none, some (.inl pin_), some (.inl n_), some (.inl k_), none], [.inl n_, .inl k_], S_)) rfl ?_
      refine sm_T_br (a := 3) (z := 51) rfl (fun cx1_ => ?_) (fun cx1_ => ?_)
      · have cx1_ : n_ ≤ k_ := of_decide_eq_true cx1_
        have k1_ : nta S_ pin_ = net_ := by (rcases hn1_ with y9_ | y9_; (exfalso; omega); exact y9_)
        have c178_ := uc_done k1_
        refine sm_T_go 3 (c1 := (232, [some (.inr (.inr (some (13, 0)))), some (.inl net_), some (.inl de_), none, some (.inl pin_), some (.inl n_), some (.inl k_), none], [.inl de_, .inl net_, .inr (.inr (some (13, 0)))], S_)) rfl ?_
        refine sm_T_cal (d1 := 3) (Q1 := vq_459 net_ de_ S_) rfl rfl (by decide) (vc_459 net_ de_ S_ hI_ (by exact gr9_) (by exact hn_) (by exact hde_) (by exact pw9_)) (fun u_ Sx2_ px5_ => ?_)
        obtain ⟨vx7_, rfl, hIx3_, hFx4_, px5_⟩ := px5_
        have hFx6_ : ai_fr (sx_W vw_461) S0_ Sx2_ := ai_fr_tr hF_ (fr_le hFx4_ rfl)
        have n232_ := px5_
        have u232_ := uc_fr (net_ := net_) (ex_ := -1) hFx4_
        have y232_ := hFx4_.1 13 0 159 rfl
        refine sm_T_go 2 (c1 := (109, [some (.inr (.inr (some (13, 0)))), some (.inl net_), some (.inl de_), none, some (.inl vx7_), some (.inl n_), some (.inl k_), none], [], Sx2_)) rfl ?_
        refine sm_T_wk [some (.inr (.inr (some (13, 0)))), some (.inl net_), some (.inl de_), none, some (.inl vx7_), none, none, none] (by exact ⟨rfl, rfl, rfl, rfl, trivial⟩) ?_
        refine ih_.2.1 vx7_ Sx2_ hIx3_ hFx6_ ⟨?_, trivial⟩ ?_
        · (rcases n232_ with y9_ | y9_ | y9_; exact Or.inl (by omega); exact Or.inl (by omega); exact Or.inr y9_)
        · (rw [u232_, y232_]; omega)
      · have cx1_ : ¬ (n_ ≤ k_) := of_decide_eq_false cx1_
        have wk_ := hw_ k_ (by omega) (by omega)
        have wl := hw_ (k_ + 1) (by omega) (by omega)
        have bx8_ : 0 ≤ S_.1 13 0 177 ∧ S_.1 13 0 177 ≤ 3 := hI_.1 13 0 177 rfl
        refine sm_T_go 5 (c1 := (192, [some (.inr (.inr (some (13, 0)))), some (.inl net_), some (.inl de_), none, some (.inl pin_), some (.inl n_), some (.inl k_), none], [.inl (S_.1 13 0 177), .inl 4712, .inr (.inr (some (252, 0)))], S_)) rfl ?_
        refine sm_T_bin (w := 4712 * (S_.1 13 0 177)) rfl (bi_mul (by omega) (by omega) (by omega)) ?_ -- pc_ 192
        refine sm_T_go 3 (c1 := (199, [some (.inr (.inr (some (13, 0)))), some (.inl net_), some (.inl de_), none, some (.inl pin_), some (.inl n_), some (.inl k_), none], [.inl k_, .inr (.inr (some (261, 0))), .inl (4712 * (S_.1 13 0 177)), .inr (.inr (some (252, 0)))], S_)) rfl ?_
        refine sm_T_iald (n := 4712) rfl rfl (by omega) (by omega) ?_
        have bx9_ : 0 ≤ S_.2.2.1 261 0 k_.toNat ∧ S_.2.2.1 261 0 k_.toNat ≤ 4711 := hI_.2 261 0 _
        refine sm_T_bin (w := 4712 * (S_.1 13 0 177) + (S_.2.2.1 261 0 k_.toNat)) rfl (bi_add (by omega) (by omega) (by omega)) ?_ -- pc_ 200
        refine sm_T_go 1 (c1 := (202, [some (.inr (.inr (some (13, 0)))), some (.inl net_), some (.inl de_), none, some (.inl pin_), some (.inl n_), some (.inl k_), none], [.inl net_, .inl (4712 * (S_.1 13 0 177) + (S_.2.2.1 261 0 k_.toNat)), .inr (.inr (some (252, 0)))], S_)) rfl ?_
        refine sm_T_iast (n := 18848) rfl rfl (by omega) (by omega) ?_
        have hIx10_ : gi (sm_aI S_ 252 0 (4712 * (S_.1 13 0 177) + (S_.2.2.1 261 0 k_.toNat)).toNat net_) := gi_aI hI_ (show (-1) ≤ net_ ∧ net_ ≤ 161 from ⟨by omega, by omega⟩)
        have hFx11_ : ai_fr (sx_W vw_461) S0_ (sm_aI S_ 252 0 (4712 * (S_.1 13 0 177) + (S_.2.2.1 261 0 k_.toNat)).toNat net_) := ai_fr_tr hF_ (ai_fr_aI rfl)
        refine sm_T_go 4 (c1 := (210, [some (.inr (.inr (some (13, 0)))), some (.inl net_), some (.inl de_), none, some (.inl pin_), some (.inl n_), some (.inl k_), none], [.inl k_, .inr (.inr (some (261, 0))), .inr (.inr (some (13, 0)))], sm_aI S_ 252 0 (4712 * (S_.1 13 0 177) + (S_.2.2.1 261 0 k_.toNat)).toNat net_)) rfl ?_
        refine sm_T_iald (n := 4712) rfl rfl (by omega) (by omega) ?_
        refine sm_T_go 4 (c1 := (218, [some (.inr (.inr (some (13, 0)))), some (.inl net_), some (.inl de_), none, some (.inl pin_), some (.inl n_), some (.inl k_), none], [.inl 1, .inl k_, .inr (.inr (some (261, 0))), .inl (S_.2.2.1 261 0 k_.toNat), .inr (.inr (some (13, 0)))], sm_aI S_ 252 0 (4712 * (S_.1 13 0 177) + (S_.2.2.1 261 0 k_.toNat)).toNat net_)) rfl ?_
        refine sm_T_bin (w := k_ + 1) rfl (bi_add (by omega) (by omega) (by omega)) ?_ -- pc_ 218
        refine sm_T_iald (n := 4712) rfl rfl (by omega) (by omega) ?_
        have bx12_ : 0 ≤ S_.2.2.1 261 0 (k_ + 1).toNat ∧ S_.2.2.1 261 0 (k_ + 1).toNat ≤ 4711 := hI_.2 261 0 _
        refine sm_T_go 0 (c1 := (220, [some (.inr (.inr (some (13, 0)))), some (.inl net_), some (.inl de_), none, some (.inl pin_), some (.inl n_), some (.inl k_), none], [.inl (S_.2.2.1 261 0 (k_ + 1).toNat), .inl (S_.2.2.1 261 0 k_.toNat), .inr (.inr (some (13, 0)))], sm_aI S_ 252 0 (4712 * (S_.1 13 0 177) + (S_.2.2.1 261 0 k_.toNat)).toNat net_)) rfl ?_
        refine sm_T_cal (d1 := 0) (Q1 := vq_457 (S_.2.2.1 261 0 k_.toNat) (S_.2.2.1 261 0 (k_ + 1).toNat) (sm_aI S_ 252 0 (4712 * (S_.1 13 0 177) + (S_.2.2.1 261 0 k_.toNat)).toNat net_)) rfl rfl (by decide) (vc_457 (S_.2.2.1 261 0 k_.toNat) (S_.2.2.1 261 0 (k_ + 1).toNat) (sm_aI S_ 252 0 (4712 * (S_.1 13 0 177) + (S_.2.2.1 261 0 k_.toNat)).toNat net_) hIx10_ (by (try simp only [rd_eq, rd_ne, rf_eq, rf_nk, rf_nt, rd_fa, rd_af, rd_fl, rd_al, rd_lf, rd_la, rd_leq, rd_lne, rd_fr, rd_ar, ne_eq, Nat.reduceEqDiff, not_false_eq_true]); omega) (by (try simp only [rd_eq, rd_ne, rf_eq, rf_nk, rf_nt, rd_fa, rd_af, rd_fl, rd_al, rd_lf, rd_la, rd_leq, rd_lne, rd_fr, rd_ar, ne_eq, Nat.reduceEqDiff, not_false_eq_true]); omega)) (fun u_ Sx13_ px16_ => ?_)
        obtain ⟨rfl, hIx14_, hFx15_, px16_⟩ := px16_
        have hFx17_ : ai_fr (sx_W vw_461) S0_ Sx13_ := ai_fr_tr hFx11_ (fr_le hFx15_ rfl)
        have q220_ : ai_fr (sx_W ([], [252], [])) S_ (sm_aI S_ 252 0 (4712 * (S_.1 13 0 177) + (S_.2.2.1 261 0 k_.toNat)).toNat net_) := ai_fr_aI rfl
        have f220_ : ai_fr (sx_W ([], [252, 253, 254, 255], [])) S_ Sx13_ := ai_fr_tr (fr_le q220_ rfl) (fr_le hFx15_ rfl)
        have n220_ : ∀ x9_ : Int, 0 ≤ x9_ → x9_ < 4712 → nta Sx13_ x9_ = if x9_ = S_.2.2.1 261 0 k_.toNat then net_ else nta S_ x9_ := fun x9_ u0_ u1_ => by (rw [nta_fr hFx15_]; unfold nta; (try simp only [rd_eq, rd_ne, rf_eq, rf_nk, rf_nt, rd_fa, rd_af, rd_fl, rd_al, rd_lf, rd_la, rd_leq, rd_lne, rd_fr, rd_ar, ne_eq, Nat.reduceEqDiff, not_false_eq_true]); by_cases z9_ : x9_ = S_.2.2.1 261 0 k_.toNat; (rw [if_pos (by omega), if_pos z9_]); (rw [if_neg (by omega), if_neg z9_]))
        have c220_ := uc_set (net_ := net_) (ex_ := pin_) gr9_ hI_ pw9_ (f220_.1 13 0 159 rfl) (fr_arr f220_ rfl) (ptf_fr f220_) (fun x9_ u0_ u1_ u2_ => by (rw [n220_ x9_ u0_ (by omega)]; split; rfl; exact u2_))
        have y220_ := f220_.1 13 0 176 rfl
        have z220_ : Sx13_.2.2.1 261 0 = S_.2.2.1 261 0 := fr_arr f220_ rfl
        have b220_ := nbk_fr hb_ f220_
        have p220_ := n220_ pin_ (by omega) (by omega)
        refine sm_T_inc (a := 6) (z := 1) (v := k_) (w := k_ + 1) rfl rfl (by omega) (by omega) (by omega) ?_ -- pc_ 223
        refine sm_T_go 1 (c1 := (174, [some (.inr (.inr (some (13, 0)))), some (.inl net_), some (.inl de_), none, some (.inl pin_), some (.inl n_), some (.inl (k_ + 1)), none], [], Sx13_)) rfl ?_
        refine ih_.2.2.2 pin_ n_ (k_ + 1) Sx13_ hIx14_ hFx17_ ⟨?_, ?_, ?_, ?_, trivial⟩ ?_
        · (rw [y220_, z220_]; omega)
        · (rw [y220_, z220_]; exact hw_)
        · exact b220_
        · (right; rw [p220_]; split; rfl; (rename_i q9_; rcases hn1_ with y9_ | y9_; (exfalso; rw [y9_] at q9_; exact q9_ h0_.2.2.2.2.2.2.symm); exact y9_))
        · omega
set_option maxHeartbeats 4000000 in
set_option maxRecDepth 20000 in
theorem vc_461 {sc_ : Nat × (Nat → Int)} (net_ : Int) (de_ : Int) (S0_ : sm_S) (hI_ : gi S0_) (hgr_ : grd S0_) (hn_ : 0 ≤ net_ ∧ net_ ≤ 161) (hde_ : 0 ≤ de_ ∧ de_ ≤ 1) (hpw_ : pnw S0_) (hpn : hpn S0_ net_) : sm_T (mt_P sc_) 4 461 (0, [some (.inr (.inr (some (13, 0)))), some (.inl net_), some (.inl de_), none, none, none, none, none], [], S0_) (fun ro9_ => ∃ u_ S1_, ro9_ = (.inl u_, S1_, 0) ∧ vq_461 net_ de_ S0_ u_ S1_) := by
  have hF_ : ai_fr (sx_W vw_461) S0_ S0_ := ai_fr_rf
  refine sm_T_go 4 (c1 := (5, [some (.inr (.inr (some (13, 0)))), some (.inl net_), some (.inl de_), some (.inl (-1)), some (.inl 0), none, none, none], [], S0_)) rfl ?_
  refine (vl_461 net_ de_ S0_ hgr_ hn_ hde_ hpw_ hpn _).1 (-1) 0 S0_ hI_ hF_ ⟨?_, ?_, trivial⟩ (Nat.lt_succ_self _)
  · (have gm9_ := grd_m hgr_; omega)
  · (right; obtain ⟨j9_, a9_, b9_, c9_⟩ := hpn; exact ⟨j9_, a9_, b9_, c9_⟩)
/-! M_.firstOpen -/
def vw_464 : sx_Wl := ([], [], [])
def vq_464  (S0_ : sm_S) (u_ : Option sm_V) (S1_ : sm_S) : Prop := S0_ = S1_ ∧ ∃ v_ : Int, u_ = some (.inl v_) ∧ ((v_ = -1 ∧ opz S0_ (S0_.1 13 0 184)) ∨ (0 ≤ v_ ∧ v_ ≤ 161 ∧ hpn S0_ v_ ∧ ¬ opz S0_ (S0_.1 13 0 184)))
set_option maxHeartbeats 400000 in
set_option maxRecDepth 20000 in
theorem vl_464 {sc_ : Nat × (Nat → Int)}  (S0_ : sm_S) (hrw : rws S0_) : ∀ nn_ : Nat, (∀ (i_ : Int) (S_ : sm_S), gi S_ → ai_fr (sx_W vw_464) S0_ S_ → ((0 ≤ i_ ∧ i_ ≤ 162) ∧ (opz S0_ i_) ∧ (S_ = S0_) ∧ True) → ((500 - i_).toNat) < nn_ → sm_T (mt_P sc_) 0 464 (2, [some (.inr (.inr (some (13, 0)))), some (.inl i_)], [], S_) (fun ro9_ => ∃ u_ S1_, ro9_ = (.inl u_, S1_, 0) ∧ vq_464  S0_ u_ S1_)) := by
  intro nn_
  induction nn_ with
  | zero => exact fun _ _ _ _ _ h_ => absurd h_ (Nat.not_lt_zero _)
  | succ nn_ ih_ =>
    rintro i_ S_ hI_ hF_ ⟨h0_, hz_, hS_, -⟩ hm_
    subst hS_
    have bx1_ : 0 ≤ S_.1 13 0 184 ∧ S_.1 13 0 184 ≤ 162 := hI_.1 13 0 184 rfl
    refine sm_T_go 3 (c1 := (7, [some (.inr (.inr (some (13, 0)))), some (.inl i_)], [.inl (S_.1 13 0 184), .inl i_], S_)) rfl ?_
    refine sm_T_br (a := 3) (z := 39) rfl (fun cx2_ => ?_) (fun cx2_ => ?_)
    · have cx2_ : (S_.1 13 0 184) ≤ i_ := of_decide_eq_true cx2_
      refine sm_T_go 1 (c1 := (47, [some (.inr (.inr (some (13, 0)))), some (.inl i_)], [.inl (-1)], S_)) rfl ?_
      refine sm_T_ri rfl ⟨_, _, rfl, (by first | rfl | exact hS_.symm), _, rfl, ?_⟩
      first | exact Or.inl ⟨rfl, fun j9_ u0_ u1_ => hz_ j9_ u0_ (by omega)⟩ | exact Or.inr ⟨by omega, by omega, hrw i_ (by omega) (by omega), fun z9_ => by (have w9_ := z9_ i_ (by omega) (by omega); omega)⟩
    · have cx2_ : ¬ ((S_.1 13 0 184) ≤ i_) := of_decide_eq_false cx2_
      have bx3_ : 0 ≤ S_.1 13 0 177 ∧ S_.1 13 0 177 ≤ 3 := hI_.1 13 0 177 rfl
      refine sm_T_go 5 (c1 := (21, [some (.inr (.inr (some (13, 0)))), some (.inl i_)], [.inl (S_.1 13 0 177), .inl 256, .inr (.inr (some (256, 0)))], S_)) rfl ?_
      refine sm_T_bin (w := 256 * (S_.1 13 0 177)) rfl (bi_mul (by omega) (by omega) (by omega)) ?_ -- pc_ 21
      refine sm_T_go 3 (c1 := (27, [some (.inr (.inr (some (13, 0)))), some (.inl i_)], [.inl i_, .inr (.inr (some (262, 0))), .inl (256 * (S_.1 13 0 177)), .inr (.inr (some (256, 0)))], S_)) rfl ?_
      refine sm_T_iald (n := 256) rfl rfl (by omega) (by omega) ?_
      have bx4_ : 0 ≤ S_.2.2.1 262 0 i_.toNat ∧ S_.2.2.1 262 0 i_.toNat ≤ 161 := hI_.2 262 0 _
      refine sm_T_bin (w := 256 * (S_.1 13 0 177) + (S_.2.2.1 262 0 i_.toNat)) rfl (bi_add (by omega) (by omega) (by omega)) ?_ -- pc_ 28
      refine sm_T_zald (n := 1024) rfl rfl (by omega) (by omega) ?_
      have bx5_ : 0 ≤ S_.2.2.1 256 0 (256 * (S_.1 13 0 177) + (S_.2.2.1 262 0 i_.toNat)).toNat ∧ S_.2.2.1 256 0 (256 * (S_.1 13 0 177) + (S_.2.2.1 262 0 i_.toNat)).toNat ≤ 1 := hI_.2 256 0 _
      refine sm_T_b0 (a := 0) (z := 10) rfl (fun cx6_ => ?_) (fun cx6_ => ?_)
      · have cx6_ : (S_.2.2.1 256 0 (256 * (S_.1 13 0 177) + (S_.2.2.1 262 0 i_.toNat)).toNat) = 0 := of_decide_eq_true cx6_
        refine sm_T_inc (a := 1) (z := 1) (v := i_) (w := i_ + 1) rfl rfl (by omega) (by omega) (by omega) ?_ -- pc_ 40
        refine sm_T_go 1 (c1 := (2, [some (.inr (.inr (some (13, 0)))), some (.inl (i_ + 1))], [], S_)) rfl ?_
        refine ih_ (i_ + 1) S_ hI_ hF_ ⟨?_, ?_, ?_, trivial⟩ ?_
        · omega
        · intro j9_ u0_ u1_
          by_cases z9_ : j9_ = i_
          · rw [z9_]; omega
          · exact hz_ j9_ u0_ (by omega)
        · rfl
        · omega
      · have cx6_ : ¬ ((S_.2.2.1 256 0 (256 * (S_.1 13 0 177) + (S_.2.2.1 262 0 i_.toNat)).toNat) = 0) := of_decide_eq_false cx6_
        refine sm_T_go 3 (c1 := (38, [some (.inr (.inr (some (13, 0)))), some (.inl i_)], [.inl i_, .inr (.inr (some (262, 0)))], S_)) rfl ?_
        refine sm_T_iald (n := 256) rfl rfl (by omega) (by omega) ?_
        refine sm_T_ri rfl ⟨_, _, rfl, (by first | rfl | exact hS_.symm), _, rfl, ?_⟩
        first | exact Or.inl ⟨rfl, fun j9_ u0_ u1_ => hz_ j9_ u0_ (by omega)⟩ | exact Or.inr ⟨by omega, by omega, hrw i_ (by omega) (by omega), fun z9_ => by (have w9_ := z9_ i_ (by omega) (by omega); omega)⟩
set_option maxHeartbeats 400000 in
set_option maxRecDepth 20000 in
theorem vc_464 {sc_ : Nat × (Nat → Int)}  (S0_ : sm_S) (hI_ : gi S0_) (hrw : rws S0_) : sm_T (mt_P sc_) 0 464 (0, [some (.inr (.inr (some (13, 0)))), none], [], S0_) (fun ro9_ => ∃ u_ S1_, ro9_ = (.inl u_, S1_, 0) ∧ vq_464  S0_ u_ S1_) := by
  have hF_ : ai_fr (sx_W vw_464) S0_ S0_ := ai_fr_rf
  refine sm_T_go 2 (c1 := (2, [some (.inr (.inr (some (13, 0)))), some (.inl 0)], [], S0_)) rfl ?_
  refine (vl_464 S0_ hrw _) 0 S0_ hI_ hF_ ⟨?_, ?_, ?_, trivial⟩ (Nat.lt_succ_self _)
  · omega
  · (intro j9_ u0_ u1_; exfalso; omega)
  · rfl
/-! M_.connectOpen -/
def vw_465 : sx_Wl := ([], [252, 253, 254, 255, 256, 258, 259, 260, 261], [])
def vq_465 (bu_ : Int) (S0_ : sm_S) (u_ : Option sm_V) (S1_ : sm_S) : Prop := u_ = none ∧ gi S1_ ∧ ai_fr (sx_W vw_465) S0_ S1_ ∧ (True)
set_option maxHeartbeats 400000 in
set_option maxRecDepth 20000 in
theorem vl_465 {sc_ : Nat × (Nat → Int)} (bu_ : Int) (S0_ : sm_S) (hgr_ : grd S0_) (hpw_ : pnw S0_) (hrw : rws S0_) : ∀ nn_ : Nat, (∀ (i_ : Int) (S_ : sm_S), gi S_ → ai_fr (sx_W vw_465) S0_ S_ → ((0 ≤ i_ ∧ i_ ≤ 162) ∧ True) → ((500 - i_).toNat) < nn_ → sm_T (mt_P sc_) 5 465 (2, [some (.inr (.inr (some (13, 0)))), some (.inl bu_), some (.inl i_)], [], S_) (fun ro9_ => ∃ u_ S1_, ro9_ = (.inl u_, S1_, 0) ∧ vq_465 bu_ S0_ u_ S1_)) := by
  intro nn_
  induction nn_ with
  | zero => exact fun _ _ _ _ _ h_ => absurd h_ (Nat.not_lt_zero _)
  | succ nn_ ih_ =>
    rintro i_ S_ hI_ hF_ ⟨h0_, -⟩ hm_
    have gr9_ := grd_fr hgr_ hF_
    have pw9_ := pnw_fr hpw_ hF_
    have rw9_ := rws_fr hrw hF_
    have bx1_ : 0 ≤ S_.1 13 0 184 ∧ S_.1 13 0 184 ≤ 162 := hI_.1 13 0 184 rfl
    refine sm_T_go 3 (c1 := (7, [some (.inr (.inr (some (13, 0)))), some (.inl bu_), some (.inl i_)], [.inl (S_.1 13 0 184), .inl i_], S_)) rfl ?_
    refine sm_T_br (a := 3) (z := 54) rfl (fun cx2_ => ?_) (fun cx2_ => ?_)
    · have cx2_ : (S_.1 13 0 184) ≤ i_ := of_decide_eq_true cx2_
      refine sm_T_rv rfl ⟨_, _, rfl, rfl, hI_, hF_, ?_⟩
      trivial
    · have cx2_ : ¬ ((S_.1 13 0 184) ≤ i_) := of_decide_eq_false cx2_
      refine sm_T_go 3 (c1 := (15, [some (.inr (.inr (some (13, 0)))), some (.inl bu_), some (.inl i_)], [.inl i_, .inr (.inr (some (262, 0)))], S_)) rfl ?_
      refine sm_T_iald (n := 256) rfl rfl (by omega) (by omega) ?_
      have bx3_ : 0 ≤ S_.2.2.1 262 0 i_.toNat ∧ S_.2.2.1 262 0 i_.toNat ≤ 161 := hI_.2 262 0 _
      refine sm_T_go 1 (c1 := (17, [some (.inr (.inr (some (13, 0)))), some (.inl bu_), some (.inl i_)], [.inl bu_, .inl (S_.2.2.1 262 0 i_.toNat)], S_)) rfl ?_
      refine sm_T_br (a := 0) (z := 38) rfl (fun cx4_ => ?_) (fun cx4_ => ?_)
      · have cx4_ : (S_.2.2.1 262 0 i_.toNat) = bu_ := of_decide_eq_true cx4_
        refine sm_T_inc (a := 2) (z := 1) (v := i_) (w := i_ + 1) rfl rfl (by omega) (by omega) (by omega) ?_ -- pc_ 55
        refine sm_T_go 1 (c1 := (2, [some (.inr (.inr (some (13, 0)))), some (.inl bu_), some (.inl (i_ + 1))], [], S_)) rfl ?_
        refine ih_ (i_ + 1) S_ hI_ hF_ ⟨?_, trivial⟩ ?_
        · omega
        · omega
      · have cx4_ : ¬ ((S_.2.2.1 262 0 i_.toNat) = bu_) := of_decide_eq_false cx4_
        have bx5_ : 0 ≤ S_.1 13 0 177 ∧ S_.1 13 0 177 ≤ 3 := hI_.1 13 0 177 rfl
        refine sm_T_go 5 (c1 := (31, [some (.inr (.inr (some (13, 0)))), some (.inl bu_), some (.inl i_)], [.inl (S_.1 13 0 177), .inl 256, .inr (.inr (some (256, 0)))], S_)) rfl ?_
        refine sm_T_bin (w := 256 * (S_.1 13 0 177)) rfl (bi_mul (by omega) (by omega) (by omega)) ?_ -- pc_ 31
        refine sm_T_go 3 (c1 := (37, [some (.inr (.inr (some (13, 0)))), some (.inl bu_), some (.inl i_)], [.inl i_, .inr (.inr (some (262, 0))), .inl (256 * (S_.1 13 0 177)), .inr (.inr (some (256, 0)))], S_)) rfl ?_
        refine sm_T_iald (n := 256) rfl rfl (by omega) (by omega) ?_
        refine sm_T_bin (w := 256 * (S_.1 13 0 177) + (S_.2.2.1 262 0 i_.toNat)) rfl (bi_add (by omega) (by omega) (by omega)) ?_ -- pc_ 38
        refine sm_T_zald (n := 1024) rfl rfl (by omega) (by omega) ?_
        have bx6_ : 0 ≤ S_.2.2.1 256 0 (256 * (S_.1 13 0 177) + (S_.2.2.1 262 0 i_.toNat)).toNat ∧ S_.2.2.1 256 0 (256 * (S_.1 13 0 177) + (S_.2.2.1 262 0 i_.toNat)).toNat ≤ 1 := hI_.2 256 0 _
        refine sm_T_b0 (a := 0) (z := 15) rfl (fun cx7_ => ?_) (fun cx7_ => ?_)
        · have cx7_ : (S_.2.2.1 256 0 (256 * (S_.1 13 0 177) + (S_.2.2.1 262 0 i_.toNat)).toNat) = 0 := of_decide_eq_true cx7_
          refine sm_T_inc (a := 2) (z := 1) (v := i_) (w := i_ + 1) rfl rfl (by omega) (by omega) (by omega) ?_ -- pc_ 55
          refine sm_T_go 1 (c1 := (2, [some (.inr (.inr (some (13, 0)))), some (.inl bu_), some (.inl (i_ + 1))], [], S_)) rfl ?_
          refine ih_ (i_ + 1) S_ hI_ hF_ ⟨?_, trivial⟩ ?_
          · omega
          · omega
        · have cx7_ : ¬ ((S_.2.2.1 256 0 (256 * (S_.1 13 0 177) + (S_.2.2.1 262 0 i_.toNat)).toNat) = 0) := of_decide_eq_false cx7_
          refine sm_T_go 4 (c1 := (49, [some (.inr (.inr (some (13, 0)))), some (.inl bu_), some (.inl i_)], [.inl i_, .inr (.inr (some (262, 0))), .inr (.inr (some (13, 0)))], S_)) rfl ?_
          refine sm_T_iald (n := 256) rfl rfl (by omega) (by omega) ?_
          refine sm_T_go 1 (c1 := (51, [some (.inr (.inr (some (13, 0)))), some (.inl bu_), some (.inl i_)], [.inl 0, .inl (S_.2.2.1 262 0 i_.toNat), .inr (.inr (some (13, 0)))], S_)) rfl ?_
          refine sm_T_cal (d1 := 4) (Q1 := vq_461 (S_.2.2.1 262 0 i_.toNat) 0 S_) rfl rfl (by decide) (vc_461 (S_.2.2.1 262 0 i_.toNat) 0 S_ hI_ (by exact gr9_) (by omega) (by decide) (by exact pw9_) (by exact rw9_ i_ (by omega) (by omega))) (fun u_ Sx8_ px11_ => ?_)
          obtain ⟨vx13_, rfl, hIx9_, hFx10_, px11_⟩ := px11_
          have hFx12_ : ai_fr (sx_W vw_465) S0_ Sx8_ := ai_fr_tr hF_ (fr_le hFx10_ rfl)
          have ex14_ : Sx8_.1 13 0 177 = S_.1 13 0 177 := hFx10_.1 13 0 177 rfl
          have ex15_ : Sx8_.1 13 0 184 = S_.1 13 0 184 := hFx10_.1 13 0 184 rfl
          refine sm_T_go 1 (c1 := (55, [some (.inr (.inr (some (13, 0)))), some (.inl bu_), some (.inl i_)], [], Sx8_)) rfl ?_
          refine sm_T_inc (a := 2) (z := 1) (v := i_) (w := i_ + 1) rfl rfl (by omega) (by omega) (by omega) ?_ -- pc_ 55
          refine sm_T_go 1 (c1 := (2, [some (.inr (.inr (some (13, 0)))), some (.inl bu_), some (.inl (i_ + 1))], [], Sx8_)) rfl ?_
          refine ih_ (i_ + 1) Sx8_ hIx9_ hFx12_ ⟨?_, trivial⟩ ?_
          · omega
          · omega
set_option maxHeartbeats 400000 in
set_option maxRecDepth 20000 in
theorem vc_465 {sc_ : Nat × (Nat → Int)} (bu_ : Int) (S0_ : sm_S) (hI_ : gi S0_) (hgr_ : grd S0_) (hpw_ : pnw S0_) (hrw : rws S0_) : sm_T (mt_P sc_) 5 465 (0, [some (.inr (.inr (some (13, 0)))), some (.inl bu_), none], [], S0_) (fun ro9_ => ∃ u_ S1_, ro9_ = (.inl u_, S1_, 0) ∧ vq_465 bu_ S0_ u_ S1_) := by
  have hF_ : ai_fr (sx_W vw_465) S0_ S0_ := ai_fr_rf
  refine sm_T_go 2 (c1 := (2, [some (.inr (.inr (some (13, 0)))), some (.inl bu_), some (.inl 0)], [], S0_)) rfl ?_
  refine (vl_465 bu_ S0_ hgr_ hpw_ hrw _) 0 S0_ hI_ hF_ ⟨?_, trivial⟩ (Nat.lt_succ_self _)
  · omega
/-! M_.layRow -/
def vw_462 : sx_Wl := ([(13, 159), (13, 184)], [243, 244, 245, 246, 247, 248, 249, 250, 262], [])
def vq_462 (c_ : Int) (X_ : Int) (Y_ : Int) (S0_ : sm_S) (u_ : Option sm_V) (S1_ : sm_S) : Prop := u_ = none ∧ gi S1_ ∧ ai_fr (sx_W vw_462) S0_ S1_ ∧ (pnv (S0_.2.2.1 223 0 c_.toNat + S0_.2.2.1 224 0 c_.toNat + S0_.2.2.1 228 0 c_.toNat) X_ Y_ S1_ ∧ rws S1_)
set_option maxHeartbeats 2000000 in
set_option maxRecDepth 20000 in
theorem vl_462 {sc_ : Nat × (Nat → Int)} (c_ : Int) (X_ : Int) (Y_ : Int) (S0_ : sm_S) (hc_ : 0 ≤ c_ ∧ c_ ≤ 3) (hx_ : S0_.2.2.1 223 0 c_.toNat + S0_.2.2.1 224 0 c_.toNat ≤ 12) (hg_ : cgt c_ S0_) (ho_ : con c_ S0_) (hP_ : ple c_ X_ Y_ S0_) : ∀ nn_ : Nat, (∀ (n_ : Int) (S_ : sm_S), gi S_ → ai_fr (sx_W vw_462) S0_ S_ → ((0 ≤ n_ ∧ n_ ≤ 168 ∧ S_.1 13 0 184 ≤ n_) ∧ (pnv (S0_.2.2.1 223 0 c_.toNat + S0_.2.2.1 224 0 c_.toNat + S0_.2.2.1 228 0 c_.toNat) X_ Y_ S_) ∧ (∀ n9_ : Int, 0 ≤ n9_ → n9_ < (S0_.2.2.1 223 0 c_.toNat + S0_.2.2.1 224 0 c_.toNat + S0_.2.2.1 228 0 c_.toNat) → pcx S_ (S_.1 13 0 159) n9_) ∧ (rws S_) ∧ True) → ((1000 * (500 - n_) + 900).toNat) < nn_ → sm_T (mt_P sc_) 4 462 (12, [some (.inr (.inr (some (13, 0)))), some (.inl c_), some (.inl n_), none], [], S_) (fun ro9_ => ∃ u_ S1_, ro9_ = (.inl u_, S1_, 0) ∧ vq_462 c_ X_ Y_ S0_ u_ S1_)) ∧ (∀ (n_ : Int) (i_ : Int) (S_ : sm_S), gi S_ → ai_fr (sx_W vw_462) S0_ S_ → ((0 ≤ n_ ∧ n_ < (S0_.2.2.1 223 0 c_.toNat + S0_.2.2.1 224 0 c_.toNat + S0_.2.2.1 228 0 c_.toNat) ∧ S_.1 13 0 184 ≤ n_ ∧ 0 ≤ i_ ∧ i_ ≤ S_.1 13 0 184 ∧ 2 ≤ S_.2.2.1 246 0 n_.toNat) ∧ (pnv (S0_.2.2.1 223 0 c_.toNat + S0_.2.2.1 224 0 c_.toNat + S0_.2.2.1 228 0 c_.toNat) X_ Y_ S_) ∧ (∀ n9_ : Int, 0 ≤ n9_ → n9_ < (S0_.2.2.1 223 0 c_.toNat + S0_.2.2.1 224 0 c_.toNat + S0_.2.2.1 228 0 c_.toNat) → pcx S_ (S_.1 13 0 159) n9_) ∧ (∀ j9_ : Int, 0 ≤ j9_ → j9_ ≤ S_.1 13 0 184 → j9_ ≠ i_ → hpn S_ (S_.2.2.1 262 0 j9_.toNat)) ∧ True) → ((1000 * (500 - n_) + 300 + i_).toNat) < nn_ → sm_T (mt_P sc_) 4 462 (36, [some (.inr (.inr (some (13, 0)))), some (.inl c_), some (.inl n_), some (.inl i_)], [], S_) (fun ro9_ => ∃ u_ S1_, ro9_ = (.inl u_, S1_, 0) ∧ vq_462 c_ X_ Y_ S0_ u_ S1_)) := by
  intro nn_
  induction nn_ with
  | zero => exact ⟨fun _ _ _ _ _ h_ => absurd h_ (Nat.not_lt_zero _), fun _ _ _ _ _ _ h_ => absurd h_ (Nat.not_lt_zero _)⟩
  | succ nn_ ih_ =>
    refine ⟨?_, ?_⟩
    · rintro n_ S_ hI_ hF_ ⟨h0_, hv_, hp_, hr_, -⟩ hm_
      have R9_ : 0 ≤ S_.1 13 0 184 ∧ S_.1 13 0 184 ≤ 162 := hI_.1 13 0 184 rfl
      have f223_ : S_.2.2.1 223 0 = S0_.2.2.1 223 0 := fr_arr hF_ rfl
      have f224_ : S_.2.2.1 224 0 = S0_.2.2.1 224 0 := fr_arr hF_ rfl
      have f228_ : S_.2.2.1 228 0 = S0_.2.2.1 228 0 := fr_arr hF_ rfl
      have cA_ : 0 ≤ S_.2.2.1 223 0 c_.toNat ∧ S_.2.2.1 223 0 c_.toNat ≤ 12 := hI_.2 223 0 _
      have cB_ : 0 ≤ S_.2.2.1 224 0 c_.toNat ∧ S_.2.2.1 224 0 c_.toNat ≤ 6 := hI_.2 224 0 _
      have cG_ : 0 ≤ S_.2.2.1 228 0 c_.toNat ∧ S_.2.2.1 228 0 c_.toNat ≤ 150 := hI_.2 228 0 _
      have x223_ : S_.2.2.1 223 0 c_.toNat = S0_.2.2.1 223 0 c_.toNat := congrFun f223_ _
      have x224_ : S_.2.2.1 224 0 c_.toNat = S0_.2.2.1 224 0 c_.toNat := congrFun f224_ _
      have x228_ : S_.2.2.1 228 0 c_.toNat = S0_.2.2.1 228 0 c_.toNat := congrFun f228_ _
      refine sm_T_go 3 (c1 := (15, [some (.inr (.inr (some (13, 0)))), some (.inl c_), some (.inl n_), none], [.inl c_, .inr (.inr (some (13, 0))), .inl n_], S_)) rfl ?_
      refine sm_T_cal (d1 := 0) (Q1 := vq_422 c_ S_) rfl rfl (by decide) (vc_422 c_ S_ hI_ (by omega)) (fun u_ Sx1_ px4_ => ?_)
      obtain ⟨rfl, vx6_, rfl, px4_⟩ := px4_
      refine sm_T_br (a := 3) (z := 85) rfl (fun cx7_ => ?_) (fun cx7_ => ?_)
      · have cx7_ : vx6_ ≤ n_ := of_decide_eq_true cx7_
        refine sm_T_rv rfl ⟨_, _, rfl, rfl, hI_, hF_, ?_⟩
        exact ⟨hv_, hr_⟩
      · have cx7_ : ¬ (vx6_ ≤ n_) := of_decide_eq_false cx7_
        refine sm_T_go 3 (c1 := (26, [some (.inr (.inr (some (13, 0)))), some (.inl c_), some (.inl n_), none], [.inl n_, .inr (.inr (some (246, 0)))], S_)) rfl ?_
        refine sm_T_iald (n := 256) rfl rfl (by omega) (by omega) ?_
        have bx8_ : 0 ≤ S_.2.2.1 246 0 n_.toNat ∧ S_.2.2.1 246 0 n_.toNat ≤ 700 := hI_.2 246 0 _
        refine sm_T_go 1 (c1 := (28, [some (.inr (.inr (some (13, 0)))), some (.inl c_), some (.inl n_), none], [.inl 2, .inl (S_.2.2.1 246 0 n_.toNat)], S_)) rfl ?_
        refine sm_T_br (a := 2) (z := 69) rfl (fun cx9_ => ?_) (fun cx9_ => ?_)
        · have cx9_ : (S_.2.2.1 246 0 n_.toNat) < 2 := of_decide_eq_true cx9_
          refine sm_T_inc (a := 2) (z := 1) (v := n_) (w := n_ + 1) rfl rfl (by omega) (by omega) (by omega) ?_ -- pc_ 97
          refine sm_T_go 1 (c1 := (12, [some (.inr (.inr (some (13, 0)))), some (.inl c_), some (.inl (n_ + 1)), none], [], S_)) rfl ?_
          refine ih_.1 (n_ + 1) S_ hI_ hF_ ⟨?_, ?_, ?_, ?_, trivial⟩ ?_
          · omega
          · exact hv_
          · exact hp_
          · exact hr_
          · omega
        · have cx9_ : ¬ ((S_.2.2.1 246 0 n_.toNat) < 2) := of_decide_eq_false cx9_
          have bx10_ : 0 ≤ S_.1 13 0 184 ∧ S_.1 13 0 184 ≤ 162 := hI_.1 13 0 184 rfl
          refine sm_T_go 3 (c1 := (36, [some (.inr (.inr (some (13, 0)))), some (.inl c_), some (.inl n_), some (.inl (S_.1 13 0 184))], [], S_)) rfl ?_
          refine ih_.2 n_ (S_.1 13 0 184) S_ hI_ hF_ ⟨?_, ?_, ?_, ?_, trivial⟩ ?_
          · omega
          · exact hv_
          · exact hp_
          · (intro j9_ u0_ u1_ u2_; exact hr_ j9_ u0_ (by omega))
          · omega
    · rintro n_ i_ S_ hI_ hF_ ⟨h0_, hv_, hp_, hr_, -⟩ hm_
      have R9_ : 0 ≤ S_.1 13 0 184 ∧ S_.1 13 0 184 ≤ 162 := hI_.1 13 0 184 rfl
      have f223_ : S_.2.2.1 223 0 = S0_.2.2.1 223 0 := fr_arr hF_ rfl
      have f224_ : S_.2.2.1 224 0 = S0_.2.2.1 224 0 := fr_arr hF_ rfl
      have f228_ : S_.2.2.1 228 0 = S0_.2.2.1 228 0 := fr_arr hF_ rfl
      have cA_ : 0 ≤ S_.2.2.1 223 0 c_.toNat ∧ S_.2.2.1 223 0 c_.toNat ≤ 12 := hI_.2 223 0 _
      have cB_ : 0 ≤ S_.2.2.1 224 0 c_.toNat ∧ S_.2.2.1 224 0 c_.toNat ≤ 6 := hI_.2 224 0 _
      have cG_ : 0 ≤ S_.2.2.1 228 0 c_.toNat ∧ S_.2.2.1 228 0 c_.toNat ≤ 150 := hI_.2 228 0 _
      have x223_ : S_.2.2.1 223 0 c_.toNat = S0_.2.2.1 223 0 c_.toNat := congrFun f223_ _
      have x224_ : S_.2.2.1 224 0 c_.toNat = S0_.2.2.1 224 0 c_.toNat := congrFun f224_ _
      have x228_ : S_.2.2.1 228 0 c_.toNat = S0_.2.2.1 228 0 c_.toNat := congrFun f228_ _
      refine sm_T_go 1 (c1 := (37, [some (.inr (.inr (some (13, 0)))), some (.inl c_), some (.inl n_), some (.inl i_)], [.inl i_], S_)) rfl ?_
      refine sm_T_b0 (a := 5) (z := 43) rfl (fun cx1_ => ?_) (fun cx1_ => ?_)
      · have cx1_ : i_ ≤ 0 := of_decide_eq_true cx1_
        refine sm_T_go 4 (c1 := (86, [some (.inr (.inr (some (13, 0)))), some (.inl c_), some (.inl n_), some (.inl i_)], [.inl n_, .inl i_, .inr (.inr (some (262, 0)))], S_)) rfl ?_
        refine sm_T_iast (n := 256) rfl rfl (by omega) (by omega) ?_
        have hIx2_ : gi (sm_aI S_ 262 0 i_.toNat n_) := gi_aI hI_ (show 0 ≤ n_ ∧ n_ ≤ 161 from ⟨by omega, by omega⟩)
        have hFx3_ : ai_fr (sx_W vw_462) S0_ (sm_aI S_ 262 0 i_.toNat n_) := ai_fr_tr hF_ (ai_fr_aI rfl)
        have bx4_ : 0 ≤ S_.1 13 0 184 ∧ S_.1 13 0 184 ≤ 162 := hI_.1 13 0 184 rfl
        refine sm_T_go 4 (c1 := (93, [some (.inr (.inr (some (13, 0)))), some (.inl c_), some (.inl n_), some (.inl i_)], [.inl 1, .inl (S_.1 13 0 184), .inr (.inr (some (13, 0)))], sm_aI S_ 262 0 i_.toNat n_)) rfl ?_
        refine sm_T_bin (w := (S_.1 13 0 184) + 1) rfl (bi_add (by omega) (by omega) (by omega)) ?_ -- pc_ 93
        have hIx5_ : gi (sm_pI (sm_aI S_ 262 0 i_.toNat n_) 13 0 184 ((S_.1 13 0 184) + 1)) := gi_pI hIx2_ (show 0 ≤ (S_.1 13 0 184) + 1 ∧ (S_.1 13 0 184) + 1 ≤ 162 from ⟨by omega, by omega⟩)
        have hFx6_ : ai_fr (sx_W vw_462) S0_ (sm_pI (sm_aI S_ 262 0 i_.toNat n_) 13 0 184 ((S_.1 13 0 184) + 1)) := ai_fr_tr hFx3_ (ai_fr_pI rfl)
        refine sm_T_go 1 (c1 := (97, [some (.inr (.inr (some (13, 0)))), some (.inl c_), some (.inl n_), some (.inl i_)], [], sm_pI (sm_aI S_ 262 0 i_.toNat n_) 13 0 184 ((S_.1 13 0 184) + 1))) rfl ?_
        refine sm_T_inc (a := 2) (z := 1) (v := n_) (w := n_ + 1) rfl rfl (by omega) (by omega) (by omega) ?_ -- pc_ 97
        refine sm_T_go 1 (c1 := (12, [some (.inr (.inr (some (13, 0)))), some (.inl c_), some (.inl (n_ + 1)), some (.inl i_)], [], sm_pI (sm_aI S_ 262 0 i_.toNat n_) 13 0 184 ((S_.1 13 0 184) + 1))) rfl ?_
        refine sm_T_wk [some (.inr (.inr (some (13, 0)))), some (.inl c_), some (.inl (n_ + 1)), none] (by exact ⟨rfl, rfl, rfl, trivial⟩) ?_
        refine ih_.1 (n_ + 1) (sm_pI (sm_aI S_ 262 0 i_.toNat n_) 13 0 184 ((S_.1 13 0 184) + 1)) hIx5_ hFx6_ ⟨?_, ?_, ?_, ?_, trivial⟩ ?_
        · ((try simp only [rd_eq, rd_ne, rf_eq, rf_nk, rf_nt, rd_fa, rd_af, rd_fl, rd_al, rd_lf, rd_la, rd_leq, rd_lne, rd_fr, rd_ar, ne_eq, Nat.reduceEqDiff, not_false_eq_true]); omega)
        · exact hv_
        · exact hp_
        · intro j9_ u0_ u1_
          have u2_ : j9_ < S_.1 13 0 184 + 1 := by ((try simp only [rd_eq, rd_ne, rf_eq, rf_nk, rf_nt, rd_fa, rd_af, rd_fl, rd_al, rd_lf, rd_la, rd_leq, rd_lne, rd_fr, rd_ar, ne_eq, Nat.reduceEqDiff, not_false_eq_true] at *); exact u1_)
          show hpn S_ _
          (try simp only [rd_eq, rd_ne, rf_eq, rf_nk, rf_nt, rd_fa, rd_af, rd_fl, rd_al, rd_lf, rd_la, rd_leq, rd_lne, rd_fr, rd_ar, ne_eq, Nat.reduceEqDiff, not_false_eq_true])
          by_cases z9_ : j9_.toNat = i_.toNat
          · rw [if_pos z9_]; exact pcx_h (hp_ n_ (by omega) (by omega)) (by omega)
          · rw [if_neg z9_]; exact hr_ j9_ u0_ (by omega) (by omega)
        · omega
      · have cx1_ : ¬ (i_ ≤ 0) := of_decide_eq_false cx1_
        refine sm_T_go 5 (c1 := (47, [some (.inr (.inr (some (13, 0)))), some (.inl c_), some (.inl n_), some (.inl i_)], [.inl 1, .inl i_, .inr (.inr (some (262, 0))), .inr (.inr (some (13, 0)))], S_)) rfl ?_
        refine sm_T_bin (w := i_ - 1) rfl (bi_sub (by omega) (by omega) (by omega)) ?_ -- pc_ 47
        refine sm_T_iald (n := 256) rfl rfl (by omega) (by omega) ?_
        have bx7_ : 0 ≤ S_.2.2.1 262 0 (i_ - 1).toNat ∧ S_.2.2.1 262 0 (i_ - 1).toNat ≤ 161 := hI_.2 262 0 _
        refine sm_T_cal (d1 := 0) (Q1 := vq_441 (S_.2.2.1 262 0 (i_ - 1).toNat) S_) rfl rfl (by decide) (vc_441 (S_.2.2.1 262 0 (i_ - 1).toNat) S_ hI_ (by omega)) (fun u_ Sx8_ px11_ => ?_)
        obtain ⟨rfl, vx13_, rfl, px11_⟩ := px11_
        refine sm_T_go 2 (c1 := (54, [some (.inr (.inr (some (13, 0)))), some (.inl c_), some (.inl n_), some (.inl i_)], [.inl n_, .inr (.inr (some (13, 0))), .inl vx13_], S_)) rfl ?_
        refine sm_T_cal (d1 := 0) (Q1 := vq_441 n_ S_) rfl rfl (by decide) (vc_441 n_ S_ hI_ (by omega)) (fun u_ Sx14_ px17_ => ?_)
        obtain ⟨rfl, vx19_, rfl, px17_⟩ := px17_
        refine sm_T_br (a := 5) (z := 23) rfl (fun cx20_ => ?_) (fun cx20_ => ?_)
        · have cx20_ : vx13_ ≤ vx19_ := of_decide_eq_true cx20_
          refine sm_T_go 4 (c1 := (86, [some (.inr (.inr (some (13, 0)))), some (.inl c_), some (.inl n_), some (.inl i_)], [.inl n_, .inl i_, .inr (.inr (some (262, 0)))], S_)) rfl ?_
          refine sm_T_iast (n := 256) rfl rfl (by omega) (by omega) ?_
          have hIx21_ : gi (sm_aI S_ 262 0 i_.toNat n_) := gi_aI hI_ (show 0 ≤ n_ ∧ n_ ≤ 161 from ⟨by omega, by omega⟩)
          have hFx22_ : ai_fr (sx_W vw_462) S0_ (sm_aI S_ 262 0 i_.toNat n_) := ai_fr_tr hF_ (ai_fr_aI rfl)
          have bx23_ : 0 ≤ S_.1 13 0 184 ∧ S_.1 13 0 184 ≤ 162 := hI_.1 13 0 184 rfl
          refine sm_T_go 4 (c1 := (93, [some (.inr (.inr (some (13, 0)))), some (.inl c_), some (.inl n_), some (.inl i_)], [.inl 1, .inl (S_.1 13 0 184), .inr (.inr (some (13, 0)))], sm_aI S_ 262 0 i_.toNat n_)) rfl ?_
          refine sm_T_bin (w := (S_.1 13 0 184) + 1) rfl (bi_add (by omega) (by omega) (by omega)) ?_ -- pc_ 93
          have hIx24_ : gi (sm_pI (sm_aI S_ 262 0 i_.toNat n_) 13 0 184 ((S_.1 13 0 184) + 1)) := gi_pI hIx21_ (show 0 ≤ (S_.1 13 0 184) + 1 ∧ (S_.1 13 0 184) + 1 ≤ 162 from ⟨by omega, by omega⟩)
          have hFx25_ : ai_fr (sx_W vw_462) S0_ (sm_pI (sm_aI S_ 262 0 i_.toNat n_) 13 0 184 ((S_.1 13 0 184) + 1)) := ai_fr_tr hFx22_ (ai_fr_pI rfl)
          refine sm_T_go 1 (c1 := (97, [some (.inr (.inr (some (13, 0)))), some (.inl c_), some (.inl n_), some (.inl i_)], [], sm_pI (sm_aI S_ 262 0 i_.toNat n_) 13 0 184 ((S_.1 13 0 184) + 1))) rfl ?_
          refine sm_T_inc (a := 2) (z := 1) (v := n_) (w := n_ + 1) rfl rfl (by omega) (by omega) (by omega) ?_ -- pc_ 97
          refine sm_T_go 1 (c1 := (12, [some (.inr (.inr (some (13, 0)))), some (.inl c_), some (.inl (n_ + 1)), some (.inl i_)], [], sm_pI (sm_aI S_ 262 0 i_.toNat n_) 13 0 184 ((S_.1 13 0 184) + 1))) rfl ?_
          refine sm_T_wk [some (.inr (.inr (some (13, 0)))), some (.inl c_), some (.inl (n_ + 1)), none] (by exact ⟨rfl, rfl, rfl, trivial⟩) ?_
          refine ih_.1 (n_ + 1) (sm_pI (sm_aI S_ 262 0 i_.toNat n_) 13 0 184 ((S_.1 13 0 184) + 1)) hIx24_ hFx25_ ⟨?_, ?_, ?_, ?_, trivial⟩ ?_
          · ((try simp only [rd_eq, rd_ne, rf_eq, rf_nk, rf_nt, rd_fa, rd_af, rd_fl, rd_al, rd_lf, rd_la, rd_leq, rd_lne, rd_fr, rd_ar, ne_eq, Nat.reduceEqDiff, not_false_eq_true]); omega)
          · exact hv_
          · exact hp_
          · intro j9_ u0_ u1_
            have u2_ : j9_ < S_.1 13 0 184 + 1 := by ((try simp only [rd_eq, rd_ne, rf_eq, rf_nk, rf_nt, rd_fa, rd_af, rd_fl, rd_al, rd_lf, rd_la, rd_leq, rd_lne, rd_fr, rd_ar, ne_eq, Nat.reduceEqDiff, not_false_eq_true] at *); exact u1_)
            show hpn S_ _
            (try simp only [rd_eq, rd_ne, rf_eq, rf_nk, rf_nt, rd_fa, rd_af, rd_fl, rd_al, rd_lf, rd_la, rd_leq, rd_lne, rd_fr, rd_ar, ne_eq, Nat.reduceEqDiff, not_false_eq_true])
            by_cases z9_ : j9_.toNat = i_.toNat
            · rw [if_pos z9_]; exact pcx_h (hp_ n_ (by omega) (by omega)) (by omega)
            · rw [if_neg z9_]; exact hr_ j9_ u0_ (by omega) (by omega)
          · omega
        · have cx20_ : ¬ (vx13_ ≤ vx19_) := of_decide_eq_false cx20_
          refine sm_T_go 7 (c1 := (71, [some (.inr (.inr (some (13, 0)))), some (.inl c_), some (.inl n_), some (.inl i_)], [.inl 1, .inl i_, .inr (.inr (some (262, 0))), .inl i_, .inr (.inr (some (262, 0)))], S_)) rfl ?_
          refine sm_T_bin (w := i_ - 1) rfl (bi_sub (by omega) (by omega) (by omega)) ?_ -- pc_ 71
          refine sm_T_iald (n := 256) rfl rfl (by omega) (by omega) ?_
          refine sm_T_iast (n := 256) rfl rfl (by omega) (by omega) ?_
          have hIx26_ : gi (sm_aI S_ 262 0 i_.toNat (S_.2.2.1 262 0 (i_ - 1).toNat)) := gi_aI hI_ (show 0 ≤ (S_.2.2.1 262 0 (i_ - 1).toNat) ∧ (S_.2.2.1 262 0 (i_ - 1).toNat) ≤ 161 from ⟨by omega, by omega⟩)
          have hFx27_ : ai_fr (sx_W vw_462) S0_ (sm_aI S_ 262 0 i_.toNat (S_.2.2.1 262 0 (i_ - 1).toNat)) := ai_fr_tr hF_ (ai_fr_aI rfl)
          refine sm_T_inc (a := 3) (z := (-1)) (v := i_) (w := i_ - 1) rfl rfl (by omega) (by omega) (by omega) ?_ -- pc_ 74
          refine sm_T_go 1 (c1 := (36, [some (.inr (.inr (some (13, 0)))), some (.inl c_), some (.inl n_), some (.inl (i_ - 1))], [], sm_aI S_ 262 0 i_.toNat (S_.2.2.1 262 0 (i_ - 1).toNat))) rfl ?_
          refine ih_.2 n_ (i_ - 1) (sm_aI S_ 262 0 i_.toNat (S_.2.2.1 262 0 (i_ - 1).toNat)) hIx26_ hFx27_ ⟨?_, ?_, ?_, ?_, trivial⟩ ?_
          · ((try simp only [rd_eq, rd_ne, rf_eq, rf_nk, rf_nt, rd_fa, rd_af, rd_fl, rd_al, rd_lf, rd_la, rd_leq, rd_lne, rd_fr, rd_ar, ne_eq, Nat.reduceEqDiff, not_false_eq_true]); omega)
          · exact hv_
          · exact hp_
          · intro j9_ u0_ u1_ u2_
            show hpn S_ _
            rw [rd_eq]
            by_cases z9_ : j9_.toNat = i_.toNat
            · rw [if_pos z9_]; exact hr_ (i_ - 1) (by omega) (by omega) (by omega)
            · rw [if_neg z9_]; exact hr_ j9_ u0_ u1_ (by omega)
          · omega
set_option maxHeartbeats 2000000 in
set_option maxRecDepth 20000 in
theorem vc_462 {sc_ : Nat × (Nat → Int)} (c_ : Int) (X_ : Int) (Y_ : Int) (S0_ : sm_S) (hI_ : gi S0_) (hc_ : 0 ≤ c_ ∧ c_ ≤ 3) (hx_ : S0_.2.2.1 223 0 c_.toNat + S0_.2.2.1 224 0 c_.toNat ≤ 12) (hg_ : cgt c_ S0_) (ho_ : con c_ S0_) (hP_ : ple c_ X_ Y_ S0_) : sm_T (mt_P sc_) 4 462 (0, [some (.inr (.inr (some (13, 0)))), some (.inl c_), none, none], [], S0_) (fun ro9_ => ∃ u_ S1_, ro9_ = (.inl u_, S1_, 0) ∧ vq_462 c_ X_ Y_ S0_ u_ S1_) := by
  have hF_ : ai_fr (sx_W vw_462) S0_ S0_ := ai_fr_rf
  refine sm_T_go 2 (c1 := (2, [some (.inr (.inr (some (13, 0)))), some (.inl c_), none, none], [.inl c_, .inr (.inr (some (13, 0)))], S0_)) rfl ?_
  refine sm_T_cal (d1 := 3) (Q1 := vq_440 c_ X_ Y_ S0_) rfl rfl (by decide) (vc_440 c_ X_ Y_ S0_ hI_ (by exact hc_) (by exact hx_) (by exact hg_) (by exact ho_) (by exact hP_)) (fun u_ Sx1_ px4_ => ?_)
  obtain ⟨rfl, hIx2_, hFx3_, px4_⟩ := px4_
  have hFx5_ : ai_fr (sx_W vw_462) S0_ Sx1_ := ai_fr_tr hF_ (fr_le hFx3_ rfl)
  have v2_ := px4_
  have p2_ : 0 ≤ Sx1_.1 13 0 159 := (hIx2_.1 13 0 159 rfl).1
  have hIx6_ : gi (sm_pI Sx1_ 13 0 184 0) := gi_pI hIx2_ (show 0 ≤ 0 ∧ 0 ≤ 162 from ⟨by omega, by omega⟩)
  have hFx7_ : ai_fr (sx_W vw_462) S0_ (sm_pI Sx1_ 13 0 184 0) := ai_fr_tr hFx5_ (ai_fr_pI rfl)
  refine sm_T_go 5 (c1 := (12, [some (.inr (.inr (some (13, 0)))), some (.inl c_), some (.inl 0), none], [], sm_pI Sx1_ 13 0 184 0)) rfl ?_
  refine (vl_462 c_ X_ Y_ S0_ hc_ hx_ hg_ ho_ hP_ _).1 0 (sm_pI Sx1_ 13 0 184 0) hIx6_ hFx7_ ⟨?_, ?_, ?_, ?_, trivial⟩ (Nat.lt_succ_self _)
  · (rw [rf_eq]; omega)
  · (intro k9_ k0_ k1_; (try simp only [rd_eq, rd_ne, rf_eq, rf_nk, rf_nt, rd_fa, rd_af, rd_fl, rd_al, rd_lf, rd_la, rd_leq, rd_lne, rd_fr, rd_ar, ne_eq, Nat.reduceEqDiff, not_false_eq_true]); exact v2_.1 k9_ k0_ (by (try simp only [rd_eq, rd_ne, rf_eq, rf_nk, rf_nt, rd_fa, rd_af, rd_fl, rd_al, rd_lf, rd_la, rd_leq, rd_lne, rd_fr, rd_ar, ne_eq, Nat.reduceEqDiff, not_false_eq_true] at *); exact k1_))
  · (intro n9_ u0_ u1_; exact v2_.2 n9_ u0_ u1_)
  · (intro i9_ u0_ u1_; rw [rf_eq] at u1_; exfalso; omega)

theorem cpl_fq {w_ : sx_Wl} {c_ : Int} {S_ S'_ : sm_S} (h_ : cpl c_ S_) (g_ : ai_fr (sx_W w_) S_ S'_) (h1_ : (sx_W w_).2.1 224 = false) (h2_ : (sx_W w_).2.1 228 = false) (h3_ : (sx_W w_).2.1 229 = false) (h4_ : (sx_W w_).2.1 234 = false) (h5_ : (sx_W w_).2.1 239 = false) (h6_ : (sx_W w_).2.1 240 = false) (h7_ : (sx_W w_).2.1 241 = false) (h8_ : (sx_W w_).2.1 242 = false) : cpl c_ S'_ := by
  unfold cpl csz at *
  rw [fr_arr g_ h1_, fr_arr g_ h2_, fr_arr g_ h3_, fr_arr g_ h4_, fr_arr g_ h5_, fr_arr g_ h6_, fr_arr g_ h7_, fr_arr g_ h8_]
  exact h_
/-! M_.route -/
def vw_466 : sx_Wl := ([(13, 0), (13, 159), (13, 174), (13, 175), (13, 176), (13, 177), (13, 184)], [243, 244, 245, 246, 247, 248, 249, 250, 251, 252, 253, 254, 255, 256, 257, 258, 259, 260, 261, 262, 263], [])
def vq_466 (a1_ : Int) (a2_ : Int) (S0_ : sm_S) (u_ : Option sm_V) (S1_ : sm_S) : Prop := ∃ v_ : Int, u_ = some (.inl v_) ∧ gi S1_ ∧ ai_fr (sx_W vw_466) S0_ S1_ ∧ (rcf a1_.toNat S0_ S1_ ∧ ((-2147483648 ≤ v_ ∧ v_ ≤ 2147483647) ∧ jR S1_))
set_option maxHeartbeats 4000000 in
set_option maxRecDepth 20000 in
theorem vl_466 {sc_ : Nat × (Nat → Int)} (a1_ : Int) (a2_ : Int) (S0_ : sm_S) (ha1_ : (-2147483648) ≤ a1_ ∧ a1_ ≤ 2147483647) (ha2_ : (-2147483648) ≤ a2_ ∧ a2_ ≤ 2147483647) (hJ_ : jR S0_) : ∀ nn_ : Nat, (∀ (p_ : Int) (S_ : sm_S), gi S_ → ai_fr (sx_W vw_466) S0_ S_ → ((0 ≤ a1_ ∧ a1_ < 4 ∧ 0 ≤ a2_ ∧ a2_ ≤ 12 ∧ S_.1 13 0 177 = a1_) ∧ (grd S_) ∧ (pnw S_) ∧ (rws S_) ∧ (S0_.2.2.1 222 0 a1_.toNat = 1 ∧ 1 ≤ S0_.2.2.1 240 0 a1_.toNat) ∧ (0 ≤ p_ ∧ p_ ≤ 4712) ∧ (rcf a1_.toNat S0_ S_) ∧ True) → (90000 + (5000 - p_).toNat) < nn_ → sm_T (mt_P sc_) 6 466 (65, [some (.inr (.inr (some (13, 0)))), some (.inl a1_), some (.inl a2_), some (.inl p_), none, none], [], S_) (fun ro9_ => ∃ u_ S1_, ro9_ = (.inl u_, S1_, 0) ∧ vq_466 a1_ a2_ S0_ u_ S1_)) ∧ (∀ (k_ : Int) (S_ : sm_S), gi S_ → ai_fr (sx_W vw_466) S0_ S_ → ((0 ≤ a1_ ∧ a1_ < 4 ∧ 0 ≤ a2_ ∧ a2_ ≤ 12 ∧ S_.1 13 0 177 = a1_) ∧ (grd S_) ∧ (pnw S_) ∧ (rws S_) ∧ (S0_.2.2.1 222 0 a1_.toNat = 1 ∧ 1 ≤ S0_.2.2.1 240 0 a1_.toNat) ∧ (0 ≤ k_ ∧ k_ ≤ 700) ∧ (rcf a1_.toNat S0_ S_) ∧ True) → (80000 + (5000 - k_).toNat) < nn_ → sm_T (mt_P sc_) 6 466 (140, [some (.inr (.inr (some (13, 0)))), some (.inl a1_), some (.inl a2_), some (.inl k_), none, none], [], S_) (fun ro9_ => ∃ u_ S1_, ro9_ = (.inl u_, S1_, 0) ∧ vq_466 a1_ a2_ S0_ u_ S1_)) ∧ (∀ (n_ : Int) (S_ : sm_S), gi S_ → ai_fr (sx_W vw_466) S0_ S_ → ((0 ≤ a1_ ∧ a1_ < 4 ∧ 0 ≤ a2_ ∧ a2_ ≤ 12 ∧ S_.1 13 0 177 = a1_) ∧ (grd S_) ∧ (pnw S_) ∧ (rws S_) ∧ (S0_.2.2.1 222 0 a1_.toNat = 1 ∧ 1 ≤ S0_.2.2.1 240 0 a1_.toNat) ∧ (0 ≤ n_ ∧ n_ ≤ 168) ∧ (rcf a1_.toNat S0_ S_) ∧ True) → (70000 + (5000 - n_).toNat) < nn_ → sm_T (mt_P sc_) 6 466 (183, [some (.inr (.inr (some (13, 0)))), some (.inl a1_), some (.inl a2_), some (.inl n_), none, none], [], S_) (fun ro9_ => ∃ u_ S1_, ro9_ = (.inl u_, S1_, 0) ∧ vq_466 a1_ a2_ S0_ u_ S1_)) ∧ (∀ (go_ : Int) (r_ : Int) (S_ : sm_S), gi S_ → ai_fr (sx_W vw_466) S0_ S_ → ((0 ≤ a1_ ∧ a1_ < 4 ∧ 0 ≤ a2_ ∧ a2_ ≤ 12 ∧ S_.1 13 0 177 = a1_) ∧ (grd S_) ∧ (pnw S_) ∧ (rws S_) ∧ (S0_.2.2.1 222 0 a1_.toNat = 1 ∧ 1 ≤ S0_.2.2.1 240 0 a1_.toNat) ∧ (0 ≤ r_ ∧ r_ ≤ 12) ∧ (rcf a1_.toNat S0_ S_) ∧ True) → (60000 + (5000 - r_).toNat) < nn_ → sm_T (mt_P sc_) 6 466 (235, [some (.inr (.inr (some (13, 0)))), some (.inl a1_), some (.inl a2_), some (.inl go_), some (.inl r_), none], [], S_) (fun ro9_ => ∃ u_ S1_, ro9_ = (.inl u_, S1_, 0) ∧ vq_466 a1_ a2_ S0_ u_ S1_)) ∧ (∀ (op_ : Int) (n_ : Int) (S_ : sm_S), gi S_ → ai_fr (sx_W vw_466) S0_ S_ → ((0 ≤ a1_ ∧ a1_ < 4 ∧ 0 ≤ a2_ ∧ a2_ ≤ 12 ∧ S_.1 13 0 177 = a1_) ∧ (grd S_) ∧ (pnw S_) ∧ (rws S_) ∧ (S0_.2.2.1 222 0 a1_.toNat = 1 ∧ 1 ≤ S0_.2.2.1 240 0 a1_.toNat) ∧ (0 ≤ n_ ∧ n_ ≤ 168 ∧ 0 ≤ op_ ∧ op_ ≤ n_) ∧ (rcf a1_.toNat S0_ S_) ∧ True) → ((5000 - n_).toNat) < nn_ → sm_T (mt_P sc_) 6 466 (303, [some (.inr (.inr (some (13, 0)))), some (.inl a1_), some (.inl a2_), none, some (.inl op_), some (.inl n_)], [], S_) (fun ro9_ => ∃ u_ S1_, ro9_ = (.inl u_, S1_, 0) ∧ vq_466 a1_ a2_ S0_ u_ S1_)) := by
  intro nn_
  induction nn_ with
  | zero => exact ⟨fun _ _ _ _ _ h_ => absurd h_ (Nat.not_lt_zero _), fun _ _ _ _ _ h_ => absurd h_ (Nat.not_lt_zero _), fun _ _ _ _ _ h_ => absurd h_ (Nat.not_lt_zero _), fun _ _ _ _ _ _ h_ => absurd h_ (Nat.not_lt_zero _), fun _ _ _ _ _ _ h_ => absurd h_ (Nat.not_lt_zero _)⟩
  | succ nn_ ih_ =>
    refine ⟨?_, ?_, ?_, ?_, ?_⟩
    · rintro p_ S_ hI_ hF_ ⟨h0_, hgr_, hpw_, hrw, ht_, h1_, hK_, -⟩ hm_
      have gm9_ := grd_m hgr_
      have g5_ := hgr_.2.2.2.2
      have P9_ : 0 ≤ S_.1 13 0 159 ∧ S_.1 13 0 159 ≤ 700 := hI_.1 13 0 159 rfl
      have A9_ : 0 ≤ S_.1 13 0 176 ∧ S_.1 13 0 176 ≤ 4712 := hI_.1 13 0 176 rfl
      have bx1_ : 0 ≤ S_.1 13 0 176 ∧ S_.1 13 0 176 ≤ 4712 := hI_.1 13 0 176 rfl
      refine sm_T_go 3 (c1 := (70, [some (.inr (.inr (some (13, 0)))), some (.inl a1_), some (.inl a2_), some (.inl p_), none, none], [.inl (S_.1 13 0 176), .inl p_], S_)) rfl ?_
      refine sm_T_br (a := 3) (z := 68) rfl (fun cx2_ => ?_) (fun cx2_ => ?_)
      · have cx2_ : (S_.1 13 0 176) ≤ p_ := of_decide_eq_true cx2_
        refine sm_T_go 2 (c1 := (140, [some (.inr (.inr (some (13, 0)))), some (.inl a1_), some (.inl a2_), some (.inl 0), none, none], [], S_)) rfl ?_
        refine ih_.2.1 0 S_ hI_ hF_ ⟨?_, ?_, ?_, ?_, ?_, ?_, ?_, trivial⟩ ?_
        · omega
        · exact hgr_
        · exact hpw_
        · exact hrw
        · exact ht_
        · omega
        · exact hK_
        · omega
      · have cx2_ : ¬ ((S_.1 13 0 176) ≤ p_) := of_decide_eq_false cx2_
        refine sm_T_go 4 (c1 := (79, [some (.inr (.inr (some (13, 0)))), some (.inl a1_), some (.inl a2_), some (.inl p_), none, none], [.inl (-1), .inl p_, .inr (.inr (some (257, 0)))], S_)) rfl ?_
        refine sm_T_iast (n := 4712) rfl rfl (by omega) (by omega) ?_
        have hIx3_ : gi (sm_aI S_ 257 0 p_.toNat (-1)) := gi_aI hI_ (show (-1) ≤ (-1) ∧ (-1) ≤ 161 from ⟨by omega, by omega⟩)
        have hFx4_ : ai_fr (sx_W vw_466) S0_ (sm_aI S_ 257 0 p_.toNat (-1)) := ai_fr_tr hF_ (ai_fr_aI rfl)
        have hKx5_ : rcf a1_.toNat S0_ (sm_aI S_ 257 0 p_.toNat (-1)) := rcf_aI hK_ (Or.inl rfl)
        refine sm_T_go 4 (c1 := (88, [some (.inr (.inr (some (13, 0)))), some (.inl a1_), some (.inl a2_), some (.inl p_), none, none], [.inl a1_, .inl 4712, .inr (.inr (some (252, 0)))], sm_aI S_ 257 0 p_.toNat (-1))) rfl ?_
        refine sm_T_bin (w := 4712 * a1_) rfl (bi_mul (by omega) (by omega) (by omega)) ?_ -- pc_ 88
        refine sm_T_go 1 (c1 := (90, [some (.inr (.inr (some (13, 0)))), some (.inl a1_), some (.inl a2_), some (.inl p_), none, none], [.inl p_, .inl (4712 * a1_), .inr (.inr (some (252, 0)))], sm_aI S_ 257 0 p_.toNat (-1))) rfl ?_
        refine sm_T_bin (w := 4712 * a1_ + p_) rfl (bi_add (by omega) (by omega) (by omega)) ?_ -- pc_ 90
        refine sm_T_go 1 (c1 := (92, [some (.inr (.inr (some (13, 0)))), some (.inl a1_), some (.inl a2_), some (.inl p_), none, none], [.inl (-1), .inl (4712 * a1_ + p_), .inr (.inr (some (252, 0)))], sm_aI S_ 257 0 p_.toNat (-1))) rfl ?_
        refine sm_T_iast (n := 18848) rfl rfl (by omega) (by omega) ?_
        have hIx6_ : gi (sm_aI (sm_aI S_ 257 0 p_.toNat (-1)) 252 0 (4712 * a1_ + p_).toNat (-1)) := gi_aI hIx3_ (show (-1) ≤ (-1) ∧ (-1) ≤ 161 from ⟨by omega, by omega⟩)
        have hFx7_ : ai_fr (sx_W vw_466) S0_ (sm_aI (sm_aI S_ 257 0 p_.toNat (-1)) 252 0 (4712 * a1_ + p_).toNat (-1)) := ai_fr_tr hFx4_ (ai_fr_aI rfl)
        have hKx8_ : rcf a1_.toNat S0_ (sm_aI (sm_aI S_ 257 0 p_.toNat (-1)) 252 0 (4712 * a1_ + p_).toNat (-1)) := rcf_aI hKx5_ (Or.inl rfl)
        refine sm_T_go 4 (c1 := (101, [some (.inr (.inr (some (13, 0)))), some (.inl a1_), some (.inl a2_), some (.inl p_), none, none], [.inl a1_, .inl 4712, .inr (.inr (some (253, 0)))], sm_aI (sm_aI S_ 257 0 p_.toNat (-1)) 252 0 (4712 * a1_ + p_).toNat (-1))) rfl ?_
        refine sm_T_bin (w := 4712 * a1_) rfl (bi_mul (by omega) (by omega) (by omega)) ?_ -- pc_ 101
        refine sm_T_go 1 (c1 := (103, [some (.inr (.inr (some (13, 0)))), some (.inl a1_), some (.inl a2_), some (.inl p_), none, none], [.inl p_, .inl (4712 * a1_), .inr (.inr (some (253, 0)))], sm_aI (sm_aI S_ 257 0 p_.toNat (-1)) 252 0 (4712 * a1_ + p_).toNat (-1))) rfl ?_
        refine sm_T_bin (w := 4712 * a1_ + p_) rfl (bi_add (by omega) (by omega) (by omega)) ?_ -- pc_ 103
        refine sm_T_go 1 (c1 := (105, [some (.inr (.inr (some (13, 0)))), some (.inl a1_), some (.inl a2_), some (.inl p_), none, none], [.inl 0, .inl (4712 * a1_ + p_), .inr (.inr (some (253, 0)))], sm_aI (sm_aI S_ 257 0 p_.toNat (-1)) 252 0 (4712 * a1_ + p_).toNat (-1))) rfl ?_
        refine sm_T_zas1 (n := 18848) rfl rfl (by omega) (by omega) (by omega) ?_
        have hIx9_ : gi (sm_aI (sm_aI (sm_aI S_ 257 0 p_.toNat (-1)) 252 0 (4712 * a1_ + p_).toNat (-1)) 253 0 (4712 * a1_ + p_).toNat 0) := gi_aI hIx6_ (show 0 ≤ 0 ∧ 0 ≤ 1 from ⟨by omega, by omega⟩)
        have hFx10_ : ai_fr (sx_W vw_466) S0_ (sm_aI (sm_aI (sm_aI S_ 257 0 p_.toNat (-1)) 252 0 (4712 * a1_ + p_).toNat (-1)) 253 0 (4712 * a1_ + p_).toNat 0) := ai_fr_tr hFx7_ (ai_fr_aI rfl)
        have hKx11_ : rcf a1_.toNat S0_ (sm_aI (sm_aI (sm_aI S_ 257 0 p_.toNat (-1)) 252 0 (4712 * a1_ + p_).toNat (-1)) 253 0 (4712 * a1_ + p_).toNat 0) := rcf_aI hKx8_ (Or.inl rfl)
        refine sm_T_go 4 (c1 := (114, [some (.inr (.inr (some (13, 0)))), some (.inl a1_), some (.inl a2_), some (.inl p_), none, none], [.inl a1_, .inl 4712, .inr (.inr (some (254, 0)))], sm_aI (sm_aI (sm_aI S_ 257 0 p_.toNat (-1)) 252 0 (4712 * a1_ + p_).toNat (-1)) 253 0 (4712 * a1_ + p_).toNat 0)) rfl ?_
        refine sm_T_bin (w := 4712 * a1_) rfl (bi_mul (by omega) (by omega) (by omega)) ?_ -- pc_ 114
        refine sm_T_go 1 (c1 := (116, [some (.inr (.inr (some (13, 0)))), some (.inl a1_), some (.inl a2_), some (.inl p_), none, none], [.inl p_, .inl (4712 * a1_), .inr (.inr (some (254, 0)))], sm_aI (sm_aI (sm_aI S_ 257 0 p_.toNat (-1)) 252 0 (4712 * a1_ + p_).toNat (-1)) 253 0 (4712 * a1_ + p_).toNat 0)) rfl ?_
        refine sm_T_bin (w := 4712 * a1_ + p_) rfl (bi_add (by omega) (by omega) (by omega)) ?_ -- pc_ 116
        refine sm_T_go 1 (c1 := (118, [some (.inr (.inr (some (13, 0)))), some (.inl a1_), some (.inl a2_), some (.inl p_), none, none], [.inl 0, .inl (4712 * a1_ + p_), .inr (.inr (some (254, 0)))], sm_aI (sm_aI (sm_aI S_ 257 0 p_.toNat (-1)) 252 0 (4712 * a1_ + p_).toNat (-1)) 253 0 (4712 * a1_ + p_).toNat 0)) rfl ?_
        refine sm_T_zas1 (n := 18848) rfl rfl (by omega) (by omega) (by omega) ?_
        have hIx12_ : gi (sm_aI (sm_aI (sm_aI (sm_aI S_ 257 0 p_.toNat (-1)) 252 0 (4712 * a1_ + p_).toNat (-1)) 253 0 (4712 * a1_ + p_).toNat 0) 254 0 (4712 * a1_ + p_).toNat 0) := gi_aI hIx9_ (show 0 ≤ 0 ∧ 0 ≤ 1 from ⟨by omega, by omega⟩)
        have hFx13_ : ai_fr (sx_W vw_466) S0_ (sm_aI (sm_aI (sm_aI (sm_aI S_ 257 0 p_.toNat (-1)) 252 0 (4712 * a1_ + p_).toNat (-1)) 253 0 (4712 * a1_ + p_).toNat 0) 254 0 (4712 * a1_ + p_).toNat 0) := ai_fr_tr hFx10_ (ai_fr_aI rfl)
        have hKx14_ : rcf a1_.toNat S0_ (sm_aI (sm_aI (sm_aI (sm_aI S_ 257 0 p_.toNat (-1)) 252 0 (4712 * a1_ + p_).toNat (-1)) 253 0 (4712 * a1_ + p_).toNat 0) 254 0 (4712 * a1_ + p_).toNat 0) := rcf_aI hKx11_ (Or.inl rfl)
        refine sm_T_go 4 (c1 := (127, [some (.inr (.inr (some (13, 0)))), some (.inl a1_), some (.inl a2_), some (.inl p_), none, none], [.inl a1_, .inl 4712, .inr (.inr (some (255, 0)))], sm_aI (sm_aI (sm_aI (sm_aI S_ 257 0 p_.toNat (-1)) 252 0 (4712 * a1_ + p_).toNat (-1)) 253 0 (4712 * a1_ + p_).toNat 0) 254 0 (4712 * a1_ + p_).toNat 0)) rfl ?_
        refine sm_T_bin (w := 4712 * a1_) rfl (bi_mul (by omega) (by omega) (by omega)) ?_ -- pc_ 127
        refine sm_T_go 1 (c1 := (129, [some (.inr (.inr (some (13, 0)))), some (.inl a1_), some (.inl a2_), some (.inl p_), none, none], [.inl p_, .inl (4712 * a1_), .inr (.inr (some (255, 0)))], sm_aI (sm_aI (sm_aI (sm_aI S_ 257 0 p_.toNat (-1)) 252 0 (4712 * a1_ + p_).toNat (-1)) 253 0 (4712 * a1_ + p_).toNat 0) 254 0 (4712 * a1_ + p_).toNat 0)) rfl ?_
        refine sm_T_bin (w := 4712 * a1_ + p_) rfl (bi_add (by omega) (by omega) (by omega)) ?_ -- pc_ 129
        refine sm_T_go 1 (c1 := (131, [some (.inr (.inr (some (13, 0)))), some (.inl a1_), some (.inl a2_), some (.inl p_), none, none], [.inl 0, .inl (4712 * a1_ + p_), .inr (.inr (some (255, 0)))], sm_aI (sm_aI (sm_aI (sm_aI S_ 257 0 p_.toNat (-1)) 252 0 (4712 * a1_ + p_).toNat (-1)) 253 0 (4712 * a1_ + p_).toNat 0) 254 0 (4712 * a1_ + p_).toNat 0)) rfl ?_
        refine sm_T_zas1 (n := 18848) rfl rfl (by omega) (by omega) (by omega) ?_
        have hIx15_ : gi (sm_aI (sm_aI (sm_aI (sm_aI (sm_aI S_ 257 0 p_.toNat (-1)) 252 0 (4712 * a1_ + p_).toNat (-1)) 253 0 (4712 * a1_ + p_).toNat 0) 254 0 (4712 * a1_ + p_).toNat 0) 255 0 (4712 * a1_ + p_).toNat 0) := gi_aI hIx12_ (show 0 ≤ 0 ∧ 0 ≤ 1 from ⟨by omega, by omega⟩)
        have hFx16_ : ai_fr (sx_W vw_466) S0_ (sm_aI (sm_aI (sm_aI (sm_aI (sm_aI S_ 257 0 p_.toNat (-1)) 252 0 (4712 * a1_ + p_).toNat (-1)) 253 0 (4712 * a1_ + p_).toNat 0) 254 0 (4712 * a1_ + p_).toNat 0) 255 0 (4712 * a1_ + p_).toNat 0) := ai_fr_tr hFx13_ (ai_fr_aI rfl)
        have hKx17_ : rcf a1_.toNat S0_ (sm_aI (sm_aI (sm_aI (sm_aI (sm_aI S_ 257 0 p_.toNat (-1)) 252 0 (4712 * a1_ + p_).toNat (-1)) 253 0 (4712 * a1_ + p_).toNat 0) 254 0 (4712 * a1_ + p_).toNat 0) 255 0 (4712 * a1_ + p_).toNat 0) := rcf_aI hKx14_ (Or.inl rfl)
        refine sm_T_inc (a := 3) (z := 1) (v := p_) (w := p_ + 1) rfl rfl (by omega) (by omega) (by omega) ?_ -- pc_ 132
        refine sm_T_go 1 (c1 := (65, [some (.inr (.inr (some (13, 0)))), some (.inl a1_), some (.inl a2_), some (.inl (p_ + 1)), none, none], [], sm_aI (sm_aI (sm_aI (sm_aI (sm_aI S_ 257 0 p_.toNat (-1)) 252 0 (4712 * a1_ + p_).toNat (-1)) 253 0 (4712 * a1_ + p_).toNat 0) 254 0 (4712 * a1_ + p_).toNat 0) 255 0 (4712 * a1_ + p_).toNat 0)) rfl ?_
        refine ih_.1 (p_ + 1) (sm_aI (sm_aI (sm_aI (sm_aI (sm_aI S_ 257 0 p_.toNat (-1)) 252 0 (4712 * a1_ + p_).toNat (-1)) 253 0 (4712 * a1_ + p_).toNat 0) 254 0 (4712 * a1_ + p_).toNat 0) 255 0 (4712 * a1_ + p_).toNat 0) hIx15_ hFx16_ ⟨?_, ?_, ?_, ?_, ?_, ?_, ?_, trivial⟩ ?_
        · ((try simp only [rd_eq, rd_ne, rf_eq, rf_nk, rf_nt, rd_fa, rd_af, rd_fl, rd_al, rd_lf, rd_la, rd_leq, rd_lne, rd_fr, rd_ar, ne_eq, Nat.reduceEqDiff, not_false_eq_true]); omega)
        · exact grd_fr (w_ := ([], [257, 252, 253, 254, 255], [])) hgr_ (by first | exact ai_fr_aI rfl | exact ai_fr_tr (ai_fr_aI rfl) (ai_fr_aI rfl) | exact ai_fr_tr (ai_fr_tr (ai_fr_tr (ai_fr_tr (ai_fr_aI rfl) (ai_fr_aI rfl)) (ai_fr_aI rfl)) (ai_fr_aI rfl)) (ai_fr_aI rfl))
        · exact pnw_fr (w_ := ([], [257, 252, 253, 254, 255], [])) hpw_ (by first | exact ai_fr_aI rfl | exact ai_fr_tr (ai_fr_aI rfl) (ai_fr_aI rfl) | exact ai_fr_tr (ai_fr_tr (ai_fr_tr (ai_fr_tr (ai_fr_aI rfl) (ai_fr_aI rfl)) (ai_fr_aI rfl)) (ai_fr_aI rfl)) (ai_fr_aI rfl))
        · exact rws_fr (w_ := ([], [257, 252, 253, 254, 255], [])) hrw (by first | exact ai_fr_aI rfl | exact ai_fr_tr (ai_fr_aI rfl) (ai_fr_aI rfl) | exact ai_fr_tr (ai_fr_tr (ai_fr_tr (ai_fr_tr (ai_fr_aI rfl) (ai_fr_aI rfl)) (ai_fr_aI rfl)) (ai_fr_aI rfl)) (ai_fr_aI rfl))
        · exact ht_
        · omega
        · exact hKx17_
        · omega
    · rintro k_ S_ hI_ hF_ ⟨h0_, hgr_, hpw_, hrw, ht_, h1_, hK_, -⟩ hm_
      have gm9_ := grd_m hgr_
      have g5_ := hgr_.2.2.2.2
      have P9_ : 0 ≤ S_.1 13 0 159 ∧ S_.1 13 0 159 ≤ 700 := hI_.1 13 0 159 rfl
      have A9_ : 0 ≤ S_.1 13 0 176 ∧ S_.1 13 0 176 ≤ 4712 := hI_.1 13 0 176 rfl
      have bx1_ : 0 ≤ S_.1 13 0 159 ∧ S_.1 13 0 159 ≤ 700 := hI_.1 13 0 159 rfl
      refine sm_T_go 3 (c1 := (145, [some (.inr (.inr (some (13, 0)))), some (.inl a1_), some (.inl a2_), some (.inl k_), none, none], [.inl (S_.1 13 0 159), .inl k_], S_)) rfl ?_
      refine sm_T_br (a := 3) (z := 36) rfl (fun cx2_ => ?_) (fun cx2_ => ?_)
      · have cx2_ : (S_.1 13 0 159) ≤ k_ := of_decide_eq_true cx2_
        refine sm_T_go 2 (c1 := (183, [some (.inr (.inr (some (13, 0)))), some (.inl a1_), some (.inl a2_), some (.inl 0), none, none], [], S_)) rfl ?_
        refine ih_.2.2.1 0 S_ hI_ hF_ ⟨?_, ?_, ?_, ?_, ?_, ?_, ?_, trivial⟩ ?_
        · omega
        · exact hgr_
        · exact hpw_
        · exact hrw
        · exact ht_
        · omega
        · exact hK_
        · omega
      · have cx2_ : ¬ ((S_.1 13 0 159) ≤ k_) := of_decide_eq_false cx2_
        have pb9_ := pt_b (k_ := k_) hI_ hgr_ hpw_ (by omega) (by omega)
        refine sm_T_go 6 (c1 := (158, [some (.inr (.inr (some (13, 0)))), some (.inl a1_), some (.inl a2_), some (.inl k_), none, none], [.inl k_, .inr (.inr (some (244, 0))), .inr (.inr (some (13, 0))), .inr (.inr (some (257, 0)))], S_)) rfl ?_
        refine sm_T_iald (n := 700) rfl rfl (by omega) (by omega) ?_
        have bx3_ : 0 ≤ S_.2.2.1 244 0 k_.toNat ∧ S_.2.2.1 244 0 k_.toNat ≤ 200 := hI_.2 244 0 _
        refine sm_T_go 3 (c1 := (164, [some (.inr (.inr (some (13, 0)))), some (.inl a1_), some (.inl a2_), some (.inl k_), none, none], [.inl k_, .inr (.inr (some (245, 0))), .inl (S_.2.2.1 244 0 k_.toNat), .inr (.inr (some (13, 0))), .inr (.inr (some (257, 0)))], S_)) rfl ?_
        refine sm_T_iald (n := 700) rfl rfl (by omega) (by omega) ?_
        have bx4_ : 0 ≤ S_.2.2.1 245 0 k_.toNat ∧ S_.2.2.1 245 0 k_.toNat ≤ 40 := hI_.2 245 0 _
        refine sm_T_cal (d1 := 0) (Q1 := vq_452 (S_.2.2.1 244 0 k_.toNat) (S_.2.2.1 245 0 k_.toNat) S_) rfl rfl (by decide) (vc_452 (S_.2.2.1 244 0 k_.toNat) (S_.2.2.1 245 0 k_.toNat) S_ hI_ (by omega) (by omega)) (fun u_ Sx5_ px8_ => ?_)
        obtain ⟨rfl, vx10_, rfl, px8_⟩ := px8_
        have e165_ := px8_
        have t165_ : vx10_ = ptf S_ k_ := e165_
        refine sm_T_go 3 (c1 := (173, [some (.inr (.inr (some (13, 0)))), some (.inl a1_), some (.inl a2_), some (.inl k_), none, none], [.inl k_, .inr (.inr (some (243, 0))), .inl vx10_, .inr (.inr (some (257, 0)))], S_)) rfl ?_
        refine sm_T_iald (n := 700) rfl rfl (by omega) (by omega) ?_
        have bx11_ : 0 ≤ S_.2.2.1 243 0 k_.toNat ∧ S_.2.2.1 243 0 k_.toNat ≤ 161 := hI_.2 243 0 _
        refine sm_T_iast (n := 4712) rfl rfl (by omega) (by omega) ?_
        have hIx12_ : gi (sm_aI S_ 257 0 vx10_.toNat (S_.2.2.1 243 0 k_.toNat)) := gi_aI hI_ (show (-1) ≤ (S_.2.2.1 243 0 k_.toNat) ∧ (S_.2.2.1 243 0 k_.toNat) ≤ 161 from ⟨by omega, by omega⟩)
        have hFx13_ : ai_fr (sx_W vw_466) S0_ (sm_aI S_ 257 0 vx10_.toNat (S_.2.2.1 243 0 k_.toNat)) := ai_fr_tr hF_ (ai_fr_aI rfl)
        have hKx14_ : rcf a1_.toNat S0_ (sm_aI S_ 257 0 vx10_.toNat (S_.2.2.1 243 0 k_.toNat)) := rcf_aI hK_ (Or.inl rfl)
        refine sm_T_inc (a := 3) (z := 1) (v := k_) (w := k_ + 1) rfl rfl (by omega) (by omega) (by omega) ?_ -- pc_ 175
        refine sm_T_go 1 (c1 := (140, [some (.inr (.inr (some (13, 0)))), some (.inl a1_), some (.inl a2_), some (.inl (k_ + 1)), none, none], [], sm_aI S_ 257 0 vx10_.toNat (S_.2.2.1 243 0 k_.toNat))) rfl ?_
        refine ih_.2.1 (k_ + 1) (sm_aI S_ 257 0 vx10_.toNat (S_.2.2.1 243 0 k_.toNat)) hIx12_ hFx13_ ⟨?_, ?_, ?_, ?_, ?_, ?_, ?_, trivial⟩ ?_
        · ((try simp only [rd_eq, rd_ne, rf_eq, rf_nk, rf_nt, rd_fa, rd_af, rd_fl, rd_al, rd_lf, rd_la, rd_leq, rd_lne, rd_fr, rd_ar, ne_eq, Nat.reduceEqDiff, not_false_eq_true]); omega)
        · exact grd_fr (w_ := ([], [257], [])) hgr_ (by first | exact ai_fr_aI rfl | exact ai_fr_tr (ai_fr_aI rfl) (ai_fr_aI rfl) | exact ai_fr_tr (ai_fr_tr (ai_fr_tr (ai_fr_tr (ai_fr_aI rfl) (ai_fr_aI rfl)) (ai_fr_aI rfl)) (ai_fr_aI rfl)) (ai_fr_aI rfl))
        · exact pnw_fr (w_ := ([], [257], [])) hpw_ (by first | exact ai_fr_aI rfl | exact ai_fr_tr (ai_fr_aI rfl) (ai_fr_aI rfl) | exact ai_fr_tr (ai_fr_tr (ai_fr_tr (ai_fr_tr (ai_fr_aI rfl) (ai_fr_aI rfl)) (ai_fr_aI rfl)) (ai_fr_aI rfl)) (ai_fr_aI rfl))
        · exact rws_fr (w_ := ([], [257], [])) hrw (by first | exact ai_fr_aI rfl | exact ai_fr_tr (ai_fr_aI rfl) (ai_fr_aI rfl) | exact ai_fr_tr (ai_fr_tr (ai_fr_tr (ai_fr_tr (ai_fr_aI rfl) (ai_fr_aI rfl)) (ai_fr_aI rfl)) (ai_fr_aI rfl)) (ai_fr_aI rfl))
        · exact ht_
        · omega
        · exact hKx14_
        · omega
    · rintro n_ S_ hI_ hF_ ⟨h0_, hgr_, hpw_, hrw, ht_, h1_, hK_, -⟩ hm_
      have gm9_ := grd_m hgr_
      have g5_ := hgr_.2.2.2.2
      have P9_ : 0 ≤ S_.1 13 0 159 ∧ S_.1 13 0 159 ≤ 700 := hI_.1 13 0 159 rfl
      have A9_ : 0 ≤ S_.1 13 0 176 ∧ S_.1 13 0 176 ≤ 4712 := hI_.1 13 0 176 rfl
      refine sm_T_go 3 (c1 := (186, [some (.inr (.inr (some (13, 0)))), some (.inl a1_), some (.inl a2_), some (.inl n_), none, none], [.inl a1_, .inr (.inr (some (13, 0))), .inl n_], S_)) rfl ?_
      refine sm_T_cal (d1 := 0) (Q1 := vq_422 a1_ S_) rfl rfl (by decide) (vc_422 a1_ S_ hI_ (by omega)) (fun u_ Sx1_ px4_ => ?_)
      obtain ⟨rfl, vx6_, rfl, px4_⟩ := px4_
      refine sm_T_br (a := 3) (z := 36) rfl (fun cx7_ => ?_) (fun cx7_ => ?_)
      · have cx7_ : vx6_ ≤ n_ := of_decide_eq_true cx7_
        refine sm_T_go 2 (c1 := (227, [some (.inr (.inr (some (13, 0)))), some (.inl a1_), some (.inl a2_), some (.inl n_), none, none], [.inl (-1), .inr (.inr (some (13, 0)))], S_)) rfl ?_
        refine sm_T_cal (d1 := 5) (Q1 := vq_465 (-1) S_) rfl rfl (by decide) (vc_465 (-1) S_ hI_ (by exact hgr_) (by exact hpw_) (by exact hrw)) (fun u_ Sx8_ px11_ => ?_)
        obtain ⟨rfl, hIx9_, hFx10_, px11_⟩ := px11_
        have hFx12_ : ai_fr (sx_W vw_466) S0_ Sx8_ := ai_fr_tr hF_ (fr_le hFx10_ rfl)
        have hKx13_ : rcf a1_.toNat S0_ Sx8_ := rcf_tr hK_ (rcf_fr hFx10_ rfl)
        have g227_ := grd_fr hgr_ hFx10_
        have w227_ := pnw_fr hpw_ hFx10_
        have r227_ := rws_fr hrw hFx10_
        have c227_ := hFx10_.1 13 0 177 rfl
        refine sm_T_go 4 (c1 := (235, [some (.inr (.inr (some (13, 0)))), some (.inl a1_), some (.inl a2_), some (.inl 1), some (.inl 0), none], [], Sx8_)) rfl ?_
        refine ih_.2.2.2.1 1 0 Sx8_ hIx9_ hFx12_ ⟨?_, ?_, ?_, ?_, ?_, ?_, ?_, trivial⟩ ?_
        · omega
        · exact g227_
        · exact w227_
        · exact r227_
        · exact ht_
        · omega
        · exact hKx13_
        · omega
      · have cx7_ : ¬ (vx6_ ≤ n_) := of_decide_eq_false cx7_
        refine sm_T_go 4 (c1 := (200, [some (.inr (.inr (some (13, 0)))), some (.inl a1_), some (.inl a2_), some (.inl n_), none, none], [.inl a1_, .inl 256, .inr (.inr (some (256, 0)))], S_)) rfl ?_
        refine sm_T_bin (w := 256 * a1_) rfl (bi_mul (by omega) (by omega) (by omega)) ?_ -- pc_ 200
        refine sm_T_go 1 (c1 := (202, [some (.inr (.inr (some (13, 0)))), some (.inl a1_), some (.inl a2_), some (.inl n_), none, none], [.inl n_, .inl (256 * a1_), .inr (.inr (some (256, 0)))], S_)) rfl ?_
        refine sm_T_bin (w := 256 * a1_ + n_) rfl (bi_add (by omega) (by omega) (by omega)) ?_ -- pc_ 202
        refine sm_T_go 3 (c1 := (208, [some (.inr (.inr (some (13, 0)))), some (.inl a1_), some (.inl a2_), some (.inl n_), none, none], [.inl n_, .inr (.inr (some (246, 0))), .inl (256 * a1_ + n_), .inr (.inr (some (256, 0)))], S_)) rfl ?_
        refine sm_T_iald (n := 256) rfl rfl (by omega) (by omega) ?_
        have bx14_ : 0 ≤ S_.2.2.1 246 0 n_.toNat ∧ S_.2.2.1 246 0 n_.toNat ≤ 700 := hI_.2 246 0 _
        refine sm_T_go 1 (c1 := (210, [some (.inr (.inr (some (13, 0)))), some (.inl a1_), some (.inl a2_), some (.inl n_), none, none], [.inl 2, .inl (S_.2.2.1 246 0 n_.toNat), .inl (256 * a1_ + n_), .inr (.inr (some (256, 0)))], S_)) rfl ?_
        refine sm_T_br (a := 2) (z := 7) rfl (fun cx15_ => ?_) (fun cx15_ => ?_)
        · have cx15_ : (S_.2.2.1 246 0 n_.toNat) < 2 := of_decide_eq_true cx15_
          refine sm_T_go 1 (c1 := (218, [some (.inr (.inr (some (13, 0)))), some (.inl a1_), some (.inl a2_), some (.inl n_), none, none], [.inl 0, .inl (256 * a1_ + n_), .inr (.inr (some (256, 0)))], S_)) rfl ?_
          refine sm_T_zas1 (n := 1024) rfl rfl (by omega) (by omega) (by omega) ?_
          have hIx16_ : gi (sm_aI S_ 256 0 (256 * a1_ + n_).toNat 0) := gi_aI hI_ (show 0 ≤ 0 ∧ 0 ≤ 1 from ⟨by omega, by omega⟩)
          have hFx17_ : ai_fr (sx_W vw_466) S0_ (sm_aI S_ 256 0 (256 * a1_ + n_).toNat 0) := ai_fr_tr hF_ (ai_fr_aI rfl)
          have hKx18_ : rcf a1_.toNat S0_ (sm_aI S_ 256 0 (256 * a1_ + n_).toNat 0) := rcf_aI hK_ (Or.inl rfl)
          refine sm_T_inc (a := 3) (z := 1) (v := n_) (w := n_ + 1) rfl rfl (by omega) (by omega) (by omega) ?_ -- pc_ 219
          refine sm_T_go 1 (c1 := (183, [some (.inr (.inr (some (13, 0)))), some (.inl a1_), some (.inl a2_), some (.inl (n_ + 1)), none, none], [], sm_aI S_ 256 0 (256 * a1_ + n_).toNat 0)) rfl ?_
          refine ih_.2.2.1 (n_ + 1) (sm_aI S_ 256 0 (256 * a1_ + n_).toNat 0) hIx16_ hFx17_ ⟨?_, ?_, ?_, ?_, ?_, ?_, ?_, trivial⟩ ?_
          · ((try simp only [rd_eq, rd_ne, rf_eq, rf_nk, rf_nt, rd_fa, rd_af, rd_fl, rd_al, rd_lf, rd_la, rd_leq, rd_lne, rd_fr, rd_ar, ne_eq, Nat.reduceEqDiff, not_false_eq_true]); omega)
          · exact grd_fr (w_ := ([], [256], [])) hgr_ (by first | exact ai_fr_aI rfl | exact ai_fr_tr (ai_fr_aI rfl) (ai_fr_aI rfl) | exact ai_fr_tr (ai_fr_tr (ai_fr_tr (ai_fr_tr (ai_fr_aI rfl) (ai_fr_aI rfl)) (ai_fr_aI rfl)) (ai_fr_aI rfl)) (ai_fr_aI rfl))
          · exact pnw_fr (w_ := ([], [256], [])) hpw_ (by first | exact ai_fr_aI rfl | exact ai_fr_tr (ai_fr_aI rfl) (ai_fr_aI rfl) | exact ai_fr_tr (ai_fr_tr (ai_fr_tr (ai_fr_tr (ai_fr_aI rfl) (ai_fr_aI rfl)) (ai_fr_aI rfl)) (ai_fr_aI rfl)) (ai_fr_aI rfl))
          · exact rws_fr (w_ := ([], [256], [])) hrw (by first | exact ai_fr_aI rfl | exact ai_fr_tr (ai_fr_aI rfl) (ai_fr_aI rfl) | exact ai_fr_tr (ai_fr_tr (ai_fr_tr (ai_fr_tr (ai_fr_aI rfl) (ai_fr_aI rfl)) (ai_fr_aI rfl)) (ai_fr_aI rfl)) (ai_fr_aI rfl))
          · exact ht_
          · omega
          · exact hKx18_
          · omega
        · have cx15_ : ¬ ((S_.2.2.1 246 0 n_.toNat) < 2) := of_decide_eq_false cx15_
          refine sm_T_go 2 (c1 := (218, [some (.inr (.inr (some (13, 0)))), some (.inl a1_), some (.inl a2_), some (.inl n_), none, none], [.inl 1, .inl (256 * a1_ + n_), .inr (.inr (some (256, 0)))], S_)) rfl ?_
          refine sm_T_zas1 (n := 1024) rfl rfl (by omega) (by omega) (by omega) ?_
          have hIx19_ : gi (sm_aI S_ 256 0 (256 * a1_ + n_).toNat 1) := gi_aI hI_ (show 0 ≤ 1 ∧ 1 ≤ 1 from ⟨by omega, by omega⟩)
          have hFx20_ : ai_fr (sx_W vw_466) S0_ (sm_aI S_ 256 0 (256 * a1_ + n_).toNat 1) := ai_fr_tr hF_ (ai_fr_aI rfl)
          have hKx21_ : rcf a1_.toNat S0_ (sm_aI S_ 256 0 (256 * a1_ + n_).toNat 1) := rcf_aI hK_ (Or.inl rfl)
          refine sm_T_inc (a := 3) (z := 1) (v := n_) (w := n_ + 1) rfl rfl (by omega) (by omega) (by omega) ?_ -- pc_ 219
          refine sm_T_go 1 (c1 := (183, [some (.inr (.inr (some (13, 0)))), some (.inl a1_), some (.inl a2_), some (.inl (n_ + 1)), none, none], [], sm_aI S_ 256 0 (256 * a1_ + n_).toNat 1)) rfl ?_
          refine ih_.2.2.1 (n_ + 1) (sm_aI S_ 256 0 (256 * a1_ + n_).toNat 1) hIx19_ hFx20_ ⟨?_, ?_, ?_, ?_, ?_, ?_, ?_, trivial⟩ ?_
          · ((try simp only [rd_eq, rd_ne, rf_eq, rf_nk, rf_nt, rd_fa, rd_af, rd_fl, rd_al, rd_lf, rd_la, rd_leq, rd_lne, rd_fr, rd_ar, ne_eq, Nat.reduceEqDiff, not_false_eq_true]); omega)
          · exact grd_fr (w_ := ([], [256], [])) hgr_ (by first | exact ai_fr_aI rfl | exact ai_fr_tr (ai_fr_aI rfl) (ai_fr_aI rfl) | exact ai_fr_tr (ai_fr_tr (ai_fr_tr (ai_fr_tr (ai_fr_aI rfl) (ai_fr_aI rfl)) (ai_fr_aI rfl)) (ai_fr_aI rfl)) (ai_fr_aI rfl))
          · exact pnw_fr (w_ := ([], [256], [])) hpw_ (by first | exact ai_fr_aI rfl | exact ai_fr_tr (ai_fr_aI rfl) (ai_fr_aI rfl) | exact ai_fr_tr (ai_fr_tr (ai_fr_tr (ai_fr_tr (ai_fr_aI rfl) (ai_fr_aI rfl)) (ai_fr_aI rfl)) (ai_fr_aI rfl)) (ai_fr_aI rfl))
          · exact rws_fr (w_ := ([], [256], [])) hrw (by first | exact ai_fr_aI rfl | exact ai_fr_tr (ai_fr_aI rfl) (ai_fr_aI rfl) | exact ai_fr_tr (ai_fr_tr (ai_fr_tr (ai_fr_tr (ai_fr_aI rfl) (ai_fr_aI rfl)) (ai_fr_aI rfl)) (ai_fr_aI rfl)) (ai_fr_aI rfl))
          · exact ht_
          · omega
          · exact hKx21_
          · omega
    · rintro go_ r_ S_ hI_ hF_ ⟨h0_, hgr_, hpw_, hrw, ht_, h1_, hK_, -⟩ hm_
      have gm9_ := grd_m hgr_
      have g5_ := hgr_.2.2.2.2
      have P9_ : 0 ≤ S_.1 13 0 159 ∧ S_.1 13 0 159 ≤ 700 := hI_.1 13 0 159 rfl
      have A9_ : 0 ≤ S_.1 13 0 176 ∧ S_.1 13 0 176 ≤ 4712 := hI_.1 13 0 176 rfl
      refine sm_T_go 2 (c1 := (238, [some (.inr (.inr (some (13, 0)))), some (.inl a1_), some (.inl a2_), some (.inl go_), some (.inl r_), none], [.inl a2_, .inl r_], S_)) rfl ?_
      refine sm_T_br (a := 3) (z := 45) rfl (fun cx1_ => ?_) (fun cx1_ => ?_)
      · have cx1_ : a2_ ≤ r_ := of_decide_eq_true cx1_
        refine sm_T_go 4 (c1 := (289, [some (.inr (.inr (some (13, 0)))), some (.inl a1_), some (.inl a2_), some (.inl go_), some (.inl r_), none], [.inl 1, .inl a1_, .inr (.inr (some (251, 0)))], S_)) rfl ?_
        refine sm_T_zas1 (n := 4) rfl rfl (by omega) (by omega) (by omega) ?_
        have hIx2_ : gi (sm_aI S_ 251 0 a1_.toNat 1) := gi_aI hI_ (show 0 ≤ 1 ∧ 1 ≤ 1 from ⟨by omega, by omega⟩)
        have hFx3_ : ai_fr (sx_W vw_466) S0_ (sm_aI S_ 251 0 a1_.toNat 1) := ai_fr_tr hF_ (ai_fr_aI rfl)
        have hKx4_ : rcf a1_.toNat S0_ (sm_aI S_ 251 0 a1_.toNat 1) := rcf_aI hK_ (Or.inr (by rw [show rcs 251 = 1 from rfl]; omega))
        refine sm_T_go 4 (c1 := (296, [some (.inr (.inr (some (13, 0)))), some (.inl a1_), some (.inl a2_), some (.inl go_), some (.inl r_), none], [.inl 0, .inl a1_, .inr (.inr (some (263, 0)))], sm_aI S_ 251 0 a1_.toNat 1)) rfl ?_
        refine sm_T_zas1 (n := 4) rfl rfl (by omega) (by omega) (by omega) ?_
        have hIx5_ : gi (sm_aI (sm_aI S_ 251 0 a1_.toNat 1) 263 0 a1_.toNat 0) := gi_aI hIx2_ (show 0 ≤ 0 ∧ 0 ≤ 1 from ⟨by omega, by omega⟩)
        have hFx6_ : ai_fr (sx_W vw_466) S0_ (sm_aI (sm_aI S_ 251 0 a1_.toNat 1) 263 0 a1_.toNat 0) := ai_fr_tr hFx3_ (ai_fr_aI rfl)
        have hKx7_ : rcf a1_.toNat S0_ (sm_aI (sm_aI S_ 251 0 a1_.toNat 1) 263 0 a1_.toNat 0) := rcf_aI hKx4_ (Or.inl rfl)
        refine sm_T_go 4 (c1 := (303, [some (.inr (.inr (some (13, 0)))), some (.inl a1_), some (.inl a2_), some (.inl go_), some (.inl 0), some (.inl 0)], [], sm_aI (sm_aI S_ 251 0 a1_.toNat 1) 263 0 a1_.toNat 0)) rfl ?_
        refine sm_T_wk [some (.inr (.inr (some (13, 0)))), some (.inl a1_), some (.inl a2_), none, some (.inl 0), some (.inl 0)] (by exact ⟨rfl, rfl, rfl, rfl, rfl, trivial⟩) ?_
        refine ih_.2.2.2.2 0 0 (sm_aI (sm_aI S_ 251 0 a1_.toNat 1) 263 0 a1_.toNat 0) hIx5_ hFx6_ ⟨?_, ?_, ?_, ?_, ?_, ?_, ?_, trivial⟩ ?_
        · ((try simp only [rd_eq, rd_ne, rf_eq, rf_nk, rf_nt, rd_fa, rd_af, rd_fl, rd_al, rd_lf, rd_la, rd_leq, rd_lne, rd_fr, rd_ar, ne_eq, Nat.reduceEqDiff, not_false_eq_true]); omega)
        · exact grd_fr (w_ := ([], [251, 263], [])) hgr_ (by first | exact ai_fr_aI rfl | exact ai_fr_tr (ai_fr_aI rfl) (ai_fr_aI rfl) | exact ai_fr_tr (ai_fr_tr (ai_fr_tr (ai_fr_tr (ai_fr_aI rfl) (ai_fr_aI rfl)) (ai_fr_aI rfl)) (ai_fr_aI rfl)) (ai_fr_aI rfl))
        · exact pnw_fr (w_ := ([], [251, 263], [])) hpw_ (by first | exact ai_fr_aI rfl | exact ai_fr_tr (ai_fr_aI rfl) (ai_fr_aI rfl) | exact ai_fr_tr (ai_fr_tr (ai_fr_tr (ai_fr_tr (ai_fr_aI rfl) (ai_fr_aI rfl)) (ai_fr_aI rfl)) (ai_fr_aI rfl)) (ai_fr_aI rfl))
        · exact rws_fr (w_ := ([], [251, 263], [])) hrw (by first | exact ai_fr_aI rfl | exact ai_fr_tr (ai_fr_aI rfl) (ai_fr_aI rfl) | exact ai_fr_tr (ai_fr_tr (ai_fr_tr (ai_fr_tr (ai_fr_aI rfl) (ai_fr_aI rfl)) (ai_fr_aI rfl)) (ai_fr_aI rfl)) (ai_fr_aI rfl))
        · exact ht_
        · omega
        · exact hKx7_
        · omega
      · have cx1_ : ¬ (a2_ ≤ r_) := of_decide_eq_false cx1_
        refine sm_T_go 1 (c1 := (242, [some (.inr (.inr (some (13, 0)))), some (.inl a1_), some (.inl a2_), some (.inl go_), some (.inl r_), none], [.inl go_], S_)) rfl ?_
        refine sm_T_b0 (a := 0) (z := 41) rfl (fun cx8_ => ?_) (fun cx8_ => ?_)
        · have cx8_ : go_ = 0 := of_decide_eq_true cx8_
          refine sm_T_go 4 (c1 := (289, [some (.inr (.inr (some (13, 0)))), some (.inl a1_), some (.inl a2_), some (.inl go_), some (.inl r_), none], [.inl 1, .inl a1_, .inr (.inr (some (251, 0)))], S_)) rfl ?_
          refine sm_T_zas1 (n := 4) rfl rfl (by omega) (by omega) (by omega) ?_
          have hIx9_ : gi (sm_aI S_ 251 0 a1_.toNat 1) := gi_aI hI_ (show 0 ≤ 1 ∧ 1 ≤ 1 from ⟨by omega, by omega⟩)
          have hFx10_ : ai_fr (sx_W vw_466) S0_ (sm_aI S_ 251 0 a1_.toNat 1) := ai_fr_tr hF_ (ai_fr_aI rfl)
          have hKx11_ : rcf a1_.toNat S0_ (sm_aI S_ 251 0 a1_.toNat 1) := rcf_aI hK_ (Or.inr (by rw [show rcs 251 = 1 from rfl]; omega))
          refine sm_T_go 4 (c1 := (296, [some (.inr (.inr (some (13, 0)))), some (.inl a1_), some (.inl a2_), some (.inl go_), some (.inl r_), none], [.inl 0, .inl a1_, .inr (.inr (some (263, 0)))], sm_aI S_ 251 0 a1_.toNat 1)) rfl ?_
          refine sm_T_zas1 (n := 4) rfl rfl (by omega) (by omega) (by omega) ?_
          have hIx12_ : gi (sm_aI (sm_aI S_ 251 0 a1_.toNat 1) 263 0 a1_.toNat 0) := gi_aI hIx9_ (show 0 ≤ 0 ∧ 0 ≤ 1 from ⟨by omega, by omega⟩)
          have hFx13_ : ai_fr (sx_W vw_466) S0_ (sm_aI (sm_aI S_ 251 0 a1_.toNat 1) 263 0 a1_.toNat 0) := ai_fr_tr hFx10_ (ai_fr_aI rfl)
          have hKx14_ : rcf a1_.toNat S0_ (sm_aI (sm_aI S_ 251 0 a1_.toNat 1) 263 0 a1_.toNat 0) := rcf_aI hKx11_ (Or.inl rfl)
          refine sm_T_go 4 (c1 := (303, [some (.inr (.inr (some (13, 0)))), some (.inl a1_), some (.inl a2_), some (.inl go_), some (.inl 0), some (.inl 0)], [], sm_aI (sm_aI S_ 251 0 a1_.toNat 1) 263 0 a1_.toNat 0)) rfl ?_
          refine sm_T_wk [some (.inr (.inr (some (13, 0)))), some (.inl a1_), some (.inl a2_), none, some (.inl 0), some (.inl 0)] (by exact ⟨rfl, rfl, rfl, rfl, rfl, trivial⟩) ?_
          refine ih_.2.2.2.2 0 0 (sm_aI (sm_aI S_ 251 0 a1_.toNat 1) 263 0 a1_.toNat 0) hIx12_ hFx13_ ⟨?_, ?_, ?_, ?_, ?_, ?_, ?_, trivial⟩ ?_
          · ((try simp only [rd_eq, rd_ne, rf_eq, rf_nk, rf_nt, rd_fa, rd_af, rd_fl, rd_al, rd_lf, rd_la, rd_leq, rd_lne, rd_fr, rd_ar, ne_eq, Nat.reduceEqDiff, not_false_eq_true]); omega)
          · exact grd_fr (w_ := ([], [251, 263], [])) hgr_ (by first | exact ai_fr_aI rfl | exact ai_fr_tr (ai_fr_aI rfl) (ai_fr_aI rfl) | exact ai_fr_tr (ai_fr_tr (ai_fr_tr (ai_fr_tr (ai_fr_aI rfl) (ai_fr_aI rfl)) (ai_fr_aI rfl)) (ai_fr_aI rfl)) (ai_fr_aI rfl))
          · exact pnw_fr (w_ := ([], [251, 263], [])) hpw_ (by first | exact ai_fr_aI rfl | exact ai_fr_tr (ai_fr_aI rfl) (ai_fr_aI rfl) | exact ai_fr_tr (ai_fr_tr (ai_fr_tr (ai_fr_tr (ai_fr_aI rfl) (ai_fr_aI rfl)) (ai_fr_aI rfl)) (ai_fr_aI rfl)) (ai_fr_aI rfl))
          · exact rws_fr (w_ := ([], [251, 263], [])) hrw (by first | exact ai_fr_aI rfl | exact ai_fr_tr (ai_fr_aI rfl) (ai_fr_aI rfl) | exact ai_fr_tr (ai_fr_tr (ai_fr_tr (ai_fr_tr (ai_fr_aI rfl) (ai_fr_aI rfl)) (ai_fr_aI rfl)) (ai_fr_aI rfl)) (ai_fr_aI rfl))
          · exact ht_
          · omega
          · exact hKx14_
          · omega
        · have cx8_ : ¬ (go_ = 0) := of_decide_eq_false cx8_
          refine sm_T_go 1 (c1 := (246, [some (.inr (.inr (some (13, 0)))), some (.inl a1_), some (.inl a2_), some (.inl go_), some (.inl r_), none], [.inr (.inr (some (13, 0)))], S_)) rfl ?_
          refine sm_T_cal (d1 := 0) (Q1 := vq_464  S_) rfl rfl (by decide) (vc_464  S_ hI_ (by exact hrw)) (fun u_ Sx15_ px18_ => ?_)
          obtain ⟨rfl, vx20_, rfl, px18_⟩ := px18_
          have f246_ := px18_
          refine sm_T_go 1 (c1 := (250, [some (.inr (.inr (some (13, 0)))), some (.inl a1_), some (.inl a2_), some (.inl go_), some (.inl r_), none], [.inl (-1), .inl vx20_], S_)) rfl ?_
          refine sm_T_br (a := 0) (z := 33) rfl (fun cx21_ => ?_) (fun cx21_ => ?_)
          · have cx21_ : vx20_ = (-1) := of_decide_eq_true cx21_
            refine sm_T_go 4 (c1 := (289, [some (.inr (.inr (some (13, 0)))), some (.inl a1_), some (.inl a2_), some (.inl go_), some (.inl r_), none], [.inl 1, .inl a1_, .inr (.inr (some (251, 0)))], S_)) rfl ?_
            refine sm_T_zas1 (n := 4) rfl rfl (by omega) (by omega) (by omega) ?_
            have hIx22_ : gi (sm_aI S_ 251 0 a1_.toNat 1) := gi_aI hI_ (show 0 ≤ 1 ∧ 1 ≤ 1 from ⟨by omega, by omega⟩)
            have hFx23_ : ai_fr (sx_W vw_466) S0_ (sm_aI S_ 251 0 a1_.toNat 1) := ai_fr_tr hF_ (ai_fr_aI rfl)
            have hKx24_ : rcf a1_.toNat S0_ (sm_aI S_ 251 0 a1_.toNat 1) := rcf_aI hK_ (Or.inr (by rw [show rcs 251 = 1 from rfl]; omega))
            refine sm_T_go 4 (c1 := (296, [some (.inr (.inr (some (13, 0)))), some (.inl a1_), some (.inl a2_), some (.inl go_), some (.inl r_), none], [.inl 0, .inl a1_, .inr (.inr (some (263, 0)))], sm_aI S_ 251 0 a1_.toNat 1)) rfl ?_
            refine sm_T_zas1 (n := 4) rfl rfl (by omega) (by omega) (by omega) ?_
            have hIx25_ : gi (sm_aI (sm_aI S_ 251 0 a1_.toNat 1) 263 0 a1_.toNat 0) := gi_aI hIx22_ (show 0 ≤ 0 ∧ 0 ≤ 1 from ⟨by omega, by omega⟩)
            have hFx26_ : ai_fr (sx_W vw_466) S0_ (sm_aI (sm_aI S_ 251 0 a1_.toNat 1) 263 0 a1_.toNat 0) := ai_fr_tr hFx23_ (ai_fr_aI rfl)
            have hKx27_ : rcf a1_.toNat S0_ (sm_aI (sm_aI S_ 251 0 a1_.toNat 1) 263 0 a1_.toNat 0) := rcf_aI hKx24_ (Or.inl rfl)
            refine sm_T_go 4 (c1 := (303, [some (.inr (.inr (some (13, 0)))), some (.inl a1_), some (.inl a2_), some (.inl go_), some (.inl 0), some (.inl 0)], [], sm_aI (sm_aI S_ 251 0 a1_.toNat 1) 263 0 a1_.toNat 0)) rfl ?_
            refine sm_T_wk [some (.inr (.inr (some (13, 0)))), some (.inl a1_), some (.inl a2_), none, some (.inl 0), some (.inl 0)] (by exact ⟨rfl, rfl, rfl, rfl, rfl, trivial⟩) ?_
            refine ih_.2.2.2.2 0 0 (sm_aI (sm_aI S_ 251 0 a1_.toNat 1) 263 0 a1_.toNat 0) hIx25_ hFx26_ ⟨?_, ?_, ?_, ?_, ?_, ?_, ?_, trivial⟩ ?_
            · ((try simp only [rd_eq, rd_ne, rf_eq, rf_nk, rf_nt, rd_fa, rd_af, rd_fl, rd_al, rd_lf, rd_la, rd_leq, rd_lne, rd_fr, rd_ar, ne_eq, Nat.reduceEqDiff, not_false_eq_true]); omega)
            · exact grd_fr (w_ := ([], [251, 263], [])) hgr_ (by first | exact ai_fr_aI rfl | exact ai_fr_tr (ai_fr_aI rfl) (ai_fr_aI rfl) | exact ai_fr_tr (ai_fr_tr (ai_fr_tr (ai_fr_tr (ai_fr_aI rfl) (ai_fr_aI rfl)) (ai_fr_aI rfl)) (ai_fr_aI rfl)) (ai_fr_aI rfl))
            · exact pnw_fr (w_ := ([], [251, 263], [])) hpw_ (by first | exact ai_fr_aI rfl | exact ai_fr_tr (ai_fr_aI rfl) (ai_fr_aI rfl) | exact ai_fr_tr (ai_fr_tr (ai_fr_tr (ai_fr_tr (ai_fr_aI rfl) (ai_fr_aI rfl)) (ai_fr_aI rfl)) (ai_fr_aI rfl)) (ai_fr_aI rfl))
            · exact rws_fr (w_ := ([], [251, 263], [])) hrw (by first | exact ai_fr_aI rfl | exact ai_fr_tr (ai_fr_aI rfl) (ai_fr_aI rfl) | exact ai_fr_tr (ai_fr_tr (ai_fr_tr (ai_fr_tr (ai_fr_aI rfl) (ai_fr_aI rfl)) (ai_fr_aI rfl)) (ai_fr_aI rfl)) (ai_fr_aI rfl))
            · exact ht_
            · omega
            · exact hKx27_
            · omega
          · have cx21_ : ¬ (vx20_ = (-1)) := of_decide_eq_false cx21_
            refine sm_T_go 1 (c1 := (254, [some (.inr (.inr (some (13, 0)))), some (.inl a1_), some (.inl a2_), some (.inl go_), some (.inl r_), none], [.inr (.inr (some (13, 0)))], S_)) rfl ?_
            refine sm_T_cal (d1 := 0) (Q1 := vq_464  S_) rfl rfl (by decide) (vc_464  S_ hI_ (by exact hrw)) (fun u_ Sx28_ px31_ => ?_)
            obtain ⟨rfl, vx33_, rfl, px31_⟩ := px31_
            have f254_ := px31_
            have f255_ : 0 ≤ vx33_ ∧ vx33_ ≤ 161 ∧ hpn S_ vx33_ := by (rcases f254_ with y9_ | y9_; (rcases f246_ with x9_ | x9_; (exfalso; omega); exact absurd y9_.2 x9_.2.2.2); exact ⟨y9_.1, y9_.2.1, y9_.2.2.1⟩)
            refine sm_T_go 4 (c1 := (263, [some (.inr (.inr (some (13, 0)))), some (.inl a1_), some (.inl a2_), some (.inl go_), some (.inl r_), some (.inl vx33_)], [.inl 1, .inl vx33_, .inr (.inr (some (13, 0)))], S_)) rfl ?_
            refine sm_T_cal (d1 := 4) (Q1 := vq_461 vx33_ 1 S_) rfl rfl (by decide) (vc_461 vx33_ 1 S_ hI_ (by exact hgr_) (by omega) (by decide) (by exact hpw_) (by exact f255_.2.2)) (fun u_ Sx34_ px37_ => ?_)
            obtain ⟨vx39_, rfl, hIx35_, hFx36_, px37_⟩ := px37_
            have hFx38_ : ai_fr (sx_W vw_466) S0_ Sx34_ := ai_fr_tr hF_ (fr_le hFx36_ rfl)
            have hKx40_ : rcf a1_.toNat S0_ Sx34_ := rcf_tr hK_ (rcf_fr hFx36_ rfl)
            have g263_ := grd_fr hgr_ hFx36_
            have w263_ := pnw_fr hpw_ hFx36_
            have r263_ := rws_fr hrw hFx36_
            have c263_ := hFx36_.1 13 0 177 rfl
            refine sm_T_go 2 (c1 := (268, [some (.inr (.inr (some (13, 0)))), some (.inl a1_), some (.inl a2_), some (.inl vx39_), some (.inl r_), some (.inl vx33_)], [.inl vx39_], Sx34_)) rfl ?_
            refine sm_T_b0 (a := 0) (z := 9) rfl (fun cx41_ => ?_) (fun cx41_ => ?_)
            · have cx41_ : vx39_ = 0 := of_decide_eq_true cx41_
              refine sm_T_inc (a := 4) (z := 1) (v := r_) (w := r_ + 1) rfl rfl (by omega) (by omega) (by omega) ?_ -- pc_ 277
              refine sm_T_go 1 (c1 := (235, [some (.inr (.inr (some (13, 0)))), some (.inl a1_), some (.inl a2_), some (.inl vx39_), some (.inl (r_ + 1)), some (.inl vx33_)], [], Sx34_)) rfl ?_
              refine sm_T_wk [some (.inr (.inr (some (13, 0)))), some (.inl a1_), some (.inl a2_), some (.inl vx39_), some (.inl (r_ + 1)), none] (by exact ⟨rfl, rfl, rfl, rfl, rfl, trivial⟩) ?_
              refine ih_.2.2.2.1 vx39_ (r_ + 1) Sx34_ hIx35_ hFx38_ ⟨?_, ?_, ?_, ?_, ?_, ?_, ?_, trivial⟩ ?_
              · omega
              · first | exact g274_ | exact g263_
              · first | exact w274_ | exact w263_
              · first | exact r274_ | exact r263_
              · exact ht_
              · omega
              · exact hKx40_
              · omega
            · have cx41_ : ¬ (vx39_ = 0) := of_decide_eq_false cx41_
              refine sm_T_go 2 (c1 := (274, [some (.inr (.inr (some (13, 0)))), some (.inl a1_), some (.inl a2_), some (.inl vx39_), some (.inl r_), some (.inl vx33_)], [.inl vx33_, .inr (.inr (some (13, 0)))], Sx34_)) rfl ?_
              refine sm_T_cal (d1 := 5) (Q1 := vq_465 vx33_ Sx34_) rfl rfl (by decide) (vc_465 vx33_ Sx34_ hIx35_ (by exact g263_) (by exact w263_) (by exact r263_)) (fun u_ Sx42_ px45_ => ?_)
              obtain ⟨rfl, hIx43_, hFx44_, px45_⟩ := px45_
              have hFx46_ : ai_fr (sx_W vw_466) S0_ Sx42_ := ai_fr_tr hFx38_ (fr_le hFx44_ rfl)
              have hKx47_ : rcf a1_.toNat S0_ Sx42_ := rcf_tr hKx40_ (rcf_fr hFx44_ rfl)
              have g274_ := grd_fr g263_ hFx44_
              have w274_ := pnw_fr w263_ hFx44_
              have r274_ := rws_fr r263_ hFx44_
              have c274_ := hFx44_.1 13 0 177 rfl
              refine sm_T_inc (a := 4) (z := 1) (v := r_) (w := r_ + 1) rfl rfl (by omega) (by omega) (by omega) ?_ -- pc_ 277
              refine sm_T_go 1 (c1 := (235, [some (.inr (.inr (some (13, 0)))), some (.inl a1_), some (.inl a2_), some (.inl vx39_), some (.inl (r_ + 1)), some (.inl vx33_)], [], Sx42_)) rfl ?_
              refine sm_T_wk [some (.inr (.inr (some (13, 0)))), some (.inl a1_), some (.inl a2_), some (.inl vx39_), some (.inl (r_ + 1)), none] (by exact ⟨rfl, rfl, rfl, rfl, rfl, trivial⟩) ?_
              refine ih_.2.2.2.1 vx39_ (r_ + 1) Sx42_ hIx43_ hFx46_ ⟨?_, ?_, ?_, ?_, ?_, ?_, ?_, trivial⟩ ?_
              · omega
              · first | exact g274_ | exact g263_
              · first | exact w274_ | exact w263_
              · first | exact r274_ | exact r263_
              · exact ht_
              · omega
              · exact hKx47_
              · omega
    · rintro op_ n_ S_ hI_ hF_ ⟨h0_, hgr_, hpw_, hrw, ht_, h1_, hK_, -⟩ hm_
      have gm9_ := grd_m hgr_
      have g5_ := hgr_.2.2.2.2
      have P9_ : 0 ≤ S_.1 13 0 159 ∧ S_.1 13 0 159 ≤ 700 := hI_.1 13 0 159 rfl
      have A9_ : 0 ≤ S_.1 13 0 176 ∧ S_.1 13 0 176 ≤ 4712 := hI_.1 13 0 176 rfl
      refine sm_T_go 3 (c1 := (307, [some (.inr (.inr (some (13, 0)))), some (.inl a1_), some (.inl a2_), none, some (.inl op_), some (.inl n_)], [.inl a1_, .inr (.inr (some (13, 0))), .inl n_], S_)) rfl ?_
      refine sm_T_cal (d1 := 0) (Q1 := vq_422 a1_ S_) rfl rfl (by decide) (vc_422 a1_ S_ hI_ (by omega)) (fun u_ Sx1_ px4_ => ?_)
      obtain ⟨rfl, vx6_, rfl, px4_⟩ := px4_
      refine sm_T_br (a := 3) (z := 35) rfl (fun cx7_ => ?_) (fun cx7_ => ?_)
      · have cx7_ : vx6_ ≤ n_ := of_decide_eq_true cx7_
        refine sm_T_go 1 (c1 := (347, [some (.inr (.inr (some (13, 0)))), some (.inl a1_), some (.inl a2_), none, some (.inl op_), some (.inl n_)], [.inl op_], S_)) rfl ?_
        refine sm_T_ri rfl ⟨_, _, rfl, _, rfl, hI_, hF_, ?_⟩
        refine ⟨hK_, ?_⟩
        exact ⟨⟨by omega, by omega⟩, jR_cf hJ_ hI_ hF_ rfl hK_ (fun z9_ => by (have k9_ := hJ_.2 a1_ (by omega) (by omega) ht_.1; rw [show ((a1_.toNat : Nat) : Int) = a1_ by omega]; exact cRk_pl k9_ (fun t9_ u9_ v9_ => fr_arr hF_ (wrg (lo_ := 223) (hi_ := 234) rfl u9_ v9_)) (cpl_fq k9_.2.2.2.2.2.1 hF_ rfl rfl rfl rfl rfl rfl rfl rfl) (fun _ => by (rw [fr_arr hF_ (t := 240) rfl]; exact ht_.2))))⟩
      · have cx7_ : ¬ (vx6_ ≤ n_) := of_decide_eq_false cx7_
        refine sm_T_go 5 (c1 := (323, [some (.inr (.inr (some (13, 0)))), some (.inl a1_), some (.inl a2_), none, some (.inl op_), some (.inl n_)], [.inl a1_, .inl 256, .inr (.inr (some (256, 0))), .inl op_], S_)) rfl ?_
        refine sm_T_bin (w := 256 * a1_) rfl (bi_mul (by omega) (by omega) (by omega)) ?_ -- pc_ 323
        refine sm_T_go 1 (c1 := (326, [some (.inr (.inr (some (13, 0)))), some (.inl a1_), some (.inl a2_), none, some (.inl op_), some (.inl n_)], [.inl n_, .inl (256 * a1_), .inr (.inr (some (256, 0))), .inl op_], S_)) rfl ?_
        refine sm_T_bin (w := 256 * a1_ + n_) rfl (bi_add (by omega) (by omega) (by omega)) ?_ -- pc_ 326
        refine sm_T_zald (n := 1024) rfl rfl (by omega) (by omega) ?_
        have bx8_ : 0 ≤ S_.2.2.1 256 0 (256 * a1_ + n_).toNat ∧ S_.2.2.1 256 0 (256 * a1_ + n_).toNat ≤ 1 := hI_.2 256 0 _
        refine sm_T_b0 (a := 0) (z := 7) rfl (fun cx9_ => ?_) (fun cx9_ => ?_)
        · have cx9_ : (S_.2.2.1 256 0 (256 * a1_ + n_).toNat) = 0 := of_decide_eq_true cx9_
          refine sm_T_go 1 (c1 := (336, [some (.inr (.inr (some (13, 0)))), some (.inl a1_), some (.inl a2_), none, some (.inl op_), some (.inl n_)], [.inl 0, .inl op_], S_)) rfl ?_
          refine sm_T_bin (w := op_) rfl (bi_add (by omega) (by omega) (by omega)) ?_ -- pc_ 336
          refine sm_T_go 1 (c1 := (339, [some (.inr (.inr (some (13, 0)))), some (.inl a1_), some (.inl a2_), none, some (.inl op_), some (.inl n_)], [], S_)) rfl ?_
          refine sm_T_inc (a := 5) (z := 1) (v := n_) (w := n_ + 1) rfl rfl (by omega) (by omega) (by omega) ?_ -- pc_ 339
          refine sm_T_go 1 (c1 := (303, [some (.inr (.inr (some (13, 0)))), some (.inl a1_), some (.inl a2_), none, some (.inl op_), some (.inl (n_ + 1))], [], S_)) rfl ?_
          refine ih_.2.2.2.2 op_ (n_ + 1) S_ hI_ hF_ ⟨?_, ?_, ?_, ?_, ?_, ?_, ?_, trivial⟩ ?_
          · omega
          · exact hgr_
          · exact hpw_
          · exact hrw
          · exact ht_
          · omega
          · exact hK_
          · omega
        · have cx9_ : ¬ ((S_.2.2.1 256 0 (256 * a1_ + n_).toNat) = 0) := of_decide_eq_false cx9_
          refine sm_T_go 2 (c1 := (336, [some (.inr (.inr (some (13, 0)))), some (.inl a1_), some (.inl a2_), none, some (.inl op_), some (.inl n_)], [.inl 1, .inl op_], S_)) rfl ?_
          refine sm_T_bin (w := op_ + 1) rfl (bi_add (by omega) (by omega) (by omega)) ?_ -- pc_ 336
          refine sm_T_go 1 (c1 := (339, [some (.inr (.inr (some (13, 0)))), some (.inl a1_), some (.inl a2_), none, some (.inl (op_ + 1)), some (.inl n_)], [], S_)) rfl ?_
          refine sm_T_inc (a := 5) (z := 1) (v := n_) (w := n_ + 1) rfl rfl (by omega) (by omega) (by omega) ?_ -- pc_ 339
          refine sm_T_go 1 (c1 := (303, [some (.inr (.inr (some (13, 0)))), some (.inl a1_), some (.inl a2_), none, some (.inl (op_ + 1)), some (.inl (n_ + 1))], [], S_)) rfl ?_
          refine ih_.2.2.2.2 (op_ + 1) (n_ + 1) S_ hI_ hF_ ⟨?_, ?_, ?_, ?_, ?_, ?_, ?_, trivial⟩ ?_
          · omega
          · exact hgr_
          · exact hpw_
          · exact hrw
          · exact ht_
          · omega
          · exact hK_
          · omega
set_option maxHeartbeats 4000000 in
set_option maxRecDepth 20000 in
theorem vc_466 {sc_ : Nat × (Nat → Int)} (a1_ : Int) (a2_ : Int) (S0_ : sm_S) (hI_ : gi S0_) (ha1_ : (-2147483648) ≤ a1_ ∧ a1_ ≤ 2147483647) (ha2_ : (-2147483648) ≤ a2_ ∧ a2_ ≤ 2147483647) (hJ_ : jR S0_) : sm_T (mt_P sc_) 6 466 (0, [some (.inr (.inr (some (13, 0)))), some (.inl a1_), some (.inl a2_), none, none, none], [], S0_) (fun ro9_ => ∃ u_ S1_, ro9_ = (.inl u_, S1_, 0) ∧ vq_466 a1_ a2_ S0_ u_ S1_) := by
  have hF_ : ai_fr (sx_W vw_466) S0_ S0_ := ai_fr_rf
  have hK_ : rcf a1_.toNat S0_ S0_ := rcf_rf
  refine sm_T_go 3 (c1 := (3, [some (.inr (.inr (some (13, 0)))), some (.inl a1_), some (.inl a2_), none, none, none], [.inl a1_, .inr (.inr (some (13, 0))), .inr (.inr (some (13, 0)))], S0_)) rfl ?_
  refine sm_T_cal (d1 := 0) (Q1 := vq_371 a1_ S0_) rfl rfl (by decide) (vc_371 a1_ S0_ hI_ (by omega)) (fun u_ Sx1_ px4_ => ?_)
  obtain ⟨rfl, vx6_, rfl, px4_⟩ := px4_
  have d3_ := px4_
  refine sm_T_b0 (a := 1) (z := 7) rfl (fun cx7_ => ?_) (fun cx7_ => ?_)
  · have cx7_ : vx6_ ≠ 0 := of_decide_eq_true cx7_
    refine sm_T_go 3 (c1 := (17, [some (.inr (.inr (some (13, 0)))), some (.inl a1_), some (.inl a2_), none, none, none], [.inl 12, .inl 0, .inl a2_, .inr (.inr (some (13, 0)))], S0_)) rfl ?_
    refine sm_T_cal (d1 := 0) (Q1 := vq_278 a2_ 0 12 S0_) rfl rfl (by decide) (vc_278 a2_ 0 12 S0_ hI_ ) (fun u_ Sx8_ px11_ => ?_)
    obtain ⟨rfl, vx13_, rfl, px11_⟩ := px11_
    refine sm_T_b0 (a := 1) (z := 7) rfl (fun cx14_ => ?_) (fun cx14_ => ?_)
    · have cx14_ : vx13_ ≠ 0 := of_decide_eq_true cx14_
      refine sm_T_go 3 (c1 := (32, [some (.inr (.inr (some (13, 0)))), some (.inl a1_), some (.inl a2_), none, none, none], [.inl a1_, .inr (.inr (some (240, 0))), .inr (.inr (some (13, 0)))], S0_)) rfl ?_
      refine sm_T_iald (n := 4) rfl rfl (by omega) (by omega) ?_
      have bx15_ : 0 ≤ S0_.2.2.1 240 0 a1_.toNat ∧ S0_.2.2.1 240 0 a1_.toNat ≤ 12 := hI_.2 240 0 _
      refine sm_T_b0 (a := 1) (z := 7) rfl (fun cx16_ => ?_) (fun cx16_ => ?_)
      · have cx16_ : (S0_.2.2.1 240 0 a1_.toNat) ≠ 0 := of_decide_eq_true cx16_
        have K9_ : cRk a1_ S0_ := hJ_.2 a1_ (by omega) (by omega) (by omega)
        obtain ⟨K1_, K2_, K3_, K4_, K5_, K6_, K7_⟩ := K9_
        have c4_ := (K6_ (by omega)).1
        have hIx17_ : gi (sm_pI S0_ 13 0 0 0) := gi_pI hI_ (show 0 ≤ 0 ∧ 0 ≤ 4 from ⟨by omega, by omega⟩)
        have hFx18_ : ai_fr (sx_W vw_466) S0_ (sm_pI S0_ 13 0 0 0) := ai_fr_tr hF_ (ai_fr_pI rfl)
        have hKx19_ : rcf a1_.toNat S0_ (sm_pI S0_ 13 0 0 0) := hK_
        refine sm_T_go 7 (c1 := (55, [some (.inr (.inr (some (13, 0)))), some (.inl a1_), some (.inl a2_), none, none, none], [.inl a1_, .inr (.inr (some (13, 0)))], sm_pI S0_ 13 0 0 0)) rfl ?_
        refine sm_T_cal (d1 := 1) (Q1 := vq_463 a1_ (sm_pI S0_ 13 0 0 0)) rfl rfl (by decide) (vc_463 a1_ (sm_pI S0_ 13 0 0 0) hIx17_ (by omega) (by (show 1 ≤ S0_.2.2.1 240 0 a1_.toNat ∧ 4 ≤ S0_.2.2.1 239 0 a1_.toNat; omega))) (fun u_ Sx20_ px23_ => ?_)
        obtain ⟨rfl, hIx21_, hFx22_, px23_⟩ := px23_
        have hFx24_ : ai_fr (sx_W vw_466) S0_ Sx20_ := ai_fr_tr hFx18_ (fr_le hFx22_ rfl)
        have hKx25_ : rcf a1_.toNat S0_ Sx20_ := rcf_tr hKx19_ (rcf_fr hFx22_ rfl)
        have g55_ : grd Sx20_ ∧ Sx20_.1 13 0 177 = a1_ ∧ Sx20_.1 13 0 174 = S0_.2.2.1 239 0 a1_.toNat + 2 ∧ 3 * S0_.2.2.1 240 0 a1_.toNat + 2 ≤ Sx20_.1 13 0 175 ∧ S0_.2.2.1 223 0 a1_.toNat ≤ Sx20_.1 13 0 175 ∧ S0_.2.2.1 225 0 a1_.toNat ≤ Sx20_.1 13 0 175 := px23_
        have q55_ : ple a1_ (S0_.2.2.1 239 0 a1_.toNat + 2) (Sx20_.1 13 0 175) Sx20_ := ple_fr (S_ := (sm_pI S0_ 13 0 0 0)) (ple_pl K6_ (show 1 ≤ S0_.2.2.1 240 0 a1_.toNat by omega) g55_.2.2.2.1 g55_.2.2.2.2.1 g55_.2.2.2.2.2) hFx22_
        have h55_ := Sx20_.1 13 0 175
        have k55_ : cgt a1_ Sx20_ := cgt_fr (S_ := (sm_pI S0_ 13 0 0 0)) (by omega) hIx21_ K4_ hFx22_
        have l55_ : con a1_ Sx20_ := con_fr (S_ := (sm_pI S0_ 13 0 0 0)) (by omega) hIx21_ K5_ hFx22_
        have m55_ : Sx20_.2.2.1 223 0 a1_.toNat + Sx20_.2.2.1 224 0 a1_.toNat ≤ 12 := by (rw [fr_arr hFx24_ (t := 223) rfl, fr_arr hFx24_ (t := 224) rfl]; exact K1_)
        have o55_ : Sx20_.1 13 0 174 ≤ Sx20_.1 13 0 174 := Int.le_refl _
        refine sm_T_go 2 (c1 := (60, [some (.inr (.inr (some (13, 0)))), some (.inl a1_), some (.inl a2_), none, none, none], [.inl a1_, .inr (.inr (some (13, 0)))], Sx20_)) rfl ?_
        refine sm_T_cal (d1 := 4) (Q1 := vq_462 a1_ (S0_.2.2.1 239 0 a1_.toNat + 2) (Sx20_.1 13 0 175) Sx20_) rfl rfl (by decide) (vc_462 a1_ (S0_.2.2.1 239 0 a1_.toNat + 2) (Sx20_.1 13 0 175) Sx20_ hIx21_ (by omega) (by exact m55_) (by exact k55_) (by exact l55_) (by exact q55_)) (fun u_ Sx26_ px29_ => ?_)
        obtain ⟨rfl, hIx27_, hFx28_, px29_⟩ := px29_
        have hFx30_ : ai_fr (sx_W vw_466) S0_ Sx26_ := ai_fr_tr hFx24_ (fr_le hFx28_ rfl)
        have hKx31_ : rcf a1_.toNat S0_ Sx26_ := rcf_tr hKx25_ (rcf_fr hFx28_ rfl)
        have v60_ := px29_
        have g60_ := grd_fr g55_.1 hFx28_
        have c60_ : Sx26_.1 13 0 177 = a1_ := (hFx28_.1 13 0 177 rfl).trans g55_.2.1
        have w60_ : pnw Sx26_ := pnv_w v60_.1 (by rw [hFx28_.1 13 0 174 rfl]; omega) (by rw [hFx28_.1 13 0 175 rfl]; exact Int.le_refl _)
        refine sm_T_go 2 (c1 := (65, [some (.inr (.inr (some (13, 0)))), some (.inl a1_), some (.inl a2_), some (.inl 0), none, none], [], Sx26_)) rfl ?_
        refine (vl_466 a1_ a2_ S0_ ha1_ ha2_ hJ_ _).1 0 Sx26_ hIx27_ hFx30_ ⟨?_, ?_, ?_, ?_, ?_, ?_, ?_, trivial⟩ (Nat.lt_succ_self _)
        · omega
        · exact g60_
        · exact w60_
        · exact v60_.2
        · omega
        · omega
        · exact hKx31_
      · have cx16_ : ¬ ((S0_.2.2.1 240 0 a1_.toNat) ≠ 0) := of_decide_eq_false cx16_
        have hIx32_ : gi (sm_pI S0_ 13 0 0 3) := gi_pI hI_ (show 0 ≤ 3 ∧ 3 ≤ 4 from ⟨by omega, by omega⟩)
        have hFx33_ : ai_fr (sx_W vw_466) S0_ (sm_pI S0_ 13 0 0 3) := ai_fr_tr hF_ (ai_fr_pI rfl)
        have hKx34_ : rcf a1_.toNat S0_ (sm_pI S0_ 13 0 0 3) := hK_
        refine sm_T_go 7 (c1 := (52, [some (.inr (.inr (some (13, 0)))), some (.inl a1_), some (.inl a2_), none, none, none], [.inl 0], sm_pI S0_ 13 0 0 3)) rfl ?_
        refine sm_T_ri rfl ⟨_, _, rfl, _, rfl, hIx32_, hFx33_, ?_⟩
        refine ⟨hKx34_, ?_⟩
        exact ⟨⟨by omega, by omega⟩, hJ_⟩
    · have cx14_ : ¬ (vx13_ ≠ 0) := of_decide_eq_false cx14_
      have hIx35_ : gi (sm_pI S0_ 13 0 0 2) := gi_pI hI_ (show 0 ≤ 2 ∧ 2 ≤ 4 from ⟨by omega, by omega⟩)
      have hFx36_ : ai_fr (sx_W vw_466) S0_ (sm_pI S0_ 13 0 0 2) := ai_fr_tr hF_ (ai_fr_pI rfl)
      have hKx37_ : rcf a1_.toNat S0_ (sm_pI S0_ 13 0 0 2) := hK_
      refine sm_T_go 7 (c1 := (52, [some (.inr (.inr (some (13, 0)))), some (.inl a1_), some (.inl a2_), none, none, none], [.inl 0], sm_pI S0_ 13 0 0 2)) rfl ?_
      refine sm_T_ri rfl ⟨_, _, rfl, _, rfl, hIx35_, hFx36_, ?_⟩
      refine ⟨hKx37_, ?_⟩
      exact ⟨⟨by omega, by omega⟩, hJ_⟩
  · have cx7_ : ¬ (vx6_ ≠ 0) := of_decide_eq_false cx7_
    have hIx38_ : gi (sm_pI S0_ 13 0 0 1) := gi_pI hI_ (show 0 ≤ 1 ∧ 1 ≤ 4 from ⟨by omega, by omega⟩)
    have hFx39_ : ai_fr (sx_W vw_466) S0_ (sm_pI S0_ 13 0 0 1) := ai_fr_tr hF_ (ai_fr_pI rfl)
    have hKx40_ : rcf a1_.toNat S0_ (sm_pI S0_ 13 0 0 1) := hK_
    refine sm_T_go 7 (c1 := (52, [some (.inr (.inr (some (13, 0)))), some (.inl a1_), some (.inl a2_), none, none, none], [.inl 0], sm_pI S0_ 13 0 0 1)) rfl ?_
    refine sm_T_ri rfl ⟨_, _, rfl, _, rfl, hIx38_, hFx39_, ?_⟩
    refine ⟨hKx40_, ?_⟩
    exact ⟨⟨by omega, by omega⟩, hJ_⟩
/-! M_.point -/
def vw_467 : sx_Wl := ([(13, 0)], [], [])
def vq_467 (a1_ : Int) (a2_ : Int) (S0_ : sm_S) (u_ : Option sm_V) (S1_ : sm_S) : Prop := ∃ v_ : Int, u_ = some (.inl v_) ∧ gi S1_ ∧ ai_fr (sx_W vw_467) S0_ S1_ ∧ (((-2147483648) ≤ v_ ∧ v_ ≤ 2147483647) ∧ (jR S1_))
set_option maxHeartbeats 400000 in
set_option maxRecDepth 20000 in
theorem vc_467 {sc_ : Nat × (Nat → Int)} (a1_ : Int) (a2_ : Int) (S0_ : sm_S) (hI_ : gi S0_) (ha1_ : (-2147483648) ≤ a1_ ∧ a1_ ≤ 2147483647) (ha2_ : (-2147483648) ≤ a2_ ∧ a2_ ≤ 2147483647) (hJ_ : jR S0_) : sm_T (mt_P sc_) 1 467 (0, [some (.inr (.inr (some (13, 0)))), some (.inl a1_), some (.inl a2_)], [], S0_) (fun ro9_ => ∃ u_ S1_, ro9_ = (.inl u_, S1_, 0) ∧ vq_467 a1_ a2_ S0_ u_ S1_) := by
  have hF_ : ai_fr (sx_W vw_467) S0_ S0_ := ai_fr_rf
  refine sm_T_go 3 (c1 := (3, [some (.inr (.inr (some (13, 0)))), some (.inl a1_), some (.inl a2_)], [.inl a1_, .inr (.inr (some (13, 0))), .inr (.inr (some (13, 0)))], S0_)) rfl ?_
  refine sm_T_cal (d1 := 0) (Q1 := vq_371 a1_ S0_) rfl rfl (by decide) (vc_371 a1_ S0_ hI_ (by omega)) (fun u_ Sx1_ px4_ => ?_)
  obtain ⟨rfl, vx6_, rfl, px4_⟩ := px4_
  have d3_ := px4_
  refine sm_T_b0 (a := 0) (z := 7) rfl (fun cx7_ => ?_) (fun cx7_ => ?_)
  · have cx7_ : vx6_ = 0 := of_decide_eq_true cx7_
    have hIx8_ : gi (sm_pI S0_ 13 0 0 1) := gi_pI hI_ (show 0 ≤ 1 ∧ 1 ≤ 4 from ⟨by omega, by omega⟩)
    have hFx9_ : ai_fr (sx_W vw_467) S0_ (sm_pI S0_ 13 0 0 1) := ai_fr_tr hF_ (ai_fr_pI rfl)
    refine sm_T_go 8 (c1 := (81, [some (.inr (.inr (some (13, 0)))), some (.inl a1_), some (.inl a2_)], [.inl 0], sm_pI S0_ 13 0 0 1)) rfl ?_
    refine sm_T_ri rfl ⟨_, _, rfl, _, rfl, hIx8_, hFx9_, ?_⟩
    refine ⟨⟨by omega, by omega⟩, jR_fr hJ_ hIx8_ hFx9_⟩
  · have cx7_ : ¬ (vx6_ = 0) := of_decide_eq_false cx7_
    refine sm_T_go 1 (c1 := (10, [some (.inr (.inr (some (13, 0)))), some (.inl a1_), some (.inl a2_)], [.inl a2_, .inr (.inr (some (13, 0)))], S0_)) rfl ?_
    refine sm_T_b0 (a := 3) (z := 7) rfl (fun cx10_ => ?_) (fun cx10_ => ?_)
    · have cx10_ : 0 ≤ a2_ := of_decide_eq_true cx10_
      refine sm_T_go 3 (c1 := (22, [some (.inr (.inr (some (13, 0)))), some (.inl a1_), some (.inl a2_)], [.inl a1_, .inr (.inr (some (251, 0))), .inr (.inr (some (13, 0)))], S0_)) rfl ?_
      refine sm_T_zald (n := 4) rfl rfl (by omega) (by omega) ?_
      have bx11_ : 0 ≤ S0_.2.2.1 251 0 a1_.toNat ∧ S0_.2.2.1 251 0 a1_.toNat ≤ 1 := hI_.2 251 0 _
      refine sm_T_b0 (a := 1) (z := 7) rfl (fun cx12_ => ?_) (fun cx12_ => ?_)
      · have cx12_ : (S0_.2.2.1 251 0 a1_.toNat) ≠ 0 := of_decide_eq_true cx12_
        refine sm_T_go 5 (c1 := (37, [some (.inr (.inr (some (13, 0)))), some (.inl a1_), some (.inl a2_)], [.inl a1_, .inr (.inr (some (239, 0))), .inl 2, .inl a2_, .inr (.inr (some (13, 0)))], S0_)) rfl ?_
        refine sm_T_iald (n := 4) rfl rfl (by omega) (by omega) ?_
        have bx13_ : 0 ≤ S0_.2.2.1 239 0 a1_.toNat ∧ S0_.2.2.1 239 0 a1_.toNat ≤ 60 := hI_.2 239 0 _
        refine sm_T_go 1 (c1 := (39, [some (.inr (.inr (some (13, 0)))), some (.inl a1_), some (.inl a2_)], [.inl 2, .inl (S0_.2.2.1 239 0 a1_.toNat), .inl 2, .inl a2_, .inr (.inr (some (13, 0)))], S0_)) rfl ?_
        refine sm_T_bin (w := (S0_.2.2.1 239 0 a1_.toNat) + 2) rfl (bi_add (by omega) (by omega) (by omega)) ?_ -- pc_ 39
        refine sm_T_bin (w := 2 * (S0_.2.2.1 239 0 a1_.toNat) + 4) rfl (bi_mul (by omega) (by omega) (by omega)) ?_ -- pc_ 40
        refine sm_T_go 2 (c1 := (43, [some (.inr (.inr (some (13, 0)))), some (.inl a1_), some (.inl a2_)], [.inl a1_, .inr (.inr (some (13, 0))), .inl (2 * (S0_.2.2.1 239 0 a1_.toNat) + 4), .inl a2_, .inr (.inr (some (13, 0)))], S0_)) rfl ?_
        refine sm_T_cal (d1 := 0) (Q1 := vq_424 a1_ S0_) rfl rfl (by decide) (vc_424 a1_ S0_ hI_ (by omega)) (fun u_ Sx14_ px17_ => ?_)
        obtain ⟨rfl, vx19_, rfl, px17_⟩ := px17_
        have e43_ := px17_
        have bx20_ := mul_b (x_ := (2 * (S0_.2.2.1 239 0 a1_.toNat) + 4)) (y_ := vx19_) (X_ := 124) (Y_ := 38) (Z_ := 4712) (by omega) (by omega) (by decide)
        refine sm_T_bin (w := ((2 * (S0_.2.2.1 239 0 a1_.toNat) + 4) * vx19_)) rfl (bi_mul rfl (by omega) (by omega)) ?_ -- pc_ 46
        refine sm_T_br (a := 2) (z := 7) rfl (fun cx21_ => ?_) (fun cx21_ => ?_)
        · have cx21_ : a2_ < ((2 * (S0_.2.2.1 239 0 a1_.toNat) + 4) * vx19_) := of_decide_eq_true cx21_
          have hIx22_ : gi (sm_pI S0_ 13 0 0 0) := gi_pI hI_ (show 0 ≤ 0 ∧ 0 ≤ 4 from ⟨by omega, by omega⟩)
          have hFx23_ : ai_fr (sx_W vw_467) S0_ (sm_pI S0_ 13 0 0 0) := ai_fr_tr hF_ (ai_fr_pI rfl)
          refine sm_T_go 9 (c1 := (77, [some (.inr (.inr (some (13, 0)))), some (.inl a1_), some (.inl a2_)], [.inl a1_, .inl 4712, .inr (.inr (some (252, 0)))], sm_pI S0_ 13 0 0 0)) rfl ?_
          refine sm_T_bin (w := 4712 * a1_) rfl (bi_mul (by omega) (by omega) (by omega)) ?_ -- pc_ 77
          refine sm_T_go 1 (c1 := (79, [some (.inr (.inr (some (13, 0)))), some (.inl a1_), some (.inl a2_)], [.inl a2_, .inl (4712 * a1_), .inr (.inr (some (252, 0)))], sm_pI S0_ 13 0 0 0)) rfl ?_
          refine sm_T_bin (w := 4712 * a1_ + a2_) rfl (bi_add (by omega) (by omega) (by omega)) ?_ -- pc_ 79
          refine sm_T_iald (n := 18848) rfl rfl (by omega) (by omega) ?_
          have bx24_ : (-1) ≤ S0_.2.2.1 252 0 (4712 * a1_ + a2_).toNat ∧ S0_.2.2.1 252 0 (4712 * a1_ + a2_).toNat ≤ 161 := hI_.2 252 0 _
          refine sm_T_go 0 (c1 := (81, [some (.inr (.inr (some (13, 0)))), some (.inl a1_), some (.inl a2_)], [.inl (S0_.2.2.1 252 0 (4712 * a1_ + a2_).toNat)], sm_pI S0_ 13 0 0 0)) rfl ?_
          refine sm_T_ri rfl ⟨_, _, rfl, _, rfl, hIx22_, hFx23_, ?_⟩
          refine ⟨⟨by omega, by omega⟩, jR_fr hJ_ hIx22_ hFx23_⟩
        · have cx21_ : ¬ (a2_ < ((2 * (S0_.2.2.1 239 0 a1_.toNat) + 4) * vx19_)) := of_decide_eq_false cx21_
          have hIx25_ : gi (sm_pI S0_ 13 0 0 1) := gi_pI hI_ (show 0 ≤ 1 ∧ 1 ≤ 4 from ⟨by omega, by omega⟩)
          have hFx26_ : ai_fr (sx_W vw_467) S0_ (sm_pI S0_ 13 0 0 1) := ai_fr_tr hF_ (ai_fr_pI rfl)
          refine sm_T_go 8 (c1 := (81, [some (.inr (.inr (some (13, 0)))), some (.inl a1_), some (.inl a2_)], [.inl 0], sm_pI S0_ 13 0 0 1)) rfl ?_
          refine sm_T_ri rfl ⟨_, _, rfl, _, rfl, hIx25_, hFx26_, ?_⟩
          refine ⟨⟨by omega, by omega⟩, jR_fr hJ_ hIx25_ hFx26_⟩
      · have cx12_ : ¬ ((S0_.2.2.1 251 0 a1_.toNat) ≠ 0) := of_decide_eq_false cx12_
        have hIx27_ : gi (sm_pI S0_ 13 0 0 2) := gi_pI hI_ (show 0 ≤ 2 ∧ 2 ≤ 4 from ⟨by omega, by omega⟩)
        have hFx28_ : ai_fr (sx_W vw_467) S0_ (sm_pI S0_ 13 0 0 2) := ai_fr_tr hF_ (ai_fr_pI rfl)
        refine sm_T_go 8 (c1 := (81, [some (.inr (.inr (some (13, 0)))), some (.inl a1_), some (.inl a2_)], [.inl 0], sm_pI S0_ 13 0 0 2)) rfl ?_
        refine sm_T_ri rfl ⟨_, _, rfl, _, rfl, hIx27_, hFx28_, ?_⟩
        refine ⟨⟨by omega, by omega⟩, jR_fr hJ_ hIx27_ hFx28_⟩
    · have cx10_ : ¬ (0 ≤ a2_) := of_decide_eq_false cx10_
      have hIx29_ : gi (sm_pI S0_ 13 0 0 1) := gi_pI hI_ (show 0 ≤ 1 ∧ 1 ≤ 4 from ⟨by omega, by omega⟩)
      have hFx30_ : ai_fr (sx_W vw_467) S0_ (sm_pI S0_ 13 0 0 1) := ai_fr_tr hF_ (ai_fr_pI rfl)
      refine sm_T_go 8 (c1 := (81, [some (.inr (.inr (some (13, 0)))), some (.inl a1_), some (.inl a2_)], [.inl 0], sm_pI S0_ 13 0 0 1)) rfl ?_
      refine sm_T_ri rfl ⟨_, _, rfl, _, rfl, hIx29_, hFx30_, ?_⟩
      refine ⟨⟨by omega, by omega⟩, jR_fr hJ_ hIx29_ hFx30_⟩
/-! M_.routed -/
def vw_468 : sx_Wl := ([(13, 0), (13, 159), (13, 174), (13, 175), (13, 176), (13, 177)], [243, 244, 245, 246, 247, 248, 249, 250], [])
def vq_468 (a1_ : Int) (a2_ : Int) (a3_ : Int) (S0_ : sm_S) (u_ : Option sm_V) (S1_ : sm_S) : Prop := ∃ v_ : Int, u_ = some (.inl v_) ∧ gi S1_ ∧ ai_fr (sx_W vw_468) S0_ S1_ ∧ ((-2147483648 ≤ v_ ∧ v_ ≤ 2147483647) ∧ jR S1_)
set_option maxHeartbeats 1000000 in
set_option maxRecDepth 20000 in
theorem vl_468 {sc_ : Nat × (Nat → Int)} (a1_ : Int) (a2_ : Int) (a3_ : Int) (S0_ : sm_S) (ha1_ : (-2147483648) ≤ a1_ ∧ a1_ ≤ 2147483647) (ha2_ : (-2147483648) ≤ a2_ ∧ a2_ ≤ 2147483647) (ha3_ : (-2147483648) ≤ a3_ ∧ a3_ ≤ 2147483647) (hJ_ : jR S0_) : ∀ nn_ : Nat, (∀ (po_ : Int) (st_ : Int) (cr : Int) (p_ : Int) (S_ : sm_S), gi S_ → ai_fr (sx_W vw_468) S0_ S_ → ((0 ≤ a1_ ∧ a1_ < 4 ∧ 0 ≤ a2_ ∧ a2_ < 168 ∧ 0 ≤ p_ ∧ p_ ≤ 4712 ∧ 0 ≤ po_ ∧ po_ ≤ p_ ∧ 0 ≤ st_ ∧ st_ ≤ 3 * p_ ∧ 0 ≤ cr ∧ cr ≤ p_) ∧ True) → ((9000 - p_).toNat) < nn_ → sm_T (mt_P sc_) 4 468 (75, [some (.inr (.inr (some (13, 0)))), some (.inl a1_), some (.inl a2_), some (.inl a3_), some (.inl po_), some (.inl st_), some (.inl cr), some (.inl p_), none], [], S_) (fun ro9_ => ∃ u_ S1_, ro9_ = (.inl u_, S1_, 0) ∧ vq_468 a1_ a2_ a3_ S0_ u_ S1_)) := by
  intro nn_
  induction nn_ with
  | zero => exact fun _ _ _ _ _ _ _ _ h_ => absurd h_ (Nat.not_lt_zero _)
  | succ nn_ ih_ =>
    rintro po_ st_ cr p_ S_ hI_ hF_ ⟨h0_, -⟩ hm_
    have bx1_ : 0 ≤ S_.1 13 0 176 ∧ S_.1 13 0 176 ≤ 4712 := hI_.1 13 0 176 rfl
    refine sm_T_go 3 (c1 := (81, [some (.inr (.inr (some (13, 0)))), some (.inl a1_), some (.inl a2_), some (.inl a3_), some (.inl po_), some (.inl st_), some (.inl cr), some (.inl p_), none], [.inl (S_.1 13 0 176), .inl p_], S_)) rfl ?_
    refine sm_T_br (a := 3) (z := 103) rfl (fun cx2_ => ?_) (fun cx2_ => ?_)
    · have cx2_ : (S_.1 13 0 176) ≤ p_ := of_decide_eq_true cx2_
      refine sm_T_go 1 (c1 := (185, [some (.inr (.inr (some (13, 0)))), some (.inl a1_), some (.inl a2_), some (.inl a3_), some (.inl po_), some (.inl st_), some (.inl cr), some (.inl p_), none], [.inl a3_], S_)) rfl ?_
      refine sm_T_b0 (a := 1) (z := 8) rfl (fun cx3_ => ?_) (fun cx3_ => ?_)
      · have cx3_ : a3_ ≠ 0 := of_decide_eq_true cx3_
        refine sm_T_go 2 (c1 := (195, [some (.inr (.inr (some (13, 0)))), some (.inl a1_), some (.inl a2_), some (.inl a3_), some (.inl po_), some (.inl st_), some (.inl cr), some (.inl p_), none], [.inl 1, .inl a3_], S_)) rfl ?_
        refine sm_T_br (a := 1) (z := 8) rfl (fun cx4_ => ?_) (fun cx4_ => ?_)
        · have cx4_ : a3_ ≠ 1 := of_decide_eq_true cx4_
          refine sm_T_go 2 (c1 := (205, [some (.inr (.inr (some (13, 0)))), some (.inl a1_), some (.inl a2_), some (.inl a3_), some (.inl po_), some (.inl st_), some (.inl cr), some (.inl p_), none], [.inl 2, .inl a3_], S_)) rfl ?_
          refine sm_T_br (a := 1) (z := 8) rfl (fun cx5_ => ?_) (fun cx5_ => ?_)
          · have cx5_ : a3_ ≠ 2 := of_decide_eq_true cx5_
            refine sm_T_go 2 (c1 := (215, [some (.inr (.inr (some (13, 0)))), some (.inl a1_), some (.inl a2_), some (.inl a3_), some (.inl po_), some (.inl st_), some (.inl cr), some (.inl p_), none], [.inl 3, .inl a3_], S_)) rfl ?_
            refine sm_T_br (a := 1) (z := 26) rfl (fun cx6_ => ?_) (fun cx6_ => ?_)
            · have cx6_ : a3_ ≠ 3 := of_decide_eq_true cx6_
              refine sm_T_go 3 (c1 := (246, [some (.inr (.inr (some (13, 0)))), some (.inl a1_), some (.inl a2_), some (.inl a3_), some (.inl po_), some (.inl st_), some (.inl cr), some (.inl p_), none], [.inl a2_, .inr (.inr (some (246, 0)))], S_)) rfl ?_
              refine sm_T_iald (n := 256) rfl rfl (by omega) (by omega) ?_
              have bx7_ : 0 ≤ S_.2.2.1 246 0 a2_.toNat ∧ S_.2.2.1 246 0 a2_.toNat ≤ 700 := hI_.2 246 0 _
              refine sm_T_ri rfl ⟨_, _, rfl, _, rfl, hI_, hF_, ?_⟩
              exact ⟨⟨by omega, by omega⟩, jR_fr hJ_ hI_ hF_⟩
            · have cx6_ : ¬ (a3_ ≠ 3) := of_decide_eq_false cx6_
              refine sm_T_go 4 (c1 := (226, [some (.inr (.inr (some (13, 0)))), some (.inl a1_), some (.inl a2_), some (.inl a3_), some (.inl po_), some (.inl st_), some (.inl cr), some (.inl p_), none], [.inl a1_, .inl 256, .inr (.inr (some (256, 0)))], S_)) rfl ?_
              refine sm_T_bin (w := 256 * a1_) rfl (bi_mul (by omega) (by omega) (by omega)) ?_ -- pc_ 226
              refine sm_T_go 1 (c1 := (228, [some (.inr (.inr (some (13, 0)))), some (.inl a1_), some (.inl a2_), some (.inl a3_), some (.inl po_), some (.inl st_), some (.inl cr), some (.inl p_), none], [.inl a2_, .inl (256 * a1_), .inr (.inr (some (256, 0)))], S_)) rfl ?_
              refine sm_T_bin (w := 256 * a1_ + a2_) rfl (bi_add (by omega) (by omega) (by omega)) ?_ -- pc_ 228
              refine sm_T_zald (n := 1024) rfl rfl (by omega) (by omega) ?_
              have bx8_ : 0 ≤ S_.2.2.1 256 0 (256 * a1_ + a2_).toNat ∧ S_.2.2.1 256 0 (256 * a1_ + a2_).toNat ≤ 1 := hI_.2 256 0 _
              refine sm_T_b0 (a := 0) (z := 7) rfl (fun cx9_ => ?_) (fun cx9_ => ?_)
              · have cx9_ : (S_.2.2.1 256 0 (256 * a1_ + a2_).toNat) = 0 := of_decide_eq_true cx9_
                refine sm_T_go 2 (c1 := (247, [some (.inr (.inr (some (13, 0)))), some (.inl a1_), some (.inl a2_), some (.inl a3_), some (.inl po_), some (.inl st_), some (.inl cr), some (.inl p_), none], [.inl 0], S_)) rfl ?_
                refine sm_T_ri rfl ⟨_, _, rfl, _, rfl, hI_, hF_, ?_⟩
                exact ⟨⟨by omega, by omega⟩, jR_fr hJ_ hI_ hF_⟩
              · have cx9_ : ¬ ((S_.2.2.1 256 0 (256 * a1_ + a2_).toNat) = 0) := of_decide_eq_false cx9_
                refine sm_T_go 2 (c1 := (247, [some (.inr (.inr (some (13, 0)))), some (.inl a1_), some (.inl a2_), some (.inl a3_), some (.inl po_), some (.inl st_), some (.inl cr), some (.inl p_), none], [.inl 1], S_)) rfl ?_
                refine sm_T_ri rfl ⟨_, _, rfl, _, rfl, hI_, hF_, ?_⟩
                exact ⟨⟨by omega, by omega⟩, jR_fr hJ_ hI_ hF_⟩
          · have cx5_ : ¬ (a3_ ≠ 2) := of_decide_eq_false cx5_
            refine sm_T_go 2 (c1 := (247, [some (.inr (.inr (some (13, 0)))), some (.inl a1_), some (.inl a2_), some (.inl a3_), some (.inl po_), some (.inl st_), some (.inl cr), some (.inl p_), none], [.inl cr], S_)) rfl ?_
            refine sm_T_ri rfl ⟨_, _, rfl, _, rfl, hI_, hF_, ?_⟩
            exact ⟨⟨by omega, by omega⟩, jR_fr hJ_ hI_ hF_⟩
        · have cx4_ : ¬ (a3_ ≠ 1) := of_decide_eq_false cx4_
          refine sm_T_go 2 (c1 := (247, [some (.inr (.inr (some (13, 0)))), some (.inl a1_), some (.inl a2_), some (.inl a3_), some (.inl po_), some (.inl st_), some (.inl cr), some (.inl p_), none], [.inl st_], S_)) rfl ?_
          refine sm_T_ri rfl ⟨_, _, rfl, _, rfl, hI_, hF_, ?_⟩
          exact ⟨⟨by omega, by omega⟩, jR_fr hJ_ hI_ hF_⟩
      · have cx3_ : ¬ (a3_ ≠ 0) := of_decide_eq_false cx3_
        refine sm_T_go 2 (c1 := (247, [some (.inr (.inr (some (13, 0)))), some (.inl a1_), some (.inl a2_), some (.inl a3_), some (.inl po_), some (.inl st_), some (.inl cr), some (.inl p_), none], [.inl po_], S_)) rfl ?_
        refine sm_T_ri rfl ⟨_, _, rfl, _, rfl, hI_, hF_, ?_⟩
        exact ⟨⟨by omega, by omega⟩, jR_fr hJ_ hI_ hF_⟩
    · have cx2_ : ¬ ((S_.1 13 0 176) ≤ p_) := of_decide_eq_false cx2_
      refine sm_T_go 2 (c1 := (87, [some (.inr (.inr (some (13, 0)))), some (.inl a1_), some (.inl a2_), some (.inl a3_), some (.inl po_), some (.inl st_), some (.inl cr), some (.inl p_), none], [.inl p_, .inr (.inr (some (13, 0)))], S_)) rfl ?_
      refine sm_T_cal (d1 := 0) (Q1 := vq_454 p_ S_) rfl rfl (by decide) (vc_454 p_ S_ hI_ (by omega)) (fun u_ Sx10_ px13_ => ?_)
      obtain ⟨rfl, vx15_, rfl, px13_⟩ := px13_
      refine sm_T_go 1 (c1 := (91, [some (.inr (.inr (some (13, 0)))), some (.inl a1_), some (.inl a2_), some (.inl a3_), some (.inl po_), some (.inl st_), some (.inl cr), some (.inl p_), none], [.inl a2_, .inl vx15_], S_)) rfl ?_
      refine sm_T_br (a := 1) (z := 87) rfl (fun cx16_ => ?_) (fun cx16_ => ?_)
      · have cx16_ : vx15_ ≠ a2_ := of_decide_eq_true cx16_
        refine sm_T_inc (a := 7) (z := 1) (v := p_) (w := p_ + 1) rfl rfl (by omega) (by omega) (by omega) ?_ -- pc_ 178
        refine sm_T_go 1 (c1 := (75, [some (.inr (.inr (some (13, 0)))), some (.inl a1_), some (.inl a2_), some (.inl a3_), some (.inl po_), some (.inl st_), some (.inl cr), some (.inl (p_ + 1)), none], [], S_)) rfl ?_
        refine ih_ po_ st_ cr (p_ + 1) S_ hI_ hF_ ⟨?_, trivial⟩ ?_
        · omega
        · omega
      · have cx16_ : ¬ (vx15_ ≠ a2_) := of_decide_eq_false cx16_
        refine sm_T_inc (a := 4) (z := 1) (v := po_) (w := po_ + 1) rfl rfl (by omega) (by omega) (by omega) ?_ -- pc_ 94
        refine sm_T_go 4 (c1 := (105, [some (.inr (.inr (some (13, 0)))), some (.inl a1_), some (.inl a2_), some (.inl a3_), some (.inl (po_ + 1)), some (.inl st_), some (.inl cr), some (.inl p_), none], [.inl a1_, .inl 4712, .inr (.inr (some (255, 0)))], S_)) rfl ?_
        refine sm_T_bin (w := 4712 * a1_) rfl (bi_mul (by omega) (by omega) (by omega)) ?_ -- pc_ 105
        refine sm_T_go 1 (c1 := (108, [some (.inr (.inr (some (13, 0)))), some (.inl a1_), some (.inl a2_), some (.inl a3_), some (.inl (po_ + 1)), some (.inl st_), some (.inl cr), some (.inl p_), none], [.inl p_, .inl (4712 * a1_), .inr (.inr (some (255, 0)))], S_)) rfl ?_
        refine sm_T_bin (w := 4712 * a1_ + p_) rfl (bi_add (by omega) (by omega) (by omega)) ?_ -- pc_ 108
        refine sm_T_zald (n := 18848) rfl rfl (by omega) (by omega) ?_
        have bx17_ : 0 ≤ S_.2.2.1 255 0 (4712 * a1_ + p_).toNat ∧ S_.2.2.1 255 0 (4712 * a1_ + p_).toNat ≤ 1 := hI_.2 255 0 _
        refine sm_T_b0 (a := 0) (z := 7) rfl (fun cx18_ => ?_) (fun cx18_ => ?_)
        · have cx18_ : (S_.2.2.1 255 0 (4712 * a1_ + p_).toNat) = 0 := of_decide_eq_true cx18_
          refine sm_T_go 8 (c1 := (132, [some (.inr (.inr (some (13, 0)))), some (.inl a1_), some (.inl a2_), some (.inl a3_), some (.inl (po_ + 1)), some (.inl st_), some (.inl cr), some (.inl p_), some (.inl 0)], [.inl a1_, .inl 4712, .inr (.inr (some (253, 0))), .inl 0, .inl st_], S_)) rfl ?_
          refine sm_T_bin (w := 4712 * a1_) rfl (bi_mul (by omega) (by omega) (by omega)) ?_ -- pc_ 132
          refine sm_T_go 1 (c1 := (135, [some (.inr (.inr (some (13, 0)))), some (.inl a1_), some (.inl a2_), some (.inl a3_), some (.inl (po_ + 1)), some (.inl st_), some (.inl cr), some (.inl p_), some (.inl 0)], [.inl p_, .inl (4712 * a1_), .inr (.inr (some (253, 0))), .inl 0, .inl st_], S_)) rfl ?_
          refine sm_T_bin (w := 4712 * a1_ + p_) rfl (bi_add (by omega) (by omega) (by omega)) ?_ -- pc_ 135
          refine sm_T_zald (n := 18848) rfl rfl (by omega) (by omega) ?_
          have bx19_ : 0 ≤ S_.2.2.1 253 0 (4712 * a1_ + p_).toNat ∧ S_.2.2.1 253 0 (4712 * a1_ + p_).toNat ≤ 1 := hI_.2 253 0 _
          refine sm_T_b0 (a := 0) (z := 7) rfl (fun cx20_ => ?_) (fun cx20_ => ?_)
          · have cx20_ : (S_.2.2.1 253 0 (4712 * a1_ + p_).toNat) = 0 := of_decide_eq_true cx20_
            refine sm_T_go 1 (c1 := (145, [some (.inr (.inr (some (13, 0)))), some (.inl a1_), some (.inl a2_), some (.inl a3_), some (.inl (po_ + 1)), some (.inl st_), some (.inl cr), some (.inl p_), some (.inl 0)], [.inl 0, .inl 0, .inl st_], S_)) rfl ?_
            refine sm_T_bin (w := 0) rfl (bi_add (by omega) (by omega) (by omega)) ?_ -- pc_ 145
            refine sm_T_go 4 (c1 := (154, [some (.inr (.inr (some (13, 0)))), some (.inl a1_), some (.inl a2_), some (.inl a3_), some (.inl (po_ + 1)), some (.inl st_), some (.inl cr), some (.inl p_), some (.inl 0)], [.inl a1_, .inl 4712, .inr (.inr (some (254, 0))), .inl 0, .inl st_], S_)) rfl ?_
            refine sm_T_bin (w := 4712 * a1_) rfl (bi_mul (by omega) (by omega) (by omega)) ?_ -- pc_ 154
            refine sm_T_go 1 (c1 := (157, [some (.inr (.inr (some (13, 0)))), some (.inl a1_), some (.inl a2_), some (.inl a3_), some (.inl (po_ + 1)), some (.inl st_), some (.inl cr), some (.inl p_), some (.inl 0)], [.inl p_, .inl (4712 * a1_), .inr (.inr (some (254, 0))), .inl 0, .inl st_], S_)) rfl ?_
            refine sm_T_bin (w := 4712 * a1_ + p_) rfl (bi_add (by omega) (by omega) (by omega)) ?_ -- pc_ 157
            refine sm_T_zald (n := 18848) rfl rfl (by omega) (by omega) ?_
            have bx21_ : 0 ≤ S_.2.2.1 254 0 (4712 * a1_ + p_).toNat ∧ S_.2.2.1 254 0 (4712 * a1_ + p_).toNat ≤ 1 := hI_.2 254 0 _
            refine sm_T_b0 (a := 0) (z := 7) rfl (fun cx22_ => ?_) (fun cx22_ => ?_)
            · have cx22_ : (S_.2.2.1 254 0 (4712 * a1_ + p_).toNat) = 0 := of_decide_eq_true cx22_
              refine sm_T_go 1 (c1 := (167, [some (.inr (.inr (some (13, 0)))), some (.inl a1_), some (.inl a2_), some (.inl a3_), some (.inl (po_ + 1)), some (.inl st_), some (.inl cr), some (.inl p_), some (.inl 0)], [.inl 0, .inl 0, .inl st_], S_)) rfl ?_
              refine sm_T_bin (w := 0) rfl (bi_add (by omega) (by omega) (by omega)) ?_ -- pc_ 167
              refine sm_T_bin (w := st_) rfl (bi_add (by omega) (by omega) (by omega)) ?_ -- pc_ 168
              refine sm_T_go 3 (c1 := (175, [some (.inr (.inr (some (13, 0)))), some (.inl a1_), some (.inl a2_), some (.inl a3_), some (.inl (po_ + 1)), some (.inl st_), some (.inl cr), some (.inl p_), some (.inl 0)], [.inl 0, .inl cr], S_)) rfl ?_
              refine sm_T_bin (w := cr) rfl (bi_add (by omega) (by omega) (by omega)) ?_ -- pc_ 175
              refine sm_T_go 1 (c1 := (178, [some (.inr (.inr (some (13, 0)))), some (.inl a1_), some (.inl a2_), some (.inl a3_), some (.inl (po_ + 1)), some (.inl st_), some (.inl cr), some (.inl p_), some (.inl 0)], [], S_)) rfl ?_
              refine sm_T_inc (a := 7) (z := 1) (v := p_) (w := p_ + 1) rfl rfl (by omega) (by omega) (by omega) ?_ -- pc_ 178
              refine sm_T_go 1 (c1 := (75, [some (.inr (.inr (some (13, 0)))), some (.inl a1_), some (.inl a2_), some (.inl a3_), some (.inl (po_ + 1)), some (.inl st_), some (.inl cr), some (.inl (p_ + 1)), some (.inl 0)], [], S_)) rfl ?_
              refine sm_T_wk [some (.inr (.inr (some (13, 0)))), some (.inl a1_), some (.inl a2_), some (.inl a3_), some (.inl (po_ + 1)), some (.inl st_), some (.inl cr), some (.inl (p_ + 1)), none] (by exact ⟨rfl, rfl, rfl, rfl, rfl, rfl, rfl, rfl, trivial⟩) ?_
              refine ih_ (po_ + 1) st_ cr (p_ + 1) S_ hI_ hF_ ⟨?_, trivial⟩ ?_
              · omega
              · omega
            · have cx22_ : ¬ ((S_.2.2.1 254 0 (4712 * a1_ + p_).toNat) = 0) := of_decide_eq_false cx22_
              refine sm_T_go 2 (c1 := (167, [some (.inr (.inr (some (13, 0)))), some (.inl a1_), some (.inl a2_), some (.inl a3_), some (.inl (po_ + 1)), some (.inl st_), some (.inl cr), some (.inl p_), some (.inl 0)], [.inl 1, .inl 0, .inl st_], S_)) rfl ?_
              refine sm_T_bin (w := 1) rfl (bi_add (by omega) (by omega) (by omega)) ?_ -- pc_ 167
              refine sm_T_bin (w := st_ + 1) rfl (bi_add (by omega) (by omega) (by omega)) ?_ -- pc_ 168
              refine sm_T_go 3 (c1 := (175, [some (.inr (.inr (some (13, 0)))), some (.inl a1_), some (.inl a2_), some (.inl a3_), some (.inl (po_ + 1)), some (.inl (st_ + 1)), some (.inl cr), some (.inl p_), some (.inl 0)], [.inl 0, .inl cr], S_)) rfl ?_
              refine sm_T_bin (w := cr) rfl (bi_add (by omega) (by omega) (by omega)) ?_ -- pc_ 175
              refine sm_T_go 1 (c1 := (178, [some (.inr (.inr (some (13, 0)))), some (.inl a1_), some (.inl a2_), some (.inl a3_), some (.inl (po_ + 1)), some (.inl (st_ + 1)), some (.inl cr), some (.inl p_), some (.inl 0)], [], S_)) rfl ?_
              refine sm_T_inc (a := 7) (z := 1) (v := p_) (w := p_ + 1) rfl rfl (by omega) (by omega) (by omega) ?_ -- pc_ 178
              refine sm_T_go 1 (c1 := (75, [some (.inr (.inr (some (13, 0)))), some (.inl a1_), some (.inl a2_), some (.inl a3_), some (.inl (po_ + 1)), some (.inl (st_ + 1)), some (.inl cr), some (.inl (p_ + 1)), some (.inl 0)], [], S_)) rfl ?_
              refine sm_T_wk [some (.inr (.inr (some (13, 0)))), some (.inl a1_), some (.inl a2_), some (.inl a3_), some (.inl (po_ + 1)), some (.inl (st_ + 1)), some (.inl cr), some (.inl (p_ + 1)), none] (by exact ⟨rfl, rfl, rfl, rfl, rfl, rfl, rfl, rfl, trivial⟩) ?_
              refine ih_ (po_ + 1) (st_ + 1) cr (p_ + 1) S_ hI_ hF_ ⟨?_, trivial⟩ ?_
              · omega
              · omega
          · have cx20_ : ¬ ((S_.2.2.1 253 0 (4712 * a1_ + p_).toNat) = 0) := of_decide_eq_false cx20_
            refine sm_T_go 2 (c1 := (145, [some (.inr (.inr (some (13, 0)))), some (.inl a1_), some (.inl a2_), some (.inl a3_), some (.inl (po_ + 1)), some (.inl st_), some (.inl cr), some (.inl p_), some (.inl 0)], [.inl 1, .inl 0, .inl st_], S_)) rfl ?_
            refine sm_T_bin (w := 1) rfl (bi_add (by omega) (by omega) (by omega)) ?_ -- pc_ 145
            refine sm_T_go 4 (c1 := (154, [some (.inr (.inr (some (13, 0)))), some (.inl a1_), some (.inl a2_), some (.inl a3_), some (.inl (po_ + 1)), some (.inl st_), some (.inl cr), some (.inl p_), some (.inl 0)], [.inl a1_, .inl 4712, .inr (.inr (some (254, 0))), .inl 1, .inl st_], S_)) rfl ?_
            refine sm_T_bin (w := 4712 * a1_) rfl (bi_mul (by omega) (by omega) (by omega)) ?_ -- pc_ 154
            refine sm_T_go 1 (c1 := (157, [some (.inr (.inr (some (13, 0)))), some (.inl a1_), some (.inl a2_), some (.inl a3_), some (.inl (po_ + 1)), some (.inl st_), some (.inl cr), some (.inl p_), some (.inl 0)], [.inl p_, .inl (4712 * a1_), .inr (.inr (some (254, 0))), .inl 1, .inl st_], S_)) rfl ?_
            refine sm_T_bin (w := 4712 * a1_ + p_) rfl (bi_add (by omega) (by omega) (by omega)) ?_ -- pc_ 157
            refine sm_T_zald (n := 18848) rfl rfl (by omega) (by omega) ?_
            have bx23_ : 0 ≤ S_.2.2.1 254 0 (4712 * a1_ + p_).toNat ∧ S_.2.2.1 254 0 (4712 * a1_ + p_).toNat ≤ 1 := hI_.2 254 0 _
            refine sm_T_b0 (a := 0) (z := 7) rfl (fun cx24_ => ?_) (fun cx24_ => ?_)
            · have cx24_ : (S_.2.2.1 254 0 (4712 * a1_ + p_).toNat) = 0 := of_decide_eq_true cx24_
              refine sm_T_go 1 (c1 := (167, [some (.inr (.inr (some (13, 0)))), some (.inl a1_), some (.inl a2_), some (.inl a3_), some (.inl (po_ + 1)), some (.inl st_), some (.inl cr), some (.inl p_), some (.inl 0)], [.inl 0, .inl 1, .inl st_], S_)) rfl ?_
              refine sm_T_bin (w := 1) rfl (bi_add (by omega) (by omega) (by omega)) ?_ -- pc_ 167
              refine sm_T_bin (w := st_ + 1) rfl (bi_add (by omega) (by omega) (by omega)) ?_ -- pc_ 168
              refine sm_T_go 3 (c1 := (175, [some (.inr (.inr (some (13, 0)))), some (.inl a1_), some (.inl a2_), some (.inl a3_), some (.inl (po_ + 1)), some (.inl (st_ + 1)), some (.inl cr), some (.inl p_), some (.inl 0)], [.inl 0, .inl cr], S_)) rfl ?_
              refine sm_T_bin (w := cr) rfl (bi_add (by omega) (by omega) (by omega)) ?_ -- pc_ 175
              refine sm_T_go 1 (c1 := (178, [some (.inr (.inr (some (13, 0)))), some (.inl a1_), some (.inl a2_), some (.inl a3_), some (.inl (po_ + 1)), some (.inl (st_ + 1)), some (.inl cr), some (.inl p_), some (.inl 0)], [], S_)) rfl ?_
              refine sm_T_inc (a := 7) (z := 1) (v := p_) (w := p_ + 1) rfl rfl (by omega) (by omega) (by omega) ?_ -- pc_ 178
              refine sm_T_go 1 (c1 := (75, [some (.inr (.inr (some (13, 0)))), some (.inl a1_), some (.inl a2_), some (.inl a3_), some (.inl (po_ + 1)), some (.inl (st_ + 1)), some (.inl cr), some (.inl (p_ + 1)), some (.inl 0)], [], S_)) rfl ?_
              refine sm_T_wk [some (.inr (.inr (some (13, 0)))), some (.inl a1_), some (.inl a2_), some (.inl a3_), some (.inl (po_ + 1)), some (.inl (st_ + 1)), some (.inl cr), some (.inl (p_ + 1)), none] (by exact ⟨rfl, rfl, rfl, rfl, rfl, rfl, rfl, rfl, trivial⟩) ?_
              refine ih_ (po_ + 1) (st_ + 1) cr (p_ + 1) S_ hI_ hF_ ⟨?_, trivial⟩ ?_
              · omega
              · omega
            · have cx24_ : ¬ ((S_.2.2.1 254 0 (4712 * a1_ + p_).toNat) = 0) := of_decide_eq_false cx24_
              refine sm_T_go 2 (c1 := (167, [some (.inr (.inr (some (13, 0)))), some (.inl a1_), some (.inl a2_), some (.inl a3_), some (.inl (po_ + 1)), some (.inl st_), some (.inl cr), some (.inl p_), some (.inl 0)], [.inl 1, .inl 1, .inl st_], S_)) rfl ?_
              refine sm_T_bin (w := 2) rfl (bi_add (by omega) (by omega) (by omega)) ?_ -- pc_ 167
              refine sm_T_bin (w := st_ + 2) rfl (bi_add (by omega) (by omega) (by omega)) ?_ -- pc_ 168
              refine sm_T_go 3 (c1 := (175, [some (.inr (.inr (some (13, 0)))), some (.inl a1_), some (.inl a2_), some (.inl a3_), some (.inl (po_ + 1)), some (.inl (st_ + 2)), some (.inl cr), some (.inl p_), some (.inl 0)], [.inl 0, .inl cr], S_)) rfl ?_
              refine sm_T_bin (w := cr) rfl (bi_add (by omega) (by omega) (by omega)) ?_ -- pc_ 175
              refine sm_T_go 1 (c1 := (178, [some (.inr (.inr (some (13, 0)))), some (.inl a1_), some (.inl a2_), some (.inl a3_), some (.inl (po_ + 1)), some (.inl (st_ + 2)), some (.inl cr), some (.inl p_), some (.inl 0)], [], S_)) rfl ?_
              refine sm_T_inc (a := 7) (z := 1) (v := p_) (w := p_ + 1) rfl rfl (by omega) (by omega) (by omega) ?_ -- pc_ 178
              refine sm_T_go 1 (c1 := (75, [some (.inr (.inr (some (13, 0)))), some (.inl a1_), some (.inl a2_), some (.inl a3_), some (.inl (po_ + 1)), some (.inl (st_ + 2)), some (.inl cr), some (.inl (p_ + 1)), some (.inl 0)], [], S_)) rfl ?_
              refine sm_T_wk [some (.inr (.inr (some (13, 0)))), some (.inl a1_), some (.inl a2_), some (.inl a3_), some (.inl (po_ + 1)), some (.inl (st_ + 2)), some (.inl cr), some (.inl (p_ + 1)), none] (by exact ⟨rfl, rfl, rfl, rfl, rfl, rfl, rfl, rfl, trivial⟩) ?_
              refine ih_ (po_ + 1) (st_ + 2) cr (p_ + 1) S_ hI_ hF_ ⟨?_, trivial⟩ ?_
              · omega
              · omega
        · have cx18_ : ¬ ((S_.2.2.1 255 0 (4712 * a1_ + p_).toNat) = 0) := of_decide_eq_false cx18_
          refine sm_T_go 9 (c1 := (132, [some (.inr (.inr (some (13, 0)))), some (.inl a1_), some (.inl a2_), some (.inl a3_), some (.inl (po_ + 1)), some (.inl st_), some (.inl cr), some (.inl p_), some (.inl 1)], [.inl a1_, .inl 4712, .inr (.inr (some (253, 0))), .inl 1, .inl st_], S_)) rfl ?_
          refine sm_T_bin (w := 4712 * a1_) rfl (bi_mul (by omega) (by omega) (by omega)) ?_ -- pc_ 132
          refine sm_T_go 1 (c1 := (135, [some (.inr (.inr (some (13, 0)))), some (.inl a1_), some (.inl a2_), some (.inl a3_), some (.inl (po_ + 1)), some (.inl st_), some (.inl cr), some (.inl p_), some (.inl 1)], [.inl p_, .inl (4712 * a1_), .inr (.inr (some (253, 0))), .inl 1, .inl st_], S_)) rfl ?_
          refine sm_T_bin (w := 4712 * a1_ + p_) rfl (bi_add (by omega) (by omega) (by omega)) ?_ -- pc_ 135
          refine sm_T_zald (n := 18848) rfl rfl (by omega) (by omega) ?_
          have bx25_ : 0 ≤ S_.2.2.1 253 0 (4712 * a1_ + p_).toNat ∧ S_.2.2.1 253 0 (4712 * a1_ + p_).toNat ≤ 1 := hI_.2 253 0 _
          refine sm_T_b0 (a := 0) (z := 7) rfl (fun cx26_ => ?_) (fun cx26_ => ?_)
          · have cx26_ : (S_.2.2.1 253 0 (4712 * a1_ + p_).toNat) = 0 := of_decide_eq_true cx26_
            refine sm_T_go 1 (c1 := (145, [some (.inr (.inr (some (13, 0)))), some (.inl a1_), some (.inl a2_), some (.inl a3_), some (.inl (po_ + 1)), some (.inl st_), some (.inl cr), some (.inl p_), some (.inl 1)], [.inl 0, .inl 1, .inl st_], S_)) rfl ?_
            refine sm_T_bin (w := 1) rfl (bi_add (by omega) (by omega) (by omega)) ?_ -- pc_ 145
            refine sm_T_go 4 (c1 := (154, [some (.inr (.inr (some (13, 0)))), some (.inl a1_), some (.inl a2_), some (.inl a3_), some (.inl (po_ + 1)), some (.inl st_), some (.inl cr), some (.inl p_), some (.inl 1)], [.inl a1_, .inl 4712, .inr (.inr (some (254, 0))), .inl 1, .inl st_], S_)) rfl ?_
            refine sm_T_bin (w := 4712 * a1_) rfl (bi_mul (by omega) (by omega) (by omega)) ?_ -- pc_ 154
            refine sm_T_go 1 (c1 := (157, [some (.inr (.inr (some (13, 0)))), some (.inl a1_), some (.inl a2_), some (.inl a3_), some (.inl (po_ + 1)), some (.inl st_), some (.inl cr), some (.inl p_), some (.inl 1)], [.inl p_, .inl (4712 * a1_), .inr (.inr (some (254, 0))), .inl 1, .inl st_], S_)) rfl ?_
            refine sm_T_bin (w := 4712 * a1_ + p_) rfl (bi_add (by omega) (by omega) (by omega)) ?_ -- pc_ 157
            refine sm_T_zald (n := 18848) rfl rfl (by omega) (by omega) ?_
            have bx27_ : 0 ≤ S_.2.2.1 254 0 (4712 * a1_ + p_).toNat ∧ S_.2.2.1 254 0 (4712 * a1_ + p_).toNat ≤ 1 := hI_.2 254 0 _
            refine sm_T_b0 (a := 0) (z := 7) rfl (fun cx28_ => ?_) (fun cx28_ => ?_)
            · have cx28_ : (S_.2.2.1 254 0 (4712 * a1_ + p_).toNat) = 0 := of_decide_eq_true cx28_
              refine sm_T_go 1 (c1 := (167, [some (.inr (.inr (some (13, 0)))), some (.inl a1_), some (.inl a2_), some (.inl a3_), some (.inl (po_ + 1)), some (.inl st_), some (.inl cr), some (.inl p_), some (.inl 1)], [.inl 0, .inl 1, .inl st_], S_)) rfl ?_
              refine sm_T_bin (w := 1) rfl (bi_add (by omega) (by omega) (by omega)) ?_ -- pc_ 167
              refine sm_T_bin (w := st_ + 1) rfl (bi_add (by omega) (by omega) (by omega)) ?_ -- pc_ 168
              refine sm_T_go 3 (c1 := (175, [some (.inr (.inr (some (13, 0)))), some (.inl a1_), some (.inl a2_), some (.inl a3_), some (.inl (po_ + 1)), some (.inl (st_ + 1)), some (.inl cr), some (.inl p_), some (.inl 1)], [.inl 1, .inl cr], S_)) rfl ?_
              refine sm_T_bin (w := cr + 1) rfl (bi_add (by omega) (by omega) (by omega)) ?_ -- pc_ 175
              refine sm_T_go 1 (c1 := (178, [some (.inr (.inr (some (13, 0)))), some (.inl a1_), some (.inl a2_), some (.inl a3_), some (.inl (po_ + 1)), some (.inl (st_ + 1)), some (.inl (cr + 1)), some (.inl p_), some (.inl 1)], [], S_)) rfl ?_
              refine sm_T_inc (a := 7) (z := 1) (v := p_) (w := p_ + 1) rfl rfl (by omega) (by omega) (by omega) ?_ -- pc_ 178
              refine sm_T_go 1 (c1 := (75, [some (.inr (.inr (some (13, 0)))), some (.inl a1_), some (.inl a2_), some (.inl a3_), some (.inl (po_ + 1)), some (.inl (st_ + 1)), some (.inl (cr + 1)), some (.inl (p_ + 1)), some (.inl 1)], [], S_)) rfl ?_
              refine sm_T_wk [some (.inr (.inr (some (13, 0)))), some (.inl a1_), some (.inl a2_), some (.inl a3_), some (.inl (po_ + 1)), some (.inl (st_ + 1)), some (.inl (cr + 1)), some (.inl (p_ + 1)), none] (by exact ⟨rfl, rfl, rfl, rfl, rfl, rfl, rfl, rfl, trivial⟩) ?_
              refine ih_ (po_ + 1) (st_ + 1) (cr + 1) (p_ + 1) S_ hI_ hF_ ⟨?_, trivial⟩ ?_
              · omega
              · omega
            · have cx28_ : ¬ ((S_.2.2.1 254 0 (4712 * a1_ + p_).toNat) = 0) := of_decide_eq_false cx28_
              refine sm_T_go 2 (c1 := (167, [some (.inr (.inr (some (13, 0)))), some (.inl a1_), some (.inl a2_), some (.inl a3_), some (.inl (po_ + 1)), some (.inl st_), some (.inl cr), some (.inl p_), some (.inl 1)], [.inl 1, .inl 1, .inl st_], S_)) rfl ?_
              refine sm_T_bin (w := 2) rfl (bi_add (by omega) (by omega) (by omega)) ?_ -- pc_ 167
              refine sm_T_bin (w := st_ + 2) rfl (bi_add (by omega) (by omega) (by omega)) ?_ -- pc_ 168
              refine sm_T_go 3 (c1 := (175, [some (.inr (.inr (some (13, 0)))), some (.inl a1_), some (.inl a2_), some (.inl a3_), some (.inl (po_ + 1)), some (.inl (st_ + 2)), some (.inl cr), some (.inl p_), some (.inl 1)], [.inl 1, .inl cr], S_)) rfl ?_
              refine sm_T_bin (w := cr + 1) rfl (bi_add (by omega) (by omega) (by omega)) ?_ -- pc_ 175
              refine sm_T_go 1 (c1 := (178, [some (.inr (.inr (some (13, 0)))), some (.inl a1_), some (.inl a2_), some (.inl a3_), some (.inl (po_ + 1)), some (.inl (st_ + 2)), some (.inl (cr + 1)), some (.inl p_), some (.inl 1)], [], S_)) rfl ?_
              refine sm_T_inc (a := 7) (z := 1) (v := p_) (w := p_ + 1) rfl rfl (by omega) (by omega) (by omega) ?_ -- pc_ 178
              refine sm_T_go 1 (c1 := (75, [some (.inr (.inr (some (13, 0)))), some (.inl a1_), some (.inl a2_), some (.inl a3_), some (.inl (po_ + 1)), some (.inl (st_ + 2)), some (.inl (cr + 1)), some (.inl (p_ + 1)), some (.inl 1)], [], S_)) rfl ?_
              refine sm_T_wk [some (.inr (.inr (some (13, 0)))), some (.inl a1_), some (.inl a2_), some (.inl a3_), some (.inl (po_ + 1)), some (.inl (st_ + 2)), some (.inl (cr + 1)), some (.inl (p_ + 1)), none] (by exact ⟨rfl, rfl, rfl, rfl, rfl, rfl, rfl, rfl, trivial⟩) ?_
              refine ih_ (po_ + 1) (st_ + 2) (cr + 1) (p_ + 1) S_ hI_ hF_ ⟨?_, trivial⟩ ?_
              · omega
              · omega
          · have cx26_ : ¬ ((S_.2.2.1 253 0 (4712 * a1_ + p_).toNat) = 0) := of_decide_eq_false cx26_
            refine sm_T_go 2 (c1 := (145, [some (.inr (.inr (some (13, 0)))), some (.inl a1_), some (.inl a2_), some (.inl a3_), some (.inl (po_ + 1)), some (.inl st_), some (.inl cr), some (.inl p_), some (.inl 1)], [.inl 1, .inl 1, .inl st_], S_)) rfl ?_
            refine sm_T_bin (w := 2) rfl (bi_add (by omega) (by omega) (by omega)) ?_ -- pc_ 145
            refine sm_T_go 4 (c1 := (154, [some (.inr (.inr (some (13, 0)))), some (.inl a1_), some (.inl a2_), some (.inl a3_), some (.inl (po_ + 1)), some (.inl st_), some (.inl cr), some (.inl p_), some (.inl 1)], [.inl a1_, .inl 4712, .inr (.inr (some (254, 0))), .inl 2, .inl st_], S_)) rfl ?_
            refine sm_T_bin (w := 4712 * a1_) rfl (bi_mul (by omega) (by omega) (by omega)) ?_ -- pc_ 154
            refine sm_T_go 1 (c1 := (157, [some (.inr (.inr (some (13, 0)))), some (.inl a1_), some (.inl a2_), some (.inl a3_), some (.inl (po_ + 1)), some (.inl st_), some (.inl cr), some (.inl p_), some (.inl 1)], [.inl p_, .inl (4712 * a1_), .inr (.inr (some (254, 0))), .inl 2, .inl st_], S_)) rfl ?_
            refine sm_T_bin (w := 4712 * a1_ + p_) rfl (bi_add (by omega) (by omega) (by omega)) ?_ -- pc_ 157
            refine sm_T_zald (n := 18848) rfl rfl (by omega) (by omega) ?_
            have bx29_ : 0 ≤ S_.2.2.1 254 0 (4712 * a1_ + p_).toNat ∧ S_.2.2.1 254 0 (4712 * a1_ + p_).toNat ≤ 1 := hI_.2 254 0 _
            refine sm_T_b0 (a := 0) (z := 7) rfl (fun cx30_ => ?_) (fun cx30_ => ?_)
            · have cx30_ : (S_.2.2.1 254 0 (4712 * a1_ + p_).toNat) = 0 := of_decide_eq_true cx30_
              refine sm_T_go 1 (c1 := (167, [some (.inr (.inr (some (13, 0)))), some (.inl a1_), some (.inl a2_), some (.inl a3_), some (.inl (po_ + 1)), some (.inl st_), some (.inl cr), some (.inl p_), some (.inl 1)], [.inl 0, .inl 2, .inl st_], S_)) rfl ?_
              refine sm_T_bin (w := 2) rfl (bi_add (by omega) (by omega) (by omega)) ?_ -- pc_ 167
              refine sm_T_bin (w := st_ + 2) rfl (bi_add (by omega) (by omega) (by omega)) ?_ -- pc_ 168
              refine sm_T_go 3 (c1 := (175, [some (.inr (.inr (some (13, 0)))), some (.inl a1_), some (.inl a2_), some (.inl a3_), some (.inl (po_ + 1)), some (.inl (st_ + 2)), some (.inl cr), some (.inl p_), some (.inl 1)], [.inl 1, .inl cr], S_)) rfl ?_
              refine sm_T_bin (w := cr + 1) rfl (bi_add (by omega) (by omega) (by omega)) ?_ -- pc_ 175
              refine sm_T_go 1 (c1 := (178, [some (.inr (.inr (some (13, 0)))), some (.inl a1_), some (.inl a2_), some (.inl a3_), some (.inl (po_ + 1)), some (.inl (st_ + 2)), some (.inl (cr + 1)), some (.inl p_), some (.inl 1)], [], S_)) rfl ?_
              refine sm_T_inc (a := 7) (z := 1) (v := p_) (w := p_ + 1) rfl rfl (by omega) (by omega) (by omega) ?_ -- pc_ 178
              refine sm_T_go 1 (c1 := (75, [some (.inr (.inr (some (13, 0)))), some (.inl a1_), some (.inl a2_), some (.inl a3_), some (.inl (po_ + 1)), some (.inl (st_ + 2)), some (.inl (cr + 1)), some (.inl (p_ + 1)), some (.inl 1)], [], S_)) rfl ?_
              refine sm_T_wk [some (.inr (.inr (some (13, 0)))), some (.inl a1_), some (.inl a2_), some (.inl a3_), some (.inl (po_ + 1)), some (.inl (st_ + 2)), some (.inl (cr + 1)), some (.inl (p_ + 1)), none] (by exact ⟨rfl, rfl, rfl, rfl, rfl, rfl, rfl, rfl, trivial⟩) ?_
              refine ih_ (po_ + 1) (st_ + 2) (cr + 1) (p_ + 1) S_ hI_ hF_ ⟨?_, trivial⟩ ?_
              · omega
              · omega
            · have cx30_ : ¬ ((S_.2.2.1 254 0 (4712 * a1_ + p_).toNat) = 0) := of_decide_eq_false cx30_
              refine sm_T_go 2 (c1 := (167, [some (.inr (.inr (some (13, 0)))), some (.inl a1_), some (.inl a2_), some (.inl a3_), some (.inl (po_ + 1)), some (.inl st_), some (.inl cr), some (.inl p_), some (.inl 1)], [.inl 1, .inl 2, .inl st_], S_)) rfl ?_
              refine sm_T_bin (w := 3) rfl (bi_add (by omega) (by omega) (by omega)) ?_ -- pc_ 167
              refine sm_T_bin (w := st_ + 3) rfl (bi_add (by omega) (by omega) (by omega)) ?_ -- pc_ 168
              refine sm_T_go 3 (c1 := (175, [some (.inr (.inr (some (13, 0)))), some (.inl a1_), some (.inl a2_), some (.inl a3_), some (.inl (po_ + 1)), some (.inl (st_ + 3)), some (.inl cr), some (.inl p_), some (.inl 1)], [.inl 1, .inl cr], S_)) rfl ?_
              refine sm_T_bin (w := cr + 1) rfl (bi_add (by omega) (by omega) (by omega)) ?_ -- pc_ 175
              refine sm_T_go 1 (c1 := (178, [some (.inr (.inr (some (13, 0)))), some (.inl a1_), some (.inl a2_), some (.inl a3_), some (.inl (po_ + 1)), some (.inl (st_ + 3)), some (.inl (cr + 1)), some (.inl p_), some (.inl 1)], [], S_)) rfl ?_
              refine sm_T_inc (a := 7) (z := 1) (v := p_) (w := p_ + 1) rfl rfl (by omega) (by omega) (by omega) ?_ -- pc_ 178
              refine sm_T_go 1 (c1 := (75, [some (.inr (.inr (some (13, 0)))), some (.inl a1_), some (.inl a2_), some (.inl a3_), some (.inl (po_ + 1)), some (.inl (st_ + 3)), some (.inl (cr + 1)), some (.inl (p_ + 1)), some (.inl 1)], [], S_)) rfl ?_
              refine sm_T_wk [some (.inr (.inr (some (13, 0)))), some (.inl a1_), some (.inl a2_), some (.inl a3_), some (.inl (po_ + 1)), some (.inl (st_ + 3)), some (.inl (cr + 1)), some (.inl (p_ + 1)), none] (by exact ⟨rfl, rfl, rfl, rfl, rfl, rfl, rfl, rfl, trivial⟩) ?_
              refine ih_ (po_ + 1) (st_ + 3) (cr + 1) (p_ + 1) S_ hI_ hF_ ⟨?_, trivial⟩ ?_
              · omega
              · omega
set_option maxHeartbeats 1000000 in
set_option maxRecDepth 20000 in
theorem vc_468 {sc_ : Nat × (Nat → Int)} (a1_ : Int) (a2_ : Int) (a3_ : Int) (S0_ : sm_S) (hI_ : gi S0_) (ha1_ : (-2147483648) ≤ a1_ ∧ a1_ ≤ 2147483647) (ha2_ : (-2147483648) ≤ a2_ ∧ a2_ ≤ 2147483647) (ha3_ : (-2147483648) ≤ a3_ ∧ a3_ ≤ 2147483647) (hJ_ : jR S0_) : sm_T (mt_P sc_) 4 468 (0, [some (.inr (.inr (some (13, 0)))), some (.inl a1_), some (.inl a2_), some (.inl a3_), none, none, none, none, none], [], S0_) (fun ro9_ => ∃ u_ S1_, ro9_ = (.inl u_, S1_, 0) ∧ vq_468 a1_ a2_ a3_ S0_ u_ S1_) := by
  have hF_ : ai_fr (sx_W vw_468) S0_ S0_ := ai_fr_rf
  refine sm_T_go 4 (c1 := (4, [some (.inr (.inr (some (13, 0)))), some (.inl a1_), some (.inl a2_), some (.inl a3_), none, none, none, none, none], [.inl a2_, .inl a1_, .inr (.inr (some (13, 0))), .inr (.inr (some (13, 0)))], S0_)) rfl ?_
  refine sm_T_cal (d1 := 1) (Q1 := vq_450 a1_ a2_ S0_) rfl rfl (by decide) (vc_450 a1_ a2_ S0_ hI_ (by omega) (by omega)) (fun u_ Sx1_ px4_ => ?_)
  obtain ⟨rfl, vx6_, rfl, px4_⟩ := px4_
  have e4_ := px4_
  refine sm_T_b0 (a := 1) (z := 7) rfl (fun cx7_ => ?_) (fun cx7_ => ?_)
  · have cx7_ : vx6_ ≠ 0 := of_decide_eq_true cx7_
    refine sm_T_go 3 (c1 := (17, [some (.inr (.inr (some (13, 0)))), some (.inl a1_), some (.inl a2_), some (.inl a3_), none, none, none, none, none], [.inl 4, .inl 0, .inl a3_, .inr (.inr (some (13, 0)))], S0_)) rfl ?_
    refine sm_T_cal (d1 := 0) (Q1 := vq_278 a3_ 0 4 S0_) rfl rfl (by decide) (vc_278 a3_ 0 4 S0_ hI_ ) (fun u_ Sx8_ px11_ => ?_)
    obtain ⟨rfl, vx13_, rfl, px11_⟩ := px11_
    refine sm_T_b0 (a := 1) (z := 7) rfl (fun cx14_ => ?_) (fun cx14_ => ?_)
    · have cx14_ : vx13_ ≠ 0 := of_decide_eq_true cx14_
      refine sm_T_go 3 (c1 := (32, [some (.inr (.inr (some (13, 0)))), some (.inl a1_), some (.inl a2_), some (.inl a3_), none, none, none, none, none], [.inl a1_, .inr (.inr (some (251, 0))), .inr (.inr (some (13, 0)))], S0_)) rfl ?_
      refine sm_T_zald (n := 4) rfl rfl (by omega) (by omega) ?_
      have bx15_ : 0 ≤ S0_.2.2.1 251 0 a1_.toNat ∧ S0_.2.2.1 251 0 a1_.toNat ≤ 1 := hI_.2 251 0 _
      refine sm_T_b0 (a := 1) (z := 7) rfl (fun cx16_ => ?_) (fun cx16_ => ?_)
      · have cx16_ : (S0_.2.2.1 251 0 a1_.toNat) ≠ 0 := of_decide_eq_true cx16_
        have K9_ : cRk a1_ S0_ := hJ_.2 a1_ (by omega) (by omega) (by omega)
        obtain ⟨K1_, K2_, K3_, K4_, K5_, K6_, K7_⟩ := K9_
        have c4_ := (K6_ (K7_ (by omega))).1
        have c5_ := K7_ (by omega)
        have hIx17_ : gi (sm_pI S0_ 13 0 0 0) := gi_pI hI_ (show 0 ≤ 0 ∧ 0 ≤ 4 from ⟨by omega, by omega⟩)
        have hFx18_ : ai_fr (sx_W vw_468) S0_ (sm_pI S0_ 13 0 0 0) := ai_fr_tr hF_ (ai_fr_pI rfl)
        refine sm_T_go 7 (c1 := (55, [some (.inr (.inr (some (13, 0)))), some (.inl a1_), some (.inl a2_), some (.inl a3_), none, none, none, none, none], [.inl a1_, .inr (.inr (some (13, 0)))], sm_pI S0_ 13 0 0 0)) rfl ?_
        refine sm_T_cal (d1 := 1) (Q1 := vq_463 a1_ (sm_pI S0_ 13 0 0 0)) rfl rfl (by decide) (vc_463 a1_ (sm_pI S0_ 13 0 0 0) hIx17_ (by omega) (by (show 1 ≤ S0_.2.2.1 240 0 a1_.toNat ∧ 4 ≤ S0_.2.2.1 239 0 a1_.toNat; omega))) (fun u_ Sx19_ px22_ => ?_)
        obtain ⟨rfl, hIx20_, hFx21_, px22_⟩ := px22_
        have hFx23_ : ai_fr (sx_W vw_468) S0_ Sx19_ := ai_fr_tr hFx18_ (fr_le hFx21_ rfl)
        refine sm_T_go 2 (c1 := (60, [some (.inr (.inr (some (13, 0)))), some (.inl a1_), some (.inl a2_), some (.inl a3_), none, none, none, none, none], [.inl a1_, .inr (.inr (some (13, 0)))], Sx19_)) rfl ?_
        refine sm_T_cal (d1 := 3) (Q1 := vq_440 a1_ 300 300 Sx19_) rfl rfl (by decide) (vc_440 a1_ 300 300 Sx19_ hIx20_ (by omega) (by (rw [fr_arr hFx23_ (t := 223) rfl, fr_arr hFx23_ (t := 224) rfl]; exact K1_)) (by exact cgt_fr (by omega) hIx20_ K4_ hFx23_) (by exact con_fr (by omega) hIx20_ K5_ hFx23_) (by exact ple_any hIx20_)) (fun u_ Sx24_ px27_ => ?_)
        obtain ⟨rfl, hIx25_, hFx26_, px27_⟩ := px27_
        have hFx28_ : ai_fr (sx_W vw_468) S0_ Sx24_ := ai_fr_tr hFx23_ (fr_le hFx26_ rfl)
        refine sm_T_go 8 (c1 := (75, [some (.inr (.inr (some (13, 0)))), some (.inl a1_), some (.inl a2_), some (.inl a3_), some (.inl 0), some (.inl 0), some (.inl 0), some (.inl 0), none], [], Sx24_)) rfl ?_
        refine (vl_468 a1_ a2_ a3_ S0_ ha1_ ha2_ ha3_ hJ_ _) 0 0 0 0 Sx24_ hIx25_ hFx28_ ⟨?_, trivial⟩ (Nat.lt_succ_self _)
        · omega
      · have cx16_ : ¬ ((S0_.2.2.1 251 0 a1_.toNat) ≠ 0) := of_decide_eq_false cx16_
        have hIx29_ : gi (sm_pI S0_ 13 0 0 3) := gi_pI hI_ (show 0 ≤ 3 ∧ 3 ≤ 4 from ⟨by omega, by omega⟩)
        have hFx30_ : ai_fr (sx_W vw_468) S0_ (sm_pI S0_ 13 0 0 3) := ai_fr_tr hF_ (ai_fr_pI rfl)
        refine sm_T_go 7 (c1 := (52, [some (.inr (.inr (some (13, 0)))), some (.inl a1_), some (.inl a2_), some (.inl a3_), none, none, none, none, none], [.inl 0], sm_pI S0_ 13 0 0 3)) rfl ?_
        refine sm_T_ri rfl ⟨_, _, rfl, _, rfl, hIx29_, hFx30_, ?_⟩
        exact ⟨⟨by omega, by omega⟩, jR_fr hJ_ hIx29_ hFx30_⟩
    · have cx14_ : ¬ (vx13_ ≠ 0) := of_decide_eq_false cx14_
      have hIx31_ : gi (sm_pI S0_ 13 0 0 2) := gi_pI hI_ (show 0 ≤ 2 ∧ 2 ≤ 4 from ⟨by omega, by omega⟩)
      have hFx32_ : ai_fr (sx_W vw_468) S0_ (sm_pI S0_ 13 0 0 2) := ai_fr_tr hF_ (ai_fr_pI rfl)
      refine sm_T_go 7 (c1 := (52, [some (.inr (.inr (some (13, 0)))), some (.inl a1_), some (.inl a2_), some (.inl a3_), none, none, none, none, none], [.inl 0], sm_pI S0_ 13 0 0 2)) rfl ?_
      refine sm_T_ri rfl ⟨_, _, rfl, _, rfl, hIx31_, hFx32_, ?_⟩
      exact ⟨⟨by omega, by omega⟩, jR_fr hJ_ hIx31_ hFx32_⟩
  · have cx7_ : ¬ (vx6_ ≠ 0) := of_decide_eq_false cx7_
    have hIx33_ : gi (sm_pI S0_ 13 0 0 1) := gi_pI hI_ (show 0 ≤ 1 ∧ 1 ≤ 4 from ⟨by omega, by omega⟩)
    have hFx34_ : ai_fr (sx_W vw_468) S0_ (sm_pI S0_ 13 0 0 1) := ai_fr_tr hF_ (ai_fr_pI rfl)
    refine sm_T_go 7 (c1 := (52, [some (.inr (.inr (some (13, 0)))), some (.inl a1_), some (.inl a2_), some (.inl a3_), none, none, none, none, none], [.inl 0], sm_pI S0_ 13 0 0 1)) rfl ?_
    refine sm_T_ri rfl ⟨_, _, rfl, _, rfl, hIx33_, hFx34_, ?_⟩
    exact ⟨⟨by omega, by omega⟩, jR_fr hJ_ hIx33_ hFx34_⟩
end
