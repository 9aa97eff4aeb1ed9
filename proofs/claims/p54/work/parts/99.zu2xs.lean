/-! the class: a fault worked out; written by wip/p55/gen/vg -/
/-- what was_ ready stays -/
def rdm (cc_ : Nat) (S0_ S_ : sm_S) : Prop := ∀ j_ : Nat, S0_.2.1 9 0 0 = some cc_ → S0_.1 9 0 1 = S0_.1 2 cc_ 19 → S0_.2.2.1 96 0 j_ ≠ 0 → S_.2.2.1 96 0 j_ ≠ 0
theorem rdm_fr {w_ : sx_Wl} {cc_ : Nat} {S0_ S_ S'_ : sm_S} (h_ : rdm cc_ S0_ S_) (f_ : ai_fr (sx_W w_) S_ S'_) (h1_ : (sx_W w_).2.1 96 = false := by rfl) : rdm cc_ S0_ S'_ := fun j_ e8_ e9_ h9_ => by
  rw [fr_arr (t := 96) (i := 0) f_ h1_]
  exact h_ j_ e8_ e9_ h9_
/-! Tester.workFault -/
def vw_174n : sx_Wl := ([(9, 1), (9, 2), (9, 3)], [92, 93, 94, 95, 96], [(9, 0)])
def vq_174n (a2_ : Int) (cc_ : Nat) (S0_ : sm_S) (u_ : Option sm_V) (S1_ : sm_S) : Prop := u_ = none ∧ gi S1_ ∧ ai_fr (sx_W vw_174n) S0_ S1_ ∧ (rdm cc_ S0_ S1_ ∧ (S1_.2.1 9 0 0 = some cc_ ∧ S1_.1 9 0 1 = S0_.1 2 cc_ 19) ∧ shn S1_ ∧ tok9 cc_ S1_ ∧ S1_.2.2.1 96 0 a2_.toNat ≠ 0)
set_option maxHeartbeats 4000000 in
set_option maxRecDepth 20000 in
theorem vl_174n {sc_ : Nat × (Nat → Int)} (a2_ : Int) (cc_ : Nat) (S0_ : sm_S) (hs_ : S0_.1 2 cc_ 1 + S0_.1 2 cc_ 2 ≤ 12) (h2_ : 0 ≤ a2_ ∧ a2_ < cfu9 cc_ S0_) (hn_ : shn S0_) (hp_ : S0_.2.1 9 0 0 = some cc_ → S0_.1 9 0 1 = S0_.1 2 cc_ 19 → tok9 cc_ S0_) (hgo_ : ∀ g9_ : Nat, g9_ < (S0_.1 2 cc_ 8).toNat → gio (S0_.1 2 cc_ 1 + S0_.1 2 cc_ 2).toNat g9_ (kcN cc_ S0_ g9_) (kcA cc_ S0_ g9_)) (hq0_ : 0 ≤ S0_.1 2 cc_ 1 ∧ 0 ≤ S0_.1 2 cc_ 2 ∧ 0 ≤ S0_.1 2 cc_ 8) : ∀ nn_ : Nat, (∀ (y3_ : Int) (ip_ : Int) (g_ : Int) (S_ : sm_S), gi S_ → ai_fr (sx_W vw_174n) S0_ S_ → ((0 ≤ g_ ∧ g_ < S0_.1 2 cc_ 8 ∧ 0 ≤ ip_ ∧ ip_ ≤ 2000) ∧ (ip_ = a2_ / 2 - (S0_.1 2 cc_ 1 + S0_.1 2 cc_ 2 + S0_.1 2 cc_ 8) - ((sn9 (cgs cc_ S0_) g_.toNat : Nat) : Int) ∧ (S0_.1 2 cc_ 1 + S0_.1 2 cc_ 2 + S0_.1 2 cc_ 8) ≤ a2_ / 2) ∧ (ip_ + ((sn9 (cgs cc_ S0_) g_.toNat : Nat) : Int) < ((sn9 (cgs cc_ S0_) (S0_.1 2 cc_ 8).toNat : Nat) : Int)) ∧ (tch0 S_) ∧ (∀ i9_ : Nat, i9_ < 64 → lbt y3_ i9_ = decide (a2_ % 2 = 1)) ∧ (bas9 cc_ a2_ S0_ S_) ∧ (shn S_) ∧ (rdm cc_ S0_ S_) ∧ True) → ((90000 - g_).toNat) < nn_ → sm_T (mt_P sc_) 4 174 (121, [some (.inr (.inr (some (9, 0)))), some (.inr (.inr (some (2, cc_)))), some (.inl a2_), some (.inr (.inl y3_)), none, none, some (.inl ip_), some (.inl g_), none], [], S_) (fun ro9_ => ∃ u_ S1_, ro9_ = (.inl u_, S1_, 0) ∧ vq_174n a2_ cc_ S0_ u_ S1_)) ∧ (∀ (y3_ : Int) (fm_ : Int) (g_ : Int) (S_ : sm_S), gi S_ → ai_fr (sx_W vw_174n) S0_ S_ → ((0 ≤ g_ ∧ g_ ≤ S0_.1 2 cc_ 8) ∧ (fwz cc_ a2_ S0_ S_ g_.toNat) ∧ (bas9 cc_ a2_ S0_ S_) ∧ (shn S_) ∧ (rdm cc_ S0_ S_) ∧ True) → ((100 * (200 - g_) + 90).toNat) < nn_ → sm_T (mt_P sc_) 4 174 (199, [some (.inr (.inr (some (9, 0)))), some (.inr (.inr (some (2, cc_)))), some (.inl a2_), some (.inr (.inl y3_)), none, some (.inl fm_), some (.inl g_), none, none], [], S_) (fun ro9_ => ∃ u_ S1_, ro9_ = (.inl u_, S1_, 0) ∧ vq_174n a2_ cc_ S0_ u_ S1_)) ∧ (∀ (y3_ : Int) (fm_ : Int) (g_ : Int) (rc_ : Int) (k_ : Int) (S_ : sm_S), gi S_ → ai_fr (sx_W vw_174n) S0_ S_ → ((0 ≤ g_ ∧ g_ < S0_.1 2 cc_ 8 ∧ 0 ≤ rc_ ∧ rc_ ≤ 1 ∧ 0 ≤ k_ ∧ k_ ≤ 3) ∧ (fwz cc_ a2_ S0_ S_ g_.toNat) ∧ (rc_ = 0 → ∀ k9_ : Nat, (k9_ : Int) < k_ → S_.2.2.1 94 0 (kcA cc_ S0_ g_.toNat k9_).toNat = 0) ∧ (bas9 cc_ a2_ S0_ S_) ∧ (shn S_) ∧ (rdm cc_ S0_ S_) ∧ True) → ((100 * (200 - g_) + 80 - k_).toNat) < nn_ → sm_T (mt_P sc_) 4 174 (214, [some (.inr (.inr (some (9, 0)))), some (.inr (.inr (some (2, cc_)))), some (.inl a2_), some (.inr (.inl y3_)), none, some (.inl fm_), some (.inl g_), some (.inl rc_), some (.inl k_)], [], S_) (fun ro9_ => ∃ u_ S1_, ro9_ = (.inl u_, S1_, 0) ∧ vq_174n a2_ cc_ S0_ u_ S1_)) := by
  intro nn_
  induction nn_ with
  | zero => exact ⟨fun _ _ _ _ _ _ _ h_ => absurd h_ (Nat.not_lt_zero _), fun _ _ _ _ _ _ _ h_ => absurd h_ (Nat.not_lt_zero _), fun _ _ _ _ _ _ _ _ _ h_ => absurd h_ (Nat.not_lt_zero _)⟩
  | succ nn_ ih_ =>
    refine ⟨?_, ?_, ?_⟩
    · rintro y3_ ip_ g_ S_ hI_ hF_ ⟨h0_, hip_, hlt_, ht_, hy_, hbs_, hn1_, hrk_, -⟩ hm_
      have z1_ : S_.1 2 cc_ 1 = S0_.1 2 cc_ 1 := hF_.1 2 cc_ 1 rfl
      have z2_ : S_.1 2 cc_ 2 = S0_.1 2 cc_ 2 := hF_.1 2 cc_ 2 rfl
      have cw : 0 ≤ S_.1 9 0 2 ∧ S_.1 9 0 2 ≤ 64 := hI_.1 9 0 2 rfl
      have cg9_ : 0 ≤ S_.1 2 cc_ 8 ∧ S_.1 2 cc_ 8 ≤ 150 := hI_.1 2 cc_ 8 rfl
      have cq1_ : 0 ≤ S_.1 2 cc_ 1 ∧ S_.1 2 cc_ 1 ≤ 12 := hI_.1 2 cc_ 1 rfl
      have cq2_ : 0 ≤ S_.1 2 cc_ 2 ∧ S_.1 2 cc_ 2 ≤ 6 := hI_.1 2 cc_ 2 rfl
      have z8_ : S_.1 2 cc_ 8 = S0_.1 2 cc_ 8 := hF_.1 2 cc_ 8 rfl
      have c10_ : 0 ≤ S0_.1 2 cc_ 1 := by omega
      have c20_ : 0 ≤ S0_.1 2 cc_ 2 := by omega
      have hck_ := hbs_.1.1
      have kx9_ := kcX_fr (cc_ := cc_) hF_
      have kv9_ := kcv_q hbs_.2.1 hF_
      have s9_ := sn9_s (cgs cc_ S0_) g_.toNat
      have T9_ : (g_ + 1).toNat = g_.toNat + 1 := by omega
      have f36_ : S_.2.2.1 36 (0 + cc_) = S0_.2.2.1 36 (0 + cc_) := fr_arr hF_ rfl
      have cg39_ : cgs cc_ S0_ g_.toNat ≤ 3 := by (unfold cgs; rw [← kx9_.2.1]; unfold kcN; have q9_ : S_.2.2.1 55 (0 + (3 + cc_)) (S_.2.2.1 35 (0 + cc_) g_.toNat).toNat ≤ 3 := (hI_.2 55 (0 + (3 + cc_)) _).2; omega)
      have fq9_ := cfu_q9 hI_ (show S_.1 2 cc_ 1 + S_.1 2 cc_ 2 ≤ 12 by omega)
      rw [(cfu_fr (cc_ := cc_) hF_).1] at fq9_
      have bx1_ : 0 ≤ S_.1 2 cc_ 8 ∧ S_.1 2 cc_ 8 ≤ 150 := hI_.1 2 cc_ 8 rfl
      refine sm_T_go 4 (c1 := (128, [some (.inr (.inr (some (9, 0)))), some (.inr (.inr (some (2, cc_)))), some (.inl a2_), some (.inr (.inl y3_)), none, none, some (.inl ip_), some (.inl g_), none], [.inl 1, .inl (S_.1 2 cc_ 8), .inl g_], S_)) rfl ?_
      refine sm_T_bin (w := (S_.1 2 cc_ 8) - 1) rfl (bi_sub (by omega) (by omega) (by omega)) ?_ -- pc_ 128
      refine sm_T_br (a := 3) (z := 31) rfl (fun cx2_ => ?_) (fun cx2_ => ?_)
      · have cx2_ : (S_.1 2 cc_ 8) - 1 ≤ g_ := of_decide_eq_true cx2_
        have l129_ : ip_ < ((cgs cc_ S0_ g_.toNat : Nat) : Int) := by (have y9_ := hlt_; rw [show (S0_.1 2 cc_ 8).toNat = g_.toNat + 1 by omega, s9_] at y9_; push_cast at y9_; omega)
        refine sm_T_go 3 (c1 := (165, [some (.inr (.inr (some (9, 0)))), some (.inr (.inr (some (2, cc_)))), some (.inl a2_), some (.inr (.inl y3_)), none, none, some (.inl ip_), some (.inl g_), none], [.inr (.inr (some (2, cc_))), .inr (.inr (some (94, 0)))], S_)) rfl ?_
        refine sm_T_cal (d1 := 0) (Q1 := vq_54 cc_ S_) rfl rfl (by decide) (vc_54 cc_ S_ hI_ ) (fun u_ Sx3_ px6_ => ?_)
        obtain ⟨rfl, vx8_, rfl, px6_⟩ := px6_
        have m165_ := px6_
        refine sm_T_go 1 (c1 := (170, [some (.inr (.inr (some (9, 0)))), some (.inr (.inr (some (2, cc_)))), some (.inl a2_), some (.inr (.inl y3_)), none, none, some (.inl ip_), some (.inl g_), none], [.inl g_, .inl vx8_, .inr (.inr (some (94, 0)))], S_)) rfl ?_
        refine sm_T_bin (w := vx8_ + g_) rfl (bi_add (by omega) (by omega) (by omega)) ?_ -- pc_ 170
        refine sm_T_go 4 (c1 := (177, [some (.inr (.inr (some (9, 0)))), some (.inr (.inr (some (2, cc_)))), some (.inl a2_), some (.inr (.inl y3_)), none, none, some (.inl ip_), some (.inl g_), none], [.inr (.inl y3_), .inl ip_, .inl g_, .inr (.inr (some (9, 0))), .inl (vx8_ + g_), .inr (.inr (some (94, 0)))], S_)) rfl ?_
        refine sm_T_cal (d1 := 2) (Q1 := vq_173f g_ ip_ y3_ cc_ S_) rfl rfl (by decide) (vc_173f g_ ip_ y3_ cc_ S_ hI_ (by exact hck_) (by omega) (by omega) (by omega) (by (rw [kx9_.2.1, kx9_.2.2, z1_, z2_]; exact hgo_ g_.toNat (by omega)))) (fun u_ Sx9_ px12_ => ?_)
        obtain ⟨vx14_, rfl, hIx10_, hFx11_, px12_⟩ := px12_
        have hFx13_ : ai_fr (sx_W vw_174n) S0_ Sx9_ := ai_fr_tr hF_ (fr_le hFx11_ rfl)
        have ex15_ : Sx9_.1 2 cc_ 8 = S_.1 2 cc_ 8 := hFx11_.1 2 cc_ 8 rfl
        have p177_ := px12_
        rw [kx9_.1, kx9_.2.1, kx9_.2.2, z1_, z2_] at p177_
        have b177_ := bas_fr hbs_ hFx11_ (by omega)
        have n177_ := shn_fr hn1_ hFx11_
        have u1177_ := hFx11_.1 2 cc_ 1 rfl
        have u2177_ := hFx11_.1 2 cc_ 2 rfl
        have y2177_ := hFx11_.1 9 0 2 rfl
        have y3177_ := hFx11_.1 9 0 3 rfl
        have g94177_ : Sx9_.2.2.1 94 0 = S_.2.2.1 94 0 := fr_arr hFx11_ rfl
        have g92177_ : Sx9_.2.2.2 92 0 = S_.2.2.2 92 0 := fr_lon (t_ := 92) (i_ := 0) hFx11_ rfl
        have r177_ := rdm_fr hrk_ hFx11_
        have F177_ : ∀ (J9_ : Nat) (V9_ : Int), J9_ = (S0_.1 2 cc_ 1 + S0_.1 2 cc_ 2).toNat + g_.toNat → (V9_ ≠ 0 ∨ (V9_ = 0 ∧ vx14_ = 0)) → fwz cc_ a2_ S0_ (sm_aI Sx9_ 94 0 J9_ V9_) (g_ + 1).toNat := by
          intro J9_ V9_ hJ9_ hV9_
          rw [T9_]
          refine ⟨-1, 3 * g_ + ip_, Or.inr ⟨by (unfold cnc; omega), rfl, g_.toNat, by omega, by (unfold cnc; omega), by (unfold cnc; rw [s9_]; push_cast; omega), by (unfold cnc; omega)⟩, by omega, by omega, ?_⟩
          have F9_ := fw9_g (T_ := kcT cc_ S0_) (m_ := kcN cc_ S0_) (a_ := kcA cc_ S0_) (st_ := -1) (pn_ := 3 * g_ + ip_) (k_ := ip_) (y_ := y3_) (b_ := decide (a2_ % 2 = 1)) (W_ := S_.1 9 0 2) (mk_ := S_.1 9 0 3) (t_ := S_.2.2.1 94 0) (B_ := S_.2.2.2 93 0) (R_ := S_.2.2.2 92 0) (t'_ := (sm_aI Sx9_ 94 0 J9_ V9_).2.2.1 94 0) (B'_ := Sx9_.2.2.2 93 0) (fw9_0 (g_ := g_.toNat) (G_ := (S0_.1 2 cc_ 8).toNat) (by omega) ht_ (show (S0_.1 2 cc_ 1 + S0_.1 2 cc_ 2).toNat + (S0_.1 2 cc_ 8).toNat ≤ 162 by omega) kv9_.2 (Or.inl (by omega)) (Or.inr (by omega))) kv9_.1 (G_ := (S0_.1 2 cc_ 8).toNat) (by omega) (show (S0_.1 2 cc_ 1 + S0_.1 2 cc_ 2).toNat + (S0_.1 2 cc_ 8).toNat ≤ 162 by omega) (by omega) (Or.inl (by omega)) (fun i9_ hi9_ => Or.inl (hy_ i9_ hi9_)) p177_.2.2.2 p177_.2.1 (fun n9_ hn9_ => by (rw [rd_eq, if_neg (by omega), g94177_])) (by (rw [rd_eq, if_pos hJ9_.symm]; rcases hV9_ with q9_ | ⟨q9_, q8_⟩; exact Or.inl q9_; exact Or.inr ⟨q9_, p177_.2.2.1 q8_⟩))
          rw [← y2177_, ← y3177_, ← g92177_] at F9_
          exact F9_
        refine sm_T_b0 (a := 0) (z := 7) rfl (fun cx16_ => ?_) (fun cx16_ => ?_)
        · have cx16_ : vx14_ = 0 := of_decide_eq_true cx16_
          refine sm_T_go 1 (c1 := (188, [some (.inr (.inr (some (9, 0)))), some (.inr (.inr (some (2, cc_)))), some (.inl a2_), some (.inr (.inl y3_)), none, none, some (.inl ip_), some (.inl g_), none], [.inl 0, .inl (vx8_ + g_), .inr (.inr (some (94, 0)))], Sx9_)) rfl ?_
          refine sm_T_iast (n := 162) rfl rfl (by omega) (by omega) ?_
          have hIx17_ : gi (sm_aI Sx9_ 94 0 (vx8_ + g_).toNat 0) := gi_aI hIx10_ (show 0 ≤ 0 ∧ 0 ≤ 1 from ⟨by omega, by omega⟩)
          have hFx18_ : ai_fr (sx_W vw_174n) S0_ (sm_aI Sx9_ 94 0 (vx8_ + g_).toNat 0) := ai_fr_tr hFx13_ (ai_fr_aI rfl)
          refine sm_T_go 2 (c1 := (192, [some (.inr (.inr (some (9, 0)))), some (.inr (.inr (some (2, cc_)))), some (.inl a2_), some (.inr (.inl y3_)), none, none, some (.inl ip_), some (.inl g_), none], [.inl 1, .inl g_], sm_aI Sx9_ 94 0 (vx8_ + g_).toNat 0)) rfl ?_
          refine sm_T_bin (w := g_ + 1) rfl (bi_add (by omega) (by omega) (by omega)) ?_ -- pc_ 192
          refine sm_T_go 3 (c1 := (199, [some (.inr (.inr (some (9, 0)))), some (.inr (.inr (some (2, cc_)))), some (.inl a2_), some (.inr (.inl y3_)), none, some (.inl (g_ + 1)), some (.inl (g_ + 1)), some (.inl g_), none], [], sm_aI Sx9_ 94 0 (vx8_ + g_).toNat 0)) rfl ?_
          refine sm_T_wk [some (.inr (.inr (some (9, 0)))), some (.inr (.inr (some (2, cc_)))), some (.inl a2_), some (.inr (.inl y3_)), none, some (.inl (g_ + 1)), some (.inl (g_ + 1)), none, none] (by exact ⟨rfl, rfl, rfl, rfl, rfl, rfl, trivial⟩) ?_
          refine ih_.2.1 y3_ (g_ + 1) (g_ + 1) (sm_aI Sx9_ 94 0 (vx8_ + g_).toNat 0) hIx17_ hFx18_ ⟨?_, ?_, ?_, ?_, ?_, trivial⟩ ?_
          · omega
          · first | exact F177_ _ _ (by omega) (Or.inr ⟨rfl, by assumption⟩) | exact F177_ _ _ (by omega) (Or.inl (by decide))
          · exact bas_fr (w_ := ([], [94], [])) b177_ (ai_fr_aI rfl) (by omega)
          · exact n177_
          · exact rdm_fr (w_ := ([], [94], [])) r177_ (ai_fr_aI rfl)
          · omega
        · have cx16_ : ¬ (vx14_ = 0) := of_decide_eq_false cx16_
          refine sm_T_go 2 (c1 := (188, [some (.inr (.inr (some (9, 0)))), some (.inr (.inr (some (2, cc_)))), some (.inl a2_), some (.inr (.inl y3_)), none, none, some (.inl ip_), some (.inl g_), none], [.inl 1, .inl (vx8_ + g_), .inr (.inr (some (94, 0)))], Sx9_)) rfl ?_
          refine sm_T_iast (n := 162) rfl rfl (by omega) (by omega) ?_
          have hIx19_ : gi (sm_aI Sx9_ 94 0 (vx8_ + g_).toNat 1) := gi_aI hIx10_ (show 0 ≤ 1 ∧ 1 ≤ 1 from ⟨by omega, by omega⟩)
          have hFx20_ : ai_fr (sx_W vw_174n) S0_ (sm_aI Sx9_ 94 0 (vx8_ + g_).toNat 1) := ai_fr_tr hFx13_ (ai_fr_aI rfl)
          refine sm_T_go 2 (c1 := (192, [some (.inr (.inr (some (9, 0)))), some (.inr (.inr (some (2, cc_)))), some (.inl a2_), some (.inr (.inl y3_)), none, none, some (.inl ip_), some (.inl g_), none], [.inl 1, .inl g_], sm_aI Sx9_ 94 0 (vx8_ + g_).toNat 1)) rfl ?_
          refine sm_T_bin (w := g_ + 1) rfl (bi_add (by omega) (by omega) (by omega)) ?_ -- pc_ 192
          refine sm_T_go 3 (c1 := (199, [some (.inr (.inr (some (9, 0)))), some (.inr (.inr (some (2, cc_)))), some (.inl a2_), some (.inr (.inl y3_)), none, some (.inl (g_ + 1)), some (.inl (g_ + 1)), some (.inl g_), none], [], sm_aI Sx9_ 94 0 (vx8_ + g_).toNat 1)) rfl ?_
          refine sm_T_wk [some (.inr (.inr (some (9, 0)))), some (.inr (.inr (some (2, cc_)))), some (.inl a2_), some (.inr (.inl y3_)), none, some (.inl (g_ + 1)), some (.inl (g_ + 1)), none, none] (by exact ⟨rfl, rfl, rfl, rfl, rfl, rfl, trivial⟩) ?_
          refine ih_.2.1 y3_ (g_ + 1) (g_ + 1) (sm_aI Sx9_ 94 0 (vx8_ + g_).toNat 1) hIx19_ hFx20_ ⟨?_, ?_, ?_, ?_, ?_, trivial⟩ ?_
          · omega
          · first | exact F177_ _ _ (by omega) (Or.inr ⟨rfl, by assumption⟩) | exact F177_ _ _ (by omega) (Or.inl (by decide))
          · exact bas_fr (w_ := ([], [94], [])) b177_ (ai_fr_aI rfl) (by omega)
          · exact n177_
          · exact rdm_fr (w_ := ([], [94], [])) r177_ (ai_fr_aI rfl)
          · omega
      · have cx2_ : ¬ ((S_.1 2 cc_ 8) - 1 ≤ g_) := of_decide_eq_false cx2_
        refine sm_T_go 3 (c1 := (137, [some (.inr (.inr (some (9, 0)))), some (.inr (.inr (some (2, cc_)))), some (.inl a2_), some (.inr (.inl y3_)), none, none, some (.inl ip_), some (.inl g_), none], [.inl g_, .inr (.inr (some (2, cc_))), .inl ip_], S_)) rfl ?_
        refine sm_T_cal (d1 := 0) (Q1 := vq_59 g_ cc_ S_) rfl rfl (by decide) (vc_59 g_ cc_ S_ hI_ (by omega)) (fun u_ Sx21_ px24_ => ?_)
        obtain ⟨rfl, vx26_, rfl, px24_⟩ := px24_
        have c137_ : vx26_ = ((cgs cc_ S0_ g_.toNat : Nat) : Int) ∧ vx26_ = kcN cc_ S0_ g_.toNat := by (have y9_ := px24_; have x9_ : kcN cc_ S_ g_.toNat = kcN cc_ S0_ g_.toNat := (by rw [kx9_.2.1]); unfold cgs; rw [← x9_]; unfold kcN; have w9_ : 0 ≤ S_.2.2.1 55 (0 + (3 + cc_)) (S_.2.2.1 35 (0 + cc_) g_.toNat).toNat := (hI_.2 55 (0 + (3 + cc_)) _).1; omega)
        refine sm_T_br (a := 2) (z := 20) rfl (fun cx27_ => ?_) (fun cx27_ => ?_)
        · have cx27_ : ip_ < vx26_ := of_decide_eq_true cx27_
          have l129_ : ip_ < ((cgs cc_ S0_ g_.toNat : Nat) : Int) := by omega
          refine sm_T_go 3 (c1 := (165, [some (.inr (.inr (some (9, 0)))), some (.inr (.inr (some (2, cc_)))), some (.inl a2_), some (.inr (.inl y3_)), none, none, some (.inl ip_), some (.inl g_), none], [.inr (.inr (some (2, cc_))), .inr (.inr (some (94, 0)))], S_)) rfl ?_
          refine sm_T_cal (d1 := 0) (Q1 := vq_54 cc_ S_) rfl rfl (by decide) (vc_54 cc_ S_ hI_ ) (fun u_ Sx28_ px31_ => ?_)
          obtain ⟨rfl, vx33_, rfl, px31_⟩ := px31_
          have m165_ := px31_
          refine sm_T_go 1 (c1 := (170, [some (.inr (.inr (some (9, 0)))), some (.inr (.inr (some (2, cc_)))), some (.inl a2_), some (.inr (.inl y3_)), none, none, some (.inl ip_), some (.inl g_), none], [.inl g_, .inl vx33_, .inr (.inr (some (94, 0)))], S_)) rfl ?_
          refine sm_T_bin (w := vx33_ + g_) rfl (bi_add (by omega) (by omega) (by omega)) ?_ -- pc_ 170
          refine sm_T_go 4 (c1 := (177, [some (.inr (.inr (some (9, 0)))), some (.inr (.inr (some (2, cc_)))), some (.inl a2_), some (.inr (.inl y3_)), none, none, some (.inl ip_), some (.inl g_), none], [.inr (.inl y3_), .inl ip_, .inl g_, .inr (.inr (some (9, 0))), .inl (vx33_ + g_), .inr (.inr (some (94, 0)))], S_)) rfl ?_
          refine sm_T_cal (d1 := 2) (Q1 := vq_173f g_ ip_ y3_ cc_ S_) rfl rfl (by decide) (vc_173f g_ ip_ y3_ cc_ S_ hI_ (by exact hck_) (by omega) (by omega) (by omega) (by (rw [kx9_.2.1, kx9_.2.2, z1_, z2_]; exact hgo_ g_.toNat (by omega)))) (fun u_ Sx34_ px37_ => ?_)
          obtain ⟨vx39_, rfl, hIx35_, hFx36_, px37_⟩ := px37_
          have hFx38_ : ai_fr (sx_W vw_174n) S0_ Sx34_ := ai_fr_tr hF_ (fr_le hFx36_ rfl)
          have ex40_ : Sx34_.1 2 cc_ 8 = S_.1 2 cc_ 8 := hFx36_.1 2 cc_ 8 rfl
          have p177_ := px37_
          rw [kx9_.1, kx9_.2.1, kx9_.2.2, z1_, z2_] at p177_
          have b177_ := bas_fr hbs_ hFx36_ (by omega)
          have n177_ := shn_fr hn1_ hFx36_
          have u1177_ := hFx36_.1 2 cc_ 1 rfl
          have u2177_ := hFx36_.1 2 cc_ 2 rfl
          have y2177_ := hFx36_.1 9 0 2 rfl
          have y3177_ := hFx36_.1 9 0 3 rfl
          have g94177_ : Sx34_.2.2.1 94 0 = S_.2.2.1 94 0 := fr_arr hFx36_ rfl
          have g92177_ : Sx34_.2.2.2 92 0 = S_.2.2.2 92 0 := fr_lon (t_ := 92) (i_ := 0) hFx36_ rfl
          have r177_ := rdm_fr hrk_ hFx36_
          have F177_ : ∀ (J9_ : Nat) (V9_ : Int), J9_ = (S0_.1 2 cc_ 1 + S0_.1 2 cc_ 2).toNat + g_.toNat → (V9_ ≠ 0 ∨ (V9_ = 0 ∧ vx39_ = 0)) → fwz cc_ a2_ S0_ (sm_aI Sx34_ 94 0 J9_ V9_) (g_ + 1).toNat := by
            intro J9_ V9_ hJ9_ hV9_
            rw [T9_]
            refine ⟨-1, 3 * g_ + ip_, Or.inr ⟨by (unfold cnc; omega), rfl, g_.toNat, by omega, by (unfold cnc; omega), by (unfold cnc; rw [s9_]; push_cast; omega), by (unfold cnc; omega)⟩, by omega, by omega, ?_⟩
            have F9_ := fw9_g (T_ := kcT cc_ S0_) (m_ := kcN cc_ S0_) (a_ := kcA cc_ S0_) (st_ := -1) (pn_ := 3 * g_ + ip_) (k_ := ip_) (y_ := y3_) (b_ := decide (a2_ % 2 = 1)) (W_ := S_.1 9 0 2) (mk_ := S_.1 9 0 3) (t_ := S_.2.2.1 94 0) (B_ := S_.2.2.2 93 0) (R_ := S_.2.2.2 92 0) (t'_ := (sm_aI Sx34_ 94 0 J9_ V9_).2.2.1 94 0) (B'_ := Sx34_.2.2.2 93 0) (fw9_0 (g_ := g_.toNat) (G_ := (S0_.1 2 cc_ 8).toNat) (by omega) ht_ (show (S0_.1 2 cc_ 1 + S0_.1 2 cc_ 2).toNat + (S0_.1 2 cc_ 8).toNat ≤ 162 by omega) kv9_.2 (Or.inl (by omega)) (Or.inr (by omega))) kv9_.1 (G_ := (S0_.1 2 cc_ 8).toNat) (by omega) (show (S0_.1 2 cc_ 1 + S0_.1 2 cc_ 2).toNat + (S0_.1 2 cc_ 8).toNat ≤ 162 by omega) (by omega) (Or.inl (by omega)) (fun i9_ hi9_ => Or.inl (hy_ i9_ hi9_)) p177_.2.2.2 p177_.2.1 (fun n9_ hn9_ => by (rw [rd_eq, if_neg (by omega), g94177_])) (by (rw [rd_eq, if_pos hJ9_.symm]; rcases hV9_ with q9_ | ⟨q9_, q8_⟩; exact Or.inl q9_; exact Or.inr ⟨q9_, p177_.2.2.1 q8_⟩))
            rw [← y2177_, ← y3177_, ← g92177_] at F9_
            exact F9_
          refine sm_T_b0 (a := 0) (z := 7) rfl (fun cx41_ => ?_) (fun cx41_ => ?_)
          · have cx41_ : vx39_ = 0 := of_decide_eq_true cx41_
            refine sm_T_go 1 (c1 := (188, [some (.inr (.inr (some (9, 0)))), some (.inr (.inr (some (2, cc_)))), some (.inl a2_), some (.inr (.inl y3_)), none, none, some (.inl ip_), some (.inl g_), none], [.inl 0, .inl (vx33_ + g_), .inr (.inr (some (94, 0)))], Sx34_)) rfl ?_
            refine sm_T_iast (n := 162) rfl rfl (by omega) (by omega) ?_
            have hIx42_ : gi (sm_aI Sx34_ 94 0 (vx33_ + g_).toNat 0) := gi_aI hIx35_ (show 0 ≤ 0 ∧ 0 ≤ 1 from ⟨by omega, by omega⟩)
            have hFx43_ : ai_fr (sx_W vw_174n) S0_ (sm_aI Sx34_ 94 0 (vx33_ + g_).toNat 0) := ai_fr_tr hFx38_ (ai_fr_aI rfl)
            refine sm_T_go 2 (c1 := (192, [some (.inr (.inr (some (9, 0)))), some (.inr (.inr (some (2, cc_)))), some (.inl a2_), some (.inr (.inl y3_)), none, none, some (.inl ip_), some (.inl g_), none], [.inl 1, .inl g_], sm_aI Sx34_ 94 0 (vx33_ + g_).toNat 0)) rfl ?_
            refine sm_T_bin (w := g_ + 1) rfl (bi_add (by omega) (by omega) (by omega)) ?_ -- pc_ 192
            refine sm_T_go 3 (c1 := (199, [some (.inr (.inr (some (9, 0)))), some (.inr (.inr (some (2, cc_)))), some (.inl a2_), some (.inr (.inl y3_)), none, some (.inl (g_ + 1)), some (.inl (g_ + 1)), some (.inl g_), none], [], sm_aI Sx34_ 94 0 (vx33_ + g_).toNat 0)) rfl ?_
            refine sm_T_wk [some (.inr (.inr (some (9, 0)))), some (.inr (.inr (some (2, cc_)))), some (.inl a2_), some (.inr (.inl y3_)), none, some (.inl (g_ + 1)), some (.inl (g_ + 1)), none, none] (by exact ⟨rfl, rfl, rfl, rfl, rfl, rfl, trivial⟩) ?_
            refine ih_.2.1 y3_ (g_ + 1) (g_ + 1) (sm_aI Sx34_ 94 0 (vx33_ + g_).toNat 0) hIx42_ hFx43_ ⟨?_, ?_, ?_, ?_, ?_, trivial⟩ ?_
            · omega
            · first | exact F177_ _ _ (by omega) (Or.inr ⟨rfl, by assumption⟩) | exact F177_ _ _ (by omega) (Or.inl (by decide))
            · exact bas_fr (w_ := ([], [94], [])) b177_ (ai_fr_aI rfl) (by omega)
            · exact n177_
            · exact rdm_fr (w_ := ([], [94], [])) r177_ (ai_fr_aI rfl)
            · omega
          · have cx41_ : ¬ (vx39_ = 0) := of_decide_eq_false cx41_
            refine sm_T_go 2 (c1 := (188, [some (.inr (.inr (some (9, 0)))), some (.inr (.inr (some (2, cc_)))), some (.inl a2_), some (.inr (.inl y3_)), none, none, some (.inl ip_), some (.inl g_), none], [.inl 1, .inl (vx33_ + g_), .inr (.inr (some (94, 0)))], Sx34_)) rfl ?_
            refine sm_T_iast (n := 162) rfl rfl (by omega) (by omega) ?_
            have hIx44_ : gi (sm_aI Sx34_ 94 0 (vx33_ + g_).toNat 1) := gi_aI hIx35_ (show 0 ≤ 1 ∧ 1 ≤ 1 from ⟨by omega, by omega⟩)
            have hFx45_ : ai_fr (sx_W vw_174n) S0_ (sm_aI Sx34_ 94 0 (vx33_ + g_).toNat 1) := ai_fr_tr hFx38_ (ai_fr_aI rfl)
            refine sm_T_go 2 (c1 := (192, [some (.inr (.inr (some (9, 0)))), some (.inr (.inr (some (2, cc_)))), some (.inl a2_), some (.inr (.inl y3_)), none, none, some (.inl ip_), some (.inl g_), none], [.inl 1, .inl g_], sm_aI Sx34_ 94 0 (vx33_ + g_).toNat 1)) rfl ?_
            refine sm_T_bin (w := g_ + 1) rfl (bi_add (by omega) (by omega) (by omega)) ?_ -- pc_ 192
            refine sm_T_go 3 (c1 := (199, [some (.inr (.inr (some (9, 0)))), some (.inr (.inr (some (2, cc_)))), some (.inl a2_), some (.inr (.inl y3_)), none, some (.inl (g_ + 1)), some (.inl (g_ + 1)), some (.inl g_), none], [], sm_aI Sx34_ 94 0 (vx33_ + g_).toNat 1)) rfl ?_
            refine sm_T_wk [some (.inr (.inr (some (9, 0)))), some (.inr (.inr (some (2, cc_)))), some (.inl a2_), some (.inr (.inl y3_)), none, some (.inl (g_ + 1)), some (.inl (g_ + 1)), none, none] (by exact ⟨rfl, rfl, rfl, rfl, rfl, rfl, trivial⟩) ?_
            refine ih_.2.1 y3_ (g_ + 1) (g_ + 1) (sm_aI Sx34_ 94 0 (vx33_ + g_).toNat 1) hIx44_ hFx45_ ⟨?_, ?_, ?_, ?_, ?_, trivial⟩ ?_
            · omega
            · first | exact F177_ _ _ (by omega) (Or.inr ⟨rfl, by assumption⟩) | exact F177_ _ _ (by omega) (Or.inl (by decide))
            · exact bas_fr (w_ := ([], [94], [])) b177_ (ai_fr_aI rfl) (by omega)
            · exact n177_
            · exact rdm_fr (w_ := ([], [94], [])) r177_ (ai_fr_aI rfl)
            · omega
        · have cx27_ : ¬ (ip_ < vx26_) := of_decide_eq_false cx27_
          refine sm_T_go 3 (c1 := (148, [some (.inr (.inr (some (9, 0)))), some (.inr (.inr (some (2, cc_)))), some (.inl a2_), some (.inr (.inl y3_)), none, none, some (.inl ip_), some (.inl g_), none], [.inl g_, .inr (.inr (some (2, cc_))), .inl ip_], S_)) rfl ?_
          refine sm_T_cal (d1 := 0) (Q1 := vq_59 g_ cc_ S_) rfl rfl (by decide) (vc_59 g_ cc_ S_ hI_ (by omega)) (fun u_ Sx46_ px49_ => ?_)
          obtain ⟨rfl, vx51_, rfl, px49_⟩ := px49_
          have c148_ : vx51_ = ((cgs cc_ S0_ g_.toNat : Nat) : Int) ∧ vx51_ = kcN cc_ S0_ g_.toNat := by (have y9_ := px49_; have x9_ : kcN cc_ S_ g_.toNat = kcN cc_ S0_ g_.toNat := (by rw [kx9_.2.1]); unfold cgs; rw [← x9_]; unfold kcN; have w9_ : 0 ≤ S_.2.2.1 55 (0 + (3 + cc_)) (S_.2.2.1 35 (0 + cc_) g_.toNat).toNat := (hI_.2 55 (0 + (3 + cc_)) _).1; omega)
          refine sm_T_bin (w := ip_ - vx51_) rfl (bi_sub (by omega) (by omega) (by omega)) ?_ -- pc_ 151
          refine sm_T_go 1 (c1 := (154, [some (.inr (.inr (some (9, 0)))), some (.inr (.inr (some (2, cc_)))), some (.inl a2_), some (.inr (.inl y3_)), none, none, some (.inl (ip_ - vx51_)), some (.inl g_), none], [], S_)) rfl ?_
          refine sm_T_inc (a := 7) (z := 1) (v := g_) (w := g_ + 1) rfl rfl (by omega) (by omega) (by omega) ?_ -- pc_ 154
          refine sm_T_go 1 (c1 := (121, [some (.inr (.inr (some (9, 0)))), some (.inr (.inr (some (2, cc_)))), some (.inl a2_), some (.inr (.inl y3_)), none, none, some (.inl (ip_ - vx51_)), some (.inl (g_ + 1)), none], [], S_)) rfl ?_
          refine ih_.1 y3_ (ip_ - vx51_) (g_ + 1) S_ hI_ hF_ ⟨?_, ?_, ?_, ?_, ?_, ?_, ?_, ?_, trivial⟩ ?_
          · (omega)
          · (rw [T9_, s9_]; push_cast; omega)
          · (rw [T9_, s9_]; push_cast; omega)
          · exact ht_
          · exact hy_
          · exact hbs_
          · exact hn1_
          · exact hrk_
          · omega
    · rintro y3_ fm_ g_ S_ hI_ hF_ ⟨h0_, hfw_, hbs_, hn1_, hrk_, -⟩ hm_
      have z1_ : S_.1 2 cc_ 1 = S0_.1 2 cc_ 1 := hF_.1 2 cc_ 1 rfl
      have z2_ : S_.1 2 cc_ 2 = S0_.1 2 cc_ 2 := hF_.1 2 cc_ 2 rfl
      have cw : 0 ≤ S_.1 9 0 2 ∧ S_.1 9 0 2 ≤ 64 := hI_.1 9 0 2 rfl
      have cg9_ : 0 ≤ S_.1 2 cc_ 8 ∧ S_.1 2 cc_ 8 ≤ 150 := hI_.1 2 cc_ 8 rfl
      have cq1_ : 0 ≤ S_.1 2 cc_ 1 ∧ S_.1 2 cc_ 1 ≤ 12 := hI_.1 2 cc_ 1 rfl
      have cq2_ : 0 ≤ S_.1 2 cc_ 2 ∧ S_.1 2 cc_ 2 ≤ 6 := hI_.1 2 cc_ 2 rfl
      have z8_ : S_.1 2 cc_ 8 = S0_.1 2 cc_ 8 := hF_.1 2 cc_ 8 rfl
      have c10_ : 0 ≤ S0_.1 2 cc_ 1 := by omega
      have c20_ : 0 ≤ S0_.1 2 cc_ 2 := by omega
      have hck_ := hbs_.1.1
      have kx9_ := kcX_fr (cc_ := cc_) hF_
      have kv9_ := kcv_q hbs_.2.1 hF_
      have s9_ := sn9_s (cgs cc_ S0_) g_.toNat
      have T9_ : (g_ + 1).toNat = g_.toNat + 1 := by omega
      have f36_ : S_.2.2.1 36 (0 + cc_) = S0_.2.2.1 36 (0 + cc_) := fr_arr hF_ rfl
      have cg39_ : cgs cc_ S0_ g_.toNat ≤ 3 := by (unfold cgs; rw [← kx9_.2.1]; unfold kcN; have q9_ : S_.2.2.1 55 (0 + (3 + cc_)) (S_.2.2.1 35 (0 + cc_) g_.toNat).toNat ≤ 3 := (hI_.2 55 (0 + (3 + cc_)) _).2; omega)
      have fq9_ := cfu_q9 hI_ (show S_.1 2 cc_ 1 + S_.1 2 cc_ 2 ≤ 12 by omega)
      rw [(cfu_fr (cc_ := cc_) hF_).1] at fq9_
      have bx1_ : 0 ≤ S_.1 2 cc_ 8 ∧ S_.1 2 cc_ 8 ≤ 150 := hI_.1 2 cc_ 8 rfl
      refine sm_T_go 3 (c1 := (205, [some (.inr (.inr (some (9, 0)))), some (.inr (.inr (some (2, cc_)))), some (.inl a2_), some (.inr (.inl y3_)), none, some (.inl fm_), some (.inl g_), none, none], [.inl (S_.1 2 cc_ 8), .inl g_], S_)) rfl ?_
      refine sm_T_br (a := 3) (z := 93) rfl (fun cx2_ => ?_) (fun cx2_ => ?_)
      · have cx2_ : (S_.1 2 cc_ 8) ≤ g_ := of_decide_eq_true cx2_
        refine sm_T_go 2 (c1 := (300, [some (.inr (.inr (some (9, 0)))), some (.inr (.inr (some (2, cc_)))), some (.inl a2_), some (.inr (.inl y3_)), none, some (.inl fm_), some (.inl g_), none, none], [.inl a2_, .inr (.inr (some (9, 0)))], S_)) rfl ?_
        refine sm_T_cal (d1 := 2) (Q1 := vq_175n a2_ cc_ S_) rfl rfl (by decide) (vc_175n a2_ cc_ S_ hI_ (by exact hck_) (by omega) (by exact hn1_)) (fun u_ Sx3_ px6_ => ?_)
        obtain ⟨rfl, hIx4_, hFx5_, px6_⟩ := px6_
        have hFx7_ : ai_fr (sx_W vw_174n) S0_ Sx3_ := ai_fr_tr hF_ (fr_le hFx5_ rfl)
        have ex8_ : Sx3_.1 2 cc_ 8 = S_.1 2 cc_ 8 := hFx5_.1 2 cc_ 8 rfl
        have r300_ := rdm_fr hrk_ hFx5_
        have p300_ := px6_
        rw [ket_fr hF_, z2_, show S_.1 2 cc_ 3 = S0_.1 2 cc_ 3 from hF_.1 2 cc_ 3 rfl] at p300_
        have c30_ : 0 ≤ S_.1 2 cc_ 3 := (hI_.1 2 cc_ 3 rfl).1
        have x30_ : S_.1 2 cc_ 3 = S0_.1 2 cc_ 3 := hF_.1 2 cc_ 3 rfl
        have sk9_ : shk9 cc_ Sx3_ a2_.toNat := shk_of hF_ (by omega) hs_ ⟨c10_, c20_, by omega⟩ hbs_.2.1 hbs_.2.2.1 (by (rw [show (S0_.1 2 cc_ 8).toNat = g_.toNat by omega]; exact hfw_)) (fun e9_ _ => by (rw [← ket_fr hF_]; unfold ket; split; exact (hI_.2 37 (0 + cc_) e9_).1; exact (hI_.2 38 (0 + cc_) _).1)) p300_.2.1 hFx5_
        have k300_ : ((Sx3_.2.1 9 0 0 = some cc_ ∧ Sx3_.1 9 0 1 = S0_.1 2 cc_ 19) ∧ shn Sx3_ ∧ tok9 cc_ Sx3_ ∧ Sx3_.2.2.1 96 0 a2_.toNat ≠ 0) := by
          obtain ⟨⟨b1_, b2_⟩, b3_, b4_, b5_, b6_⟩ := hbs_
          have k9_ := cfu_fr (cc_ := cc_) hFx5_
          refine ⟨⟨(hFx5_.2.1 9 0 0 rfl).trans b1_, (hFx5_.1 9 0 1 rfl).trans b2_⟩, p300_.1, ⟨kcv_fr b3_ hFx5_, ?_, fun f9_ q1_ q2_ => ?_⟩, ?_⟩
          · unfold mkq; rw [hFx5_.1 9 0 3 rfl, hFx5_.1 9 0 2 rfl, hFx5_.1 2 cc_ 1 rfl, hFx5_.1 2 cc_ 2 rfl]; exact b4_
          · by_cases y9_ : f9_ = a2_.toNat
            · rw [y9_]; exact sk9_
            · rw [k9_.1] at q1_
              rw [fr_arr (t := 96) (i := 0) hFx5_ rfl] at q2_
              exact shk_fr hFx5_ (b5_ f9_ q1_ (by omega) q2_) (fun j9_ hj9_ => p300_.2.2 (64 * f9_ + j9_) (by omega)) (hb_ := by omega)
          · rw [fr_arr (t := 96) (i := 0) hFx5_ rfl]; exact b6_
        refine sm_T_rv rfl ⟨_, _, rfl, rfl, hIx4_, hFx7_, ?_⟩
        exact ⟨r300_, k300_⟩
      · have cx2_ : ¬ ((S_.1 2 cc_ 8) ≤ g_) := of_decide_eq_false cx2_
        refine sm_T_go 4 (c1 := (214, [some (.inr (.inr (some (9, 0)))), some (.inr (.inr (some (2, cc_)))), some (.inl a2_), some (.inr (.inl y3_)), none, some (.inl fm_), some (.inl g_), some (.inl 0), some (.inl 0)], [], S_)) rfl ?_
        refine ih_.2.2 y3_ fm_ g_ 0 0 S_ hI_ hF_ ⟨?_, ?_, ?_, ?_, ?_, ?_, trivial⟩ ?_
        · omega
        · exact hfw_
        · (intro _ k9_ hk9_; exfalso; omega)
        · exact hbs_
        · exact hn1_
        · exact hrk_
        · omega
    · rintro y3_ fm_ g_ rc_ k_ S_ hI_ hF_ ⟨h0_, hfw_, hrc_, hbs_, hn1_, hrk_, -⟩ hm_
      have z1_ : S_.1 2 cc_ 1 = S0_.1 2 cc_ 1 := hF_.1 2 cc_ 1 rfl
      have z2_ : S_.1 2 cc_ 2 = S0_.1 2 cc_ 2 := hF_.1 2 cc_ 2 rfl
      have cw : 0 ≤ S_.1 9 0 2 ∧ S_.1 9 0 2 ≤ 64 := hI_.1 9 0 2 rfl
      have cg9_ : 0 ≤ S_.1 2 cc_ 8 ∧ S_.1 2 cc_ 8 ≤ 150 := hI_.1 2 cc_ 8 rfl
      have cq1_ : 0 ≤ S_.1 2 cc_ 1 ∧ S_.1 2 cc_ 1 ≤ 12 := hI_.1 2 cc_ 1 rfl
      have cq2_ : 0 ≤ S_.1 2 cc_ 2 ∧ S_.1 2 cc_ 2 ≤ 6 := hI_.1 2 cc_ 2 rfl
      have z8_ : S_.1 2 cc_ 8 = S0_.1 2 cc_ 8 := hF_.1 2 cc_ 8 rfl
      have c10_ : 0 ≤ S0_.1 2 cc_ 1 := by omega
      have c20_ : 0 ≤ S0_.1 2 cc_ 2 := by omega
      have hck_ := hbs_.1.1
      have kx9_ := kcX_fr (cc_ := cc_) hF_
      have kv9_ := kcv_q hbs_.2.1 hF_
      have s9_ := sn9_s (cgs cc_ S0_) g_.toNat
      have T9_ : (g_ + 1).toNat = g_.toNat + 1 := by omega
      have f36_ : S_.2.2.1 36 (0 + cc_) = S0_.2.2.1 36 (0 + cc_) := fr_arr hF_ rfl
      have cg39_ : cgs cc_ S0_ g_.toNat ≤ 3 := by (unfold cgs; rw [← kx9_.2.1]; unfold kcN; have q9_ : S_.2.2.1 55 (0 + (3 + cc_)) (S_.2.2.1 35 (0 + cc_) g_.toNat).toNat ≤ 3 := (hI_.2 55 (0 + (3 + cc_)) _).2; omega)
      have fq9_ := cfu_q9 hI_ (show S_.1 2 cc_ 1 + S_.1 2 cc_ 2 ≤ 12 by omega)
      rw [(cfu_fr (cc_ := cc_) hF_).1] at fq9_
      refine sm_T_go 3 (c1 := (219, [some (.inr (.inr (some (9, 0)))), some (.inr (.inr (some (2, cc_)))), some (.inl a2_), some (.inr (.inl y3_)), none, some (.inl fm_), some (.inl g_), some (.inl rc_), some (.inl k_)], [.inl g_, .inr (.inr (some (2, cc_))), .inl k_], S_)) rfl ?_
      refine sm_T_cal (d1 := 0) (Q1 := vq_59 g_ cc_ S_) rfl rfl (by decide) (vc_59 g_ cc_ S_ hI_ (by omega)) (fun u_ Sx1_ px4_ => ?_)
      obtain ⟨rfl, vx6_, rfl, px4_⟩ := px4_
      have c219_ : vx6_ = ((cgs cc_ S0_ g_.toNat : Nat) : Int) ∧ vx6_ = kcN cc_ S0_ g_.toNat := by (have y9_ := px4_; have x9_ : kcN cc_ S_ g_.toNat = kcN cc_ S0_ g_.toNat := (by rw [kx9_.2.1]); unfold cgs; rw [← x9_]; unfold kcN; have w9_ : 0 ≤ S_.2.2.1 55 (0 + (3 + cc_)) (S_.2.2.1 35 (0 + cc_) g_.toNat).toNat := (hI_.2 55 (0 + (3 + cc_)) _).1; omega)
      refine sm_T_br (a := 3) (z := 41) rfl (fun cx7_ => ?_) (fun cx7_ => ?_)
      · have cx7_ : vx6_ ≤ k_ := of_decide_eq_true cx7_
        refine sm_T_go 1 (c1 := (265, [some (.inr (.inr (some (9, 0)))), some (.inr (.inr (some (2, cc_)))), some (.inl a2_), some (.inr (.inl y3_)), none, some (.inl fm_), some (.inl g_), some (.inl rc_), some (.inl k_)], [.inl rc_], S_)) rfl ?_
        refine sm_T_b0 (a := 0) (z := 27) rfl (fun cx8_ => ?_) (fun cx8_ => ?_)
        · have cx8_ : rc_ = 0 := of_decide_eq_true cx8_
          refine sm_T_inc (a := 6) (z := 1) (v := g_) (w := g_ + 1) rfl rfl (by omega) (by omega) (by omega) ?_ -- pc_ 292
          refine sm_T_go 1 (c1 := (199, [some (.inr (.inr (some (9, 0)))), some (.inr (.inr (some (2, cc_)))), some (.inl a2_), some (.inr (.inl y3_)), none, some (.inl fm_), some (.inl (g_ + 1)), some (.inl rc_), some (.inl k_)], [], S_)) rfl ?_
          refine sm_T_wk [some (.inr (.inr (some (9, 0)))), some (.inr (.inr (some (2, cc_)))), some (.inl a2_), some (.inr (.inl y3_)), none, some (.inl fm_), some (.inl (g_ + 1)), none, none] (by exact ⟨rfl, rfl, rfl, rfl, rfl, rfl, trivial⟩) ?_
          refine ih_.2.1 y3_ fm_ (g_ + 1) S_ hI_ hF_ ⟨?_, ?_, ?_, ?_, ?_, trivial⟩ ?_
          · omega
          · rw [T9_]
            first | (obtain ⟨st9_, pn9_, d1_, d2_, d3_, d4_⟩ := hfw_; exact ⟨st9_, pn9_, d1_, by (push_cast; omega), by (push_cast; omega), fw9_n d4_ kv9_.1 (G_ := (S0_.1 2 cc_ 8).toNat) (by omega) (show (S0_.1 2 cc_ 1 + S0_.1 2 cc_ 2).toNat + (S0_.1 2 cc_ 8).toNat ≤ 162 by omega) kv9_.2 d2_ d3_ (fun k9_ h3_ hk9_ => hrc_ (by assumption) k9_ (by omega))⟩) | (have F9_ := F273_ (S_.2.2.1 94 0) (fun _ _ => rfl) (Or.inr ⟨(by (obtain ⟨st9_, pn9_, d1_, d2_, d3_, d4_⟩ := hfw_; exact d4_.1 _ (Nat.le_refl _) (by omega))), by assumption⟩); rw [← y2273_, ← y3273_, ← g92273_, ← g94273_] at F9_; exact F9_) | exact F273b _ (by omega)
          · first | exact hbs_ | exact b273_ | exact bas_fr (w_ := ([], [94], [])) b273_ (ai_fr_aI rfl) (by omega)
          · first | exact hn1_ | exact n273_
          · first | exact hrk_ | exact r273_ | exact rdm_fr (w_ := ([], [94], [])) r273_ (ai_fr_aI rfl)
          · omega
        · have cx8_ : ¬ (rc_ = 0) := of_decide_eq_false cx8_
          refine sm_T_go 4 (c1 := (273, [some (.inr (.inr (some (9, 0)))), some (.inr (.inr (some (2, cc_)))), some (.inl a2_), some (.inr (.inl y3_)), none, some (.inl fm_), some (.inl g_), some (.inl rc_), some (.inl k_)], [.inr (.inl 0), .inl (-1), .inl g_, .inr (.inr (some (9, 0)))], S_)) rfl ?_
          refine sm_T_cal (d1 := 2) (Q1 := vq_173f g_ (-1) 0 cc_ S_) rfl rfl (by decide) (vc_173f g_ (-1) 0 cc_ S_ hI_ (by exact hck_) (by omega) (by omega) (by omega) (by (rw [kx9_.2.1, kx9_.2.2, z1_, z2_]; exact hgo_ g_.toNat (by omega)))) (fun u_ Sx9_ px12_ => ?_)
          obtain ⟨vx14_, rfl, hIx10_, hFx11_, px12_⟩ := px12_
          have hFx13_ : ai_fr (sx_W vw_174n) S0_ Sx9_ := ai_fr_tr hF_ (fr_le hFx11_ rfl)
          have p273_ := px12_
          rw [kx9_.1, kx9_.2.1, kx9_.2.2, z1_, z2_] at p273_
          have b273_ := bas_fr hbs_ hFx11_ (by omega)
          have n273_ := shn_fr hn1_ hFx11_
          have u1273_ := hFx11_.1 2 cc_ 1 rfl
          have u2273_ := hFx11_.1 2 cc_ 2 rfl
          have y2273_ := hFx11_.1 9 0 2 rfl
          have y3273_ := hFx11_.1 9 0 3 rfl
          have g94273_ : Sx9_.2.2.1 94 0 = S_.2.2.1 94 0 := fr_arr hFx11_ rfl
          have g92273_ : Sx9_.2.2.2 92 0 = S_.2.2.2 92 0 := fr_lon (t_ := 92) (i_ := 0) hFx11_ rfl
          have r273_ := rdm_fr hrk_ hFx11_
          have F273_ : ∀ (t9_ : Nat → Int), (∀ n9_, n9_ ≠ (S0_.1 2 cc_ 1 + S0_.1 2 cc_ 2).toNat + g_.toNat → t9_ n9_ = S_.2.2.1 94 0 n9_) → (t9_ ((S0_.1 2 cc_ 1 + S0_.1 2 cc_ 2).toNat + g_.toNat) ≠ 0 ∨ (t9_ ((S0_.1 2 cc_ 1 + S0_.1 2 cc_ 2).toNat + g_.toNat) = 0 ∧ vx14_ = 0)) → ∃ st_ pn_ : Int, fdq (cnc cc_ S0_) (cgs cc_ S0_) (S0_.1 2 cc_ 8).toNat a2_ st_ pn_ ∧ st_ < ((S0_.1 2 cc_ 1 + S0_.1 2 cc_ 2).toNat : Int) + ((g_.toNat + 1 : Nat) : Int) ∧ pn_ < 3 * ((g_.toNat + 1 : Nat) : Int) ∧ fw9 (S0_.1 2 cc_ 1 + S0_.1 2 cc_ 2).toNat (g_.toNat + 1) (kcT cc_ S0_) (kcN cc_ S0_) (kcA cc_ S0_) st_ pn_ (decide (a2_ % 2 = 1)) (S_.1 9 0 2) (S_.1 9 0 3) t9_ (Sx9_.2.2.2 93 0) (S_.2.2.2 92 0) := by
            intro t9_ ht9_ hd9_
            obtain ⟨st9_, pn9_, d1_, d2_, d3_, d4_⟩ := hfw_
            refine ⟨st9_, pn9_, d1_, by (push_cast; omega), by (push_cast; omega), ?_⟩
            refine fw9_g (k_ := -1) (y_ := 0) d4_ kv9_.1 (G_ := (S0_.1 2 cc_ 8).toNat) (by omega) (show (S0_.1 2 cc_ 1 + S0_.1 2 cc_ 2).toNat + (S0_.1 2 cc_ 8).toNat ≤ 162 by omega) d2_ (Or.inr ⟨d3_, Or.inl (by omega)⟩) (fun i9_ hi9_ => Or.inr (Or.inl (by omega))) p273_.2.2.2 p273_.2.1 ht9_ ?_
            rcases hd9_ with q9_ | ⟨q9_, q8_⟩
            · exact Or.inl q9_
            · exact Or.inr ⟨q9_, p273_.2.2.1 q8_⟩
          have F273b : ∀ J9_ : Nat, J9_ = (S0_.1 2 cc_ 1 + S0_.1 2 cc_ 2).toNat + g_.toNat → fwz cc_ a2_ S0_ (sm_aI Sx9_ 94 0 J9_ 1) (g_.toNat + 1) := by
            intro J9_ hJ9_
            have F9_ := F273_ ((sm_aI Sx9_ 94 0 J9_ 1).2.2.1 94 0) (fun n9_ hn9_ => by (rw [rd_eq, if_neg (by omega), g94273_])) (Or.inl (by (rw [rd_eq, if_pos hJ9_.symm]; decide)))
            rw [← y2273_, ← y3273_, ← g92273_] at F9_
            exact F9_
          refine sm_T_b0 (a := 0) (z := 16) rfl (fun cx15_ => ?_) (fun cx15_ => ?_)
          · have cx15_ : vx14_ = 0 := of_decide_eq_true cx15_
            refine sm_T_inc (a := 6) (z := 1) (v := g_) (w := g_ + 1) rfl rfl (by omega) (by omega) (by omega) ?_ -- pc_ 292
            refine sm_T_go 1 (c1 := (199, [some (.inr (.inr (some (9, 0)))), some (.inr (.inr (some (2, cc_)))), some (.inl a2_), some (.inr (.inl y3_)), none, some (.inl fm_), some (.inl (g_ + 1)), some (.inl rc_), some (.inl k_)], [], Sx9_)) rfl ?_
            refine sm_T_wk [some (.inr (.inr (some (9, 0)))), some (.inr (.inr (some (2, cc_)))), some (.inl a2_), some (.inr (.inl y3_)), none, some (.inl fm_), some (.inl (g_ + 1)), none, none] (by exact ⟨rfl, rfl, rfl, rfl, rfl, rfl, trivial⟩) ?_
            refine ih_.2.1 y3_ fm_ (g_ + 1) Sx9_ hIx10_ hFx13_ ⟨?_, ?_, ?_, ?_, ?_, trivial⟩ ?_
            · omega
            · rw [T9_]
              first | (obtain ⟨st9_, pn9_, d1_, d2_, d3_, d4_⟩ := hfw_; exact ⟨st9_, pn9_, d1_, by (push_cast; omega), by (push_cast; omega), fw9_n d4_ kv9_.1 (G_ := (S0_.1 2 cc_ 8).toNat) (by omega) (show (S0_.1 2 cc_ 1 + S0_.1 2 cc_ 2).toNat + (S0_.1 2 cc_ 8).toNat ≤ 162 by omega) kv9_.2 d2_ d3_ (fun k9_ h3_ hk9_ => hrc_ (by assumption) k9_ (by omega))⟩) | (have F9_ := F273_ (S_.2.2.1 94 0) (fun _ _ => rfl) (Or.inr ⟨(by (obtain ⟨st9_, pn9_, d1_, d2_, d3_, d4_⟩ := hfw_; exact d4_.1 _ (Nat.le_refl _) (by omega))), by assumption⟩); rw [← y2273_, ← y3273_, ← g92273_, ← g94273_] at F9_; exact F9_) | exact F273b _ (by omega)
            · first | exact hbs_ | exact b273_ | exact bas_fr (w_ := ([], [94], [])) b273_ (ai_fr_aI rfl) (by omega)
            · first | exact hn1_ | exact n273_
            · first | exact hrk_ | exact r273_ | exact rdm_fr (w_ := ([], [94], [])) r273_ (ai_fr_aI rfl)
            · omega
          · have cx15_ : ¬ (vx14_ = 0) := of_decide_eq_false cx15_
            refine sm_T_go 3 (c1 := (284, [some (.inr (.inr (some (9, 0)))), some (.inr (.inr (some (2, cc_)))), some (.inl a2_), some (.inr (.inl y3_)), none, some (.inl fm_), some (.inl g_), some (.inl rc_), some (.inl k_)], [.inr (.inr (some (2, cc_))), .inr (.inr (some (94, 0)))], Sx9_)) rfl ?_
            refine sm_T_cal (d1 := 0) (Q1 := vq_54 cc_ Sx9_) rfl rfl (by decide) (vc_54 cc_ Sx9_ hIx10_ ) (fun u_ Sx16_ px19_ => ?_)
            obtain ⟨rfl, vx21_, rfl, px19_⟩ := px19_
            have m284_ := px19_
            refine sm_T_go 1 (c1 := (289, [some (.inr (.inr (some (9, 0)))), some (.inr (.inr (some (2, cc_)))), some (.inl a2_), some (.inr (.inl y3_)), none, some (.inl fm_), some (.inl g_), some (.inl rc_), some (.inl k_)], [.inl g_, .inl vx21_, .inr (.inr (some (94, 0)))], Sx9_)) rfl ?_
            refine sm_T_bin (w := vx21_ + g_) rfl (bi_add (by omega) (by omega) (by omega)) ?_ -- pc_ 289
            refine sm_T_go 1 (c1 := (291, [some (.inr (.inr (some (9, 0)))), some (.inr (.inr (some (2, cc_)))), some (.inl a2_), some (.inr (.inl y3_)), none, some (.inl fm_), some (.inl g_), some (.inl rc_), some (.inl k_)], [.inl 1, .inl (vx21_ + g_), .inr (.inr (some (94, 0)))], Sx9_)) rfl ?_
            refine sm_T_iast (n := 162) rfl rfl (by omega) (by omega) ?_
            have hIx22_ : gi (sm_aI Sx9_ 94 0 (vx21_ + g_).toNat 1) := gi_aI hIx10_ (show 0 ≤ 1 ∧ 1 ≤ 1 from ⟨by omega, by omega⟩)
            have hFx23_ : ai_fr (sx_W vw_174n) S0_ (sm_aI Sx9_ 94 0 (vx21_ + g_).toNat 1) := ai_fr_tr hFx13_ (ai_fr_aI rfl)
            refine sm_T_inc (a := 6) (z := 1) (v := g_) (w := g_ + 1) rfl rfl (by omega) (by omega) (by omega) ?_ -- pc_ 292
            refine sm_T_go 1 (c1 := (199, [some (.inr (.inr (some (9, 0)))), some (.inr (.inr (some (2, cc_)))), some (.inl a2_), some (.inr (.inl y3_)), none, some (.inl fm_), some (.inl (g_ + 1)), some (.inl rc_), some (.inl k_)], [], sm_aI Sx9_ 94 0 (vx21_ + g_).toNat 1)) rfl ?_
            refine sm_T_wk [some (.inr (.inr (some (9, 0)))), some (.inr (.inr (some (2, cc_)))), some (.inl a2_), some (.inr (.inl y3_)), none, some (.inl fm_), some (.inl (g_ + 1)), none, none] (by exact ⟨rfl, rfl, rfl, rfl, rfl, rfl, trivial⟩) ?_
            refine ih_.2.1 y3_ fm_ (g_ + 1) (sm_aI Sx9_ 94 0 (vx21_ + g_).toNat 1) hIx22_ hFx23_ ⟨?_, ?_, ?_, ?_, ?_, trivial⟩ ?_
            · omega
            · rw [T9_]
              first | (obtain ⟨st9_, pn9_, d1_, d2_, d3_, d4_⟩ := hfw_; exact ⟨st9_, pn9_, d1_, by (push_cast; omega), by (push_cast; omega), fw9_n d4_ kv9_.1 (G_ := (S0_.1 2 cc_ 8).toNat) (by omega) (show (S0_.1 2 cc_ 1 + S0_.1 2 cc_ 2).toNat + (S0_.1 2 cc_ 8).toNat ≤ 162 by omega) kv9_.2 d2_ d3_ (fun k9_ h3_ hk9_ => hrc_ (by assumption) k9_ (by omega))⟩) | (have F9_ := F273_ (S_.2.2.1 94 0) (fun _ _ => rfl) (Or.inr ⟨(by (obtain ⟨st9_, pn9_, d1_, d2_, d3_, d4_⟩ := hfw_; exact d4_.1 _ (Nat.le_refl _) (by omega))), by assumption⟩); rw [← y2273_, ← y3273_, ← g92273_, ← g94273_] at F9_; exact F9_) | exact F273b _ (by omega)
            · first | exact hbs_ | exact b273_ | exact bas_fr (w_ := ([], [94], [])) b273_ (ai_fr_aI rfl) (by omega)
            · first | exact hn1_ | exact n273_
            · first | exact hrk_ | exact r273_ | exact rdm_fr (w_ := ([], [94], [])) r273_ (ai_fr_aI rfl)
            · omega
      · have cx7_ : ¬ (vx6_ ≤ k_) := of_decide_eq_false cx7_
        refine sm_T_go 1 (c1 := (227, [some (.inr (.inr (some (9, 0)))), some (.inr (.inr (some (2, cc_)))), some (.inl a2_), some (.inr (.inl y3_)), none, some (.inl fm_), some (.inl g_), some (.inl rc_), some (.inl k_)], [.inl rc_], S_)) rfl ?_
        refine sm_T_b0 (a := 1) (z := 23) rfl (fun cx24_ => ?_) (fun cx24_ => ?_)
        · have cx24_ : rc_ ≠ 0 := of_decide_eq_true cx24_
          refine sm_T_go 3 (c1 := (257, [some (.inr (.inr (some (9, 0)))), some (.inr (.inr (some (2, cc_)))), some (.inl a2_), some (.inr (.inl y3_)), none, some (.inl fm_), some (.inl g_), some (.inl 1), some (.inl k_)], [], S_)) rfl ?_
          refine sm_T_inc (a := 8) (z := 1) (v := k_) (w := k_ + 1) rfl rfl (by omega) (by omega) (by omega) ?_ -- pc_ 257
          refine sm_T_go 1 (c1 := (214, [some (.inr (.inr (some (9, 0)))), some (.inr (.inr (some (2, cc_)))), some (.inl a2_), some (.inr (.inl y3_)), none, some (.inl fm_), some (.inl g_), some (.inl 1), some (.inl (k_ + 1))], [], S_)) rfl ?_
          refine ih_.2.2 y3_ fm_ g_ 1 (k_ + 1) S_ hI_ hF_ ⟨?_, ?_, ?_, ?_, ?_, ?_, trivial⟩ ?_
          · omega
          · exact hfw_
          · first | (intro z9_; exfalso; omega) | (intro z9_ k9_ hk9_; by_cases y9_ : (k9_ : Int) < k_; (exact hrc_ (by omega) k9_ y9_); (unfold kcA; rw [← f36_, show 3 * g_.toNat + k9_ = (3 * g_ + k_).toNat by omega]; assumption))
          · exact hbs_
          · exact hn1_
          · exact hrk_
          · omega
        · have cx24_ : ¬ (rc_ ≠ 0) := of_decide_eq_false cx24_
          refine sm_T_go 6 (c1 := (241, [some (.inr (.inr (some (9, 0)))), some (.inr (.inr (some (2, cc_)))), some (.inl a2_), some (.inr (.inl y3_)), none, some (.inl fm_), some (.inl g_), some (.inl rc_), some (.inl k_)], [.inl g_, .inl 3, .inr (.inr (some (36, (0 + cc_)))), .inr (.inr (some (94, 0)))], S_)) rfl ?_
          refine sm_T_bin (w := 3 * g_) rfl (bi_mul (by omega) (by omega) (by omega)) ?_ -- pc_ 241
          refine sm_T_go 1 (c1 := (244, [some (.inr (.inr (some (9, 0)))), some (.inr (.inr (some (2, cc_)))), some (.inl a2_), some (.inr (.inl y3_)), none, some (.inl fm_), some (.inl g_), some (.inl rc_), some (.inl k_)], [.inl k_, .inl (3 * g_), .inr (.inr (some (36, (0 + cc_)))), .inr (.inr (some (94, 0)))], S_)) rfl ?_
          refine sm_T_bin (w := 3 * g_ + k_) rfl (bi_add (by omega) (by omega) (by omega)) ?_ -- pc_ 244
          refine sm_T_iald (n := 450) rfl rfl (by omega) (by omega) ?_
          have bx25_ : 0 ≤ S_.2.2.1 36 (0 + cc_) (3 * g_ + k_).toNat ∧ S_.2.2.1 36 (0 + cc_) (3 * g_ + k_).toNat ≤ 161 := hI_.2 36 (0 + cc_) _
          refine sm_T_iald (n := 162) rfl rfl (by omega) (by omega) ?_
          have bx26_ : 0 ≤ S_.2.2.1 94 0 (S_.2.2.1 36 (0 + cc_) (3 * g_ + k_).toNat).toNat ∧ S_.2.2.1 94 0 (S_.2.2.1 36 (0 + cc_) (3 * g_ + k_).toNat).toNat ≤ 1 := hI_.2 94 0 _
          refine sm_T_b0 (a := 0) (z := 7) rfl (fun cx27_ => ?_) (fun cx27_ => ?_)
          · have cx27_ : (S_.2.2.1 94 0 (S_.2.2.1 36 (0 + cc_) (3 * g_ + k_).toNat).toNat) = 0 := of_decide_eq_true cx27_
            refine sm_T_go 2 (c1 := (257, [some (.inr (.inr (some (9, 0)))), some (.inr (.inr (some (2, cc_)))), some (.inl a2_), some (.inr (.inl y3_)), none, some (.inl fm_), some (.inl g_), some (.inl 0), some (.inl k_)], [], S_)) rfl ?_
            refine sm_T_inc (a := 8) (z := 1) (v := k_) (w := k_ + 1) rfl rfl (by omega) (by omega) (by omega) ?_ -- pc_ 257
            refine sm_T_go 1 (c1 := (214, [some (.inr (.inr (some (9, 0)))), some (.inr (.inr (some (2, cc_)))), some (.inl a2_), some (.inr (.inl y3_)), none, some (.inl fm_), some (.inl g_), some (.inl 0), some (.inl (k_ + 1))], [], S_)) rfl ?_
            refine ih_.2.2 y3_ fm_ g_ 0 (k_ + 1) S_ hI_ hF_ ⟨?_, ?_, ?_, ?_, ?_, ?_, trivial⟩ ?_
            · omega
            · exact hfw_
            · first | (intro z9_; exfalso; omega) | (intro z9_ k9_ hk9_; by_cases y9_ : (k9_ : Int) < k_; (exact hrc_ (by omega) k9_ y9_); (unfold kcA; rw [← f36_, show 3 * g_.toNat + k9_ = (3 * g_ + k_).toNat by omega]; assumption))
            · exact hbs_
            · exact hn1_
            · exact hrk_
            · omega
          · have cx27_ : ¬ ((S_.2.2.1 94 0 (S_.2.2.1 36 (0 + cc_) (3 * g_ + k_).toNat).toNat) = 0) := of_decide_eq_false cx27_
            refine sm_T_go 3 (c1 := (257, [some (.inr (.inr (some (9, 0)))), some (.inr (.inr (some (2, cc_)))), some (.inl a2_), some (.inr (.inl y3_)), none, some (.inl fm_), some (.inl g_), some (.inl 1), some (.inl k_)], [], S_)) rfl ?_
            refine sm_T_inc (a := 8) (z := 1) (v := k_) (w := k_ + 1) rfl rfl (by omega) (by omega) (by omega) ?_ -- pc_ 257
            refine sm_T_go 1 (c1 := (214, [some (.inr (.inr (some (9, 0)))), some (.inr (.inr (some (2, cc_)))), some (.inl a2_), some (.inr (.inl y3_)), none, some (.inl fm_), some (.inl g_), some (.inl 1), some (.inl (k_ + 1))], [], S_)) rfl ?_
            refine ih_.2.2 y3_ fm_ g_ 1 (k_ + 1) S_ hI_ hF_ ⟨?_, ?_, ?_, ?_, ?_, ?_, trivial⟩ ?_
            · omega
            · exact hfw_
            · first | (intro z9_; exfalso; omega) | (intro z9_ k9_ hk9_; by_cases y9_ : (k9_ : Int) < k_; (exact hrc_ (by omega) k9_ y9_); (unfold kcA; rw [← f36_, show 3 * g_.toNat + k9_ = (3 * g_ + k_).toNat by omega]; assumption))
            · exact hbs_
            · exact hn1_
            · exact hrk_
            · omega
set_option maxHeartbeats 4000000 in
set_option maxRecDepth 20000 in
theorem vc_174n {sc_ : Nat × (Nat → Int)} (a2_ : Int) (cc_ : Nat) (S0_ : sm_S) (hI_ : gi S0_) (hs_ : S0_.1 2 cc_ 1 + S0_.1 2 cc_ 2 ≤ 12) (h2_ : 0 ≤ a2_ ∧ a2_ < cfu9 cc_ S0_) (hn_ : shn S0_) (hp_ : S0_.2.1 9 0 0 = some cc_ → S0_.1 9 0 1 = S0_.1 2 cc_ 19 → tok9 cc_ S0_) (hgo_ : ∀ g9_ : Nat, g9_ < (S0_.1 2 cc_ 8).toNat → gio (S0_.1 2 cc_ 1 + S0_.1 2 cc_ 2).toNat g9_ (kcN cc_ S0_ g9_) (kcA cc_ S0_ g9_)) (hq0_ : 0 ≤ S0_.1 2 cc_ 1 ∧ 0 ≤ S0_.1 2 cc_ 2 ∧ 0 ≤ S0_.1 2 cc_ 8) : sm_T (mt_P sc_) 4 174 (0, [some (.inr (.inr (some (9, 0)))), some (.inr (.inr (some (2, cc_)))), some (.inl a2_), none, none, none, none, none, none], [], S0_) (fun ro9_ => ∃ u_ S1_, ro9_ = (.inl u_, S1_, 0) ∧ vq_174n a2_ cc_ S0_ u_ S1_) := by
  have hF_ : ai_fr (sx_W vw_174n) S0_ S0_ := ai_fr_rf
  have fq9_ := cfu_q9 hI_ hs_
  have sb9_ : sn9 (cgs cc_ S0_) (S0_.1 2 cc_ 8).toNat ≤ (S0_.1 2 cc_ 8).toNat * 3 := sn9_b (fun k9_ => by (unfold cgs kcN; have q9_ : S0_.2.2.1 55 (0 + (3 + cc_)) (S0_.2.2.1 35 (0 + cc_) k9_).toNat ≤ 3 := (hI_.2 55 (0 + (3 + cc_)) _).2; omega)) _
  refine sm_T_go 2 (c1 := (2, [some (.inr (.inr (some (9, 0)))), some (.inr (.inr (some (2, cc_)))), some (.inl a2_), none, none, none, none, none, none], [.inr (.inr (some (2, cc_))), .inr (.inr (some (9, 0)))], S0_)) rfl ?_
  refine sm_T_cal (d1 := 3) (Q1 := vq_168f cc_ S0_) rfl rfl (by decide) (vc_168f cc_ S0_ hI_ (by omega) (by exact hp_)) (fun u_ Sx1_ px4_ => ?_)
  obtain ⟨rfl, hIx2_, hFx3_, px4_⟩ := px4_
  have hFx5_ : ai_fr (sx_W vw_174n) S0_ Sx1_ := ai_fr_tr hF_ (fr_le hFx3_ rfl)
  have tk2 := (px4_).2
  have rk2 := (px4_).1
  have n2_ := shn_fr hn_ hFx3_
  have y1_ := hFx3_.1 2 cc_ 1 rfl
  have y2_ := hFx3_.1 2 cc_ 2 rfl
  have y8_ := hFx3_.1 2 cc_ 8 rfl
  have cw2_ : 0 ≤ Sx1_.1 9 0 2 ∧ Sx1_.1 9 0 2 ≤ 64 := hIx2_.1 9 0 2 rfl
  have cg2_ : 0 ≤ Sx1_.1 2 cc_ 8 ∧ Sx1_.1 2 cc_ 8 ≤ 150 := hIx2_.1 2 cc_ 8 rfl
  refine sm_T_go 3 (c1 := (10, [some (.inr (.inr (some (9, 0)))), some (.inr (.inr (some (2, cc_)))), some (.inl a2_), none, none, none, none, none, none], [.inl a2_, .inr (.inr (some (96, 0)))], Sx1_)) rfl ?_
  refine sm_T_iald (n := 1224) rfl rfl (by omega) (by omega) ?_
  have bx6_ : (-2147483648) ≤ Sx1_.2.2.1 96 0 a2_.toNat ∧ Sx1_.2.2.1 96 0 a2_.toNat ≤ 2147483647 := hIx2_.2 96 0 _
  refine sm_T_b0 (a := 0) (z := 4) rfl (fun cx7_ => ?_) (fun cx7_ => ?_)
  · have cx7_ : (Sx1_.2.2.1 96 0 a2_.toNat) = 0 := of_decide_eq_true cx7_
    refine sm_T_go 4 (c1 := (21, [some (.inr (.inr (some (9, 0)))), some (.inr (.inr (some (2, cc_)))), some (.inl a2_), none, none, none, none, none, none], [.inl 1, .inl a2_, .inr (.inr (some (96, 0)))], Sx1_)) rfl ?_
    refine sm_T_iast (n := 1224) rfl rfl (by omega) (by omega) ?_
    have hIx8_ : gi (sm_aI Sx1_ 96 0 a2_.toNat 1) := gi_aI hIx2_ (show (-2147483648) ≤ 1 ∧ 1 ≤ 2147483647 from ⟨by omega, by omega⟩)
    have hFx9_ : ai_fr (sx_W vw_174n) S0_ (sm_aI Sx1_ 96 0 a2_.toNat 1) := ai_fr_tr hFx5_ (ai_fr_aI rfl)
    refine sm_T_go 3 (c1 := (27, [some (.inr (.inr (some (9, 0)))), some (.inr (.inr (some (2, cc_)))), some (.inl a2_), none, none, none, none, none, none], [.inl 0, .inr (.inr (some (94, 0)))], sm_aI Sx1_ 96 0 a2_.toNat 1)) rfl ?_
    refine sm_T_cal (d1 := 0) (Q1 := vq_2t4 0 (sm_aI Sx1_ 96 0 a2_.toNat 1)) rfl rfl (by decide) (vc_2t4 0 (sm_aI Sx1_ 96 0 a2_.toNat 1) hIx8_ (by decide)) (fun u_ Sx10_ px13_ => ?_)
    obtain ⟨rfl, hIx11_, hFx12_, px13_⟩ := px13_
    have hFx14_ : ai_fr (sx_W vw_174n) S0_ Sx10_ := ai_fr_tr hFx9_ (fr_le hFx12_ rfl)
    have e27_ := px13_
    have r27_ : rdm cc_ S0_ Sx10_ := rdm_fr (S_ := (sm_aI Sx1_ 96 0 a2_.toNat 1)) (fun j8_ e8_ e9_ h9_ => by (rw [rd_eq]; split; decide; rw [rk2 e8_ e9_]; exact h9_)) hFx12_
    have n27_ := shn_fr (show shn (sm_aI Sx1_ 96 0 a2_.toNat 1) from n2_) hFx12_
    have x1_ : Sx10_.1 2 cc_ 1 = S0_.1 2 cc_ 1 := hFx14_.1 2 cc_ 1 rfl
    have x2_ : Sx10_.1 2 cc_ 2 = S0_.1 2 cc_ 2 := hFx14_.1 2 cc_ 2 rfl
    have x8_ : Sx10_.1 2 cc_ 8 = S0_.1 2 cc_ 8 := hFx14_.1 2 cc_ 8 rfl
    have cw3_ : 0 ≤ Sx10_.1 9 0 2 ∧ Sx10_.1 9 0 2 ≤ 64 := hIx11_.1 9 0 2 rfl
    have cg3_ : 0 ≤ Sx10_.1 2 cc_ 8 ∧ Sx10_.1 2 cc_ 8 ≤ 150 := hIx11_.1 2 cc_ 8 rfl
    have b27_ : bas9 cc_ a2_ S0_ Sx10_ := bas_fr (S_ := (sm_aI Sx1_ 96 0 a2_.toNat 1)) ⟨⟨tk2.1, tk2.2.1⟩, tk2.2.2.1, tk2.2.2.2.1, fun f9_ q1_ q2_ q3_ => tk2.2.2.2.2 f9_ q1_ (by (rw [rd_eq, if_neg (by omega)] at q3_; exact q3_)), by (rw [rd_eq, if_pos rfl]; decide)⟩ hFx12_ (show (sm_aI Sx1_ 96 0 a2_.toNat 1).1 2 cc_ 1 + (sm_aI Sx1_ 96 0 a2_.toNat 1).1 2 cc_ 2 ≤ 12 from (by (have z9_ : (sm_aI Sx1_ 96 0 a2_.toNat 1).1 2 cc_ 1 = S0_.1 2 cc_ 1 := y1_; have z8_ : (sm_aI Sx1_ 96 0 a2_.toNat 1).1 2 cc_ 2 = S0_.1 2 cc_ 2 := y2_; omega)))
    refine sm_T_go 2 (c1 := (32, [some (.inr (.inr (some (9, 0)))), some (.inr (.inr (some (2, cc_)))), some (.inl a2_), none, none, none, none, none, none], [.inl 1, .inl a2_], Sx10_)) rfl ?_
    refine sm_T_bin (w := (a2_ % 2)) rfl (bi_msk (k := 1) (by decide)) ?_ -- pc_ 32
    refine sm_T_b0 (a := 1) (z := 7) rfl (fun cx15_ => ?_) (fun cx15_ => ?_)
    · have cx15_ : (a2_ % 2) ≠ 0 := of_decide_eq_true cx15_
      refine sm_T_nt (u := some (.inr (.inl (-1)))) (S1 := Sx10_) rfl rfl rfl ?_
      refine sm_T_go 4 (c1 := (47, [some (.inr (.inr (some (9, 0)))), some (.inr (.inr (some (2, cc_)))), some (.inl a2_), some (.inr (.inl (-1))), none, none, none, none, none], [.inr (.inr (some (2, cc_))), .inl 2, .inl a2_], Sx10_)) rfl ?_
      refine sm_T_cal (d1 := 0) (Q1 := vq_55 cc_ Sx10_) rfl rfl (by decide) (vc_55 cc_ Sx10_ hIx11_ ) (fun u_ Sx16_ px19_ => ?_)
      obtain ⟨rfl, vx21_, rfl, px19_⟩ := px19_
      have m47_ := px19_
      refine sm_T_bin (w := 2 * vx21_) rfl (bi_mul (by omega) (by omega) (by omega)) ?_ -- pc_ 50
      refine sm_T_br (a := 3) (z := 57) rfl (fun cx22_ => ?_) (fun cx22_ => ?_)
      · have cx22_ : 2 * vx21_ ≤ a2_ := of_decide_eq_true cx22_
        refine sm_T_go 2 (c1 := (110, [some (.inr (.inr (some (9, 0)))), some (.inr (.inr (some (2, cc_)))), some (.inl a2_), some (.inr (.inl (-1))), none, none, none, none, none], [.inl 2, .inl a2_], Sx10_)) rfl ?_
        refine sm_T_bin (w := (a2_ / 2)) rfl (bi_div (by omega) (by omega) (by omega) (by omega)) ?_ -- pc_ 110
        refine sm_T_go 1 (c1 := (112, [some (.inr (.inr (some (9, 0)))), some (.inr (.inr (some (2, cc_)))), some (.inl a2_), some (.inr (.inl (-1))), none, none, none, none, none], [.inr (.inr (some (2, cc_))), .inl (a2_ / 2)], Sx10_)) rfl ?_
        refine sm_T_cal (d1 := 0) (Q1 := vq_55 cc_ Sx10_) rfl rfl (by decide) (vc_55 cc_ Sx10_ hIx11_ ) (fun u_ Sx23_ px26_ => ?_)
        obtain ⟨rfl, vx28_, rfl, px26_⟩ := px26_
        have m112_ := px26_
        refine sm_T_bin (w := (a2_ / 2) - vx28_) rfl (bi_sub (by omega) (by omega) (by omega)) ?_ -- pc_ 115
        refine sm_T_go 3 (c1 := (121, [some (.inr (.inr (some (9, 0)))), some (.inr (.inr (some (2, cc_)))), some (.inl a2_), some (.inr (.inl (-1))), none, none, some (.inl ((a2_ / 2) - vx28_)), some (.inl 0), none], [], Sx10_)) rfl ?_
        refine (vl_174n a2_ cc_ S0_ hs_ h2_ hn_ hp_ hgo_ hq0_ _).1 (-1) ((a2_ / 2) - vx28_) 0 Sx10_ hIx11_ hFx14_ ⟨?_, ?_, ?_, ?_, ?_, ?_, ?_, ?_, trivial⟩ (Nat.lt_succ_self _)
        · (have y9_ := sb9_; unfold cfu9 cnc at h2_; omega)
        · (rw [show (0 : Int).toNat = 0 from rfl]; show _ = _ - ((0 : Nat) : Int) ∧ _; omega)
        · (rw [show (0 : Int).toNat = 0 from rfl]; show _ + ((0 : Nat) : Int) < _; unfold cfu9 cnc at h2_; omega)
        · exact fun n9_ hn9_ => e27_ n9_ hn9_
        · (intro i9_ hi9_; first | exact (lbt_m hi9_).trans (decide_eq_true (by omega)).symm | exact lbt_0.trans (decide_eq_false (by omega)).symm)
        · exact b27_
        · exact n27_
        · exact r27_
      · have cx22_ : ¬ (2 * vx21_ ≤ a2_) := of_decide_eq_false cx22_
        refine sm_T_go 2 (c1 := (56, [some (.inr (.inr (some (9, 0)))), some (.inr (.inr (some (2, cc_)))), some (.inl a2_), some (.inr (.inl (-1))), none, none, none, none, none], [.inl 1, .inl a2_], Sx10_)) rfl ?_
        refine sm_T_bin (w := (a2_ / 2)) rfl (bi_shr (k := 1) (by decide) (by omega) (by omega)) ?_ -- pc_ 56
        refine sm_T_go 5 (c1 := (66, [some (.inr (.inr (some (9, 0)))), some (.inr (.inr (some (2, cc_)))), some (.inl a2_), some (.inr (.inl (-1))), none, none, some (.inl (a2_ / 2)), none, none], [.inl 1, .inl (a2_ / 2), .inr (.inr (some (94, 0)))], Sx10_)) rfl ?_
        refine sm_T_iast (n := 162) rfl rfl (by omega) (by omega) ?_
        have hIx29_ : gi (sm_aI Sx10_ 94 0 (a2_ / 2).toNat 1) := gi_aI hIx11_ (show 0 ≤ 1 ∧ 1 ≤ 1 from ⟨by omega, by omega⟩)
        have hFx30_ : ai_fr (sx_W vw_174n) S0_ (sm_aI Sx10_ 94 0 (a2_ / 2).toNat 1) := ai_fr_tr hFx14_ (ai_fr_aI rfl)
        refine sm_T_go 4 (c1 := (75, [some (.inr (.inr (some (9, 0)))), some (.inr (.inr (some (2, cc_)))), some (.inl a2_), some (.inr (.inl (-1))), none, none, some (.inl (a2_ / 2)), none, none], [.inl 64, .inl (a2_ / 2), .inr (.inr (some (93, 0)))], sm_aI Sx10_ 94 0 (a2_ / 2).toNat 1)) rfl ?_
        refine sm_T_bin (w := 64 * (a2_ / 2)) rfl (bi_mul (by omega) (by omega) (by omega)) ?_ -- pc_ 75
        refine sm_T_go 2 (c1 := (80, [some (.inr (.inr (some (9, 0)))), some (.inr (.inr (some (2, cc_)))), some (.inl a2_), some (.inr (.inl (-1))), none, none, some (.inl (a2_ / 2)), none, none], [.inl 64, .inl (a2_ / 2), .inl (64 * (a2_ / 2)), .inr (.inr (some (93, 0)))], sm_aI Sx10_ 94 0 (a2_ / 2).toNat 1)) rfl ?_
        refine sm_T_bin (w := 64 * (a2_ / 2)) rfl (bi_mul (by omega) (by omega) (by omega)) ?_ -- pc_ 80
        have bx31_ : 0 ≤ Sx10_.1 9 0 2 ∧ Sx10_.1 9 0 2 ≤ 64 := hIx11_.1 9 0 2 rfl
        refine sm_T_go 2 (c1 := (85, [some (.inr (.inr (some (9, 0)))), some (.inr (.inr (some (2, cc_)))), some (.inl a2_), some (.inr (.inl (-1))), none, none, some (.inl (a2_ / 2)), none, none], [.inl (Sx10_.1 9 0 2), .inl (64 * (a2_ / 2)), .inl (64 * (a2_ / 2)), .inr (.inr (some (93, 0)))], sm_aI Sx10_ 94 0 (a2_ / 2).toNat 1)) rfl ?_
        refine sm_T_bin (w := 64 * (a2_ / 2) + (Sx10_.1 9 0 2)) rfl (bi_add (by omega) (by omega) (by omega)) ?_ -- pc_ 85
        refine sm_T_go 1 (c1 := (87, [some (.inr (.inr (some (9, 0)))), some (.inr (.inr (some (2, cc_)))), some (.inl a2_), some (.inr (.inl (-1))), none, none, some (.inl (a2_ / 2)), none, none], [.inr (.inl (-1)), .inl (64 * (a2_ / 2) + (Sx10_.1 9 0 2)), .inl (64 * (a2_ / 2)), .inr (.inr (some (93, 0)))], sm_aI Sx10_ 94 0 (a2_ / 2).toNat 1)) rfl ?_
        refine sm_T_cal (d1 := 1) (Q1 := vq_5b3n (64 * (a2_ / 2)) (64 * (a2_ / 2) + (Sx10_.1 9 0 2)) (-1) (sm_aI Sx10_ 94 0 (a2_ / 2).toNat 1)) rfl rfl (by decide) (vc_5b3n (64 * (a2_ / 2)) (64 * (a2_ / 2) + (Sx10_.1 9 0 2)) (-1) (sm_aI Sx10_ 94 0 (a2_ / 2).toNat 1) hIx29_ (by omega)) (fun u_ Sx32_ px35_ => ?_)
        obtain ⟨rfl, hIx33_, hFx34_, px35_⟩ := px35_
        have hFx36_ : ai_fr (sx_W vw_174n) S0_ Sx32_ := ai_fr_tr hFx30_ (fr_le hFx34_ rfl)
        have q87_ := px35_
        have g94_ : Sx32_.2.2.1 94 0 = (sm_aI Sx10_ 94 0 (a2_ / 2).toNat 1).2.2.1 94 0 := fr_arr hFx34_ rfl
        have g92_ : Sx32_.2.2.2 92 0 = (sm_aI Sx10_ 94 0 (a2_ / 2).toNat 1).2.2.2 92 0 := fr_lon (t_ := 92) (i_ := 0) hFx34_ rfl
        have b87_ : bas9 cc_ a2_ S0_ Sx32_ := bas_fr (bas_fr (w_ := ([], [94], [])) (S'_ := (sm_aI Sx10_ 94 0 (a2_ / 2).toNat 1)) b27_ (ai_fr_aI rfl) (by omega)) hFx34_ (show (sm_aI Sx10_ 94 0 (a2_ / 2).toNat 1).1 2 cc_ 1 + (sm_aI Sx10_ 94 0 (a2_ / 2).toNat 1).1 2 cc_ 2 ≤ 12 from (by (have z9_ : (sm_aI Sx10_ 94 0 (a2_ / 2).toNat 1).1 2 cc_ 1 = S0_.1 2 cc_ 1 := x1_; have z8_ : (sm_aI Sx10_ 94 0 (a2_ / 2).toNat 1).1 2 cc_ 2 = S0_.1 2 cc_ 2 := x2_; omega)))
        have n87_ := shn_fr (show shn (sm_aI Sx10_ 94 0 (a2_ / 2).toNat 1) from n27_) hFx34_
        have r87_ : rdm cc_ S0_ Sx32_ := rdm_fr (rdm_fr (w_ := ([], [94], [])) (S'_ := (sm_aI Sx10_ 94 0 (a2_ / 2).toNat 1)) r27_ (ai_fr_aI rfl)) hFx34_
        have w87 : Sx32_.1 9 0 2 = (sm_aI Sx10_ 94 0 (a2_ / 2).toNat 1).1 9 0 2 := hFx34_.1 9 0 2 rfl
        have kv87_ := kcv_q b87_.2.1 hFx36_
        have v1_ : Sx32_.1 2 cc_ 1 = S0_.1 2 cc_ 1 := hFx36_.1 2 cc_ 1 rfl
        have v2_ : Sx32_.1 2 cc_ 2 = S0_.1 2 cc_ 2 := hFx36_.1 2 cc_ 2 rfl
        have F87_ : ∀ j9_ : Nat, ((a2_ / 2 < S0_.1 2 cc_ 1 + S0_.1 2 cc_ 2 ∧ j9_ = 0) ∨ (S0_.1 2 cc_ 1 + S0_.1 2 cc_ 2 ≤ a2_ / 2 ∧ (j9_ : Int) = a2_ / 2 - (S0_.1 2 cc_ 1 + S0_.1 2 cc_ 2) + 1)) → fwz cc_ a2_ S0_ Sx32_ j9_ := by
          intro j9_ hj9_
          refine ⟨((a2_ / 2).toNat : Int), -1, Or.inl ⟨by (unfold cnc; omega), by omega, rfl⟩, by omega, by omega, ?_⟩
          rw [g94_]
          refine fw9_t (G_ := (S0_.1 2 cc_ 8).toNat) (B_ := fun _ => 0) (t_ := fun n9_ => if n9_ = (a2_ / 2).toNat then 0 else (sm_aI Sx10_ 94 0 (a2_ / 2).toNat 1).2.2.1 94 0 n9_) kv87_.1 (by omega) (by omega) (fun n9_ hn9_ => ?_) (show (S0_.1 2 cc_ 1 + S0_.1 2 cc_ 2).toNat + (S0_.1 2 cc_ 8).toNat ≤ 162 by omega) kv87_.2 ⟨?_, fun n9_ hn9_ => ?_⟩ (fun w9_ hw9_ => (q87_ (64 * (a2_ / 2).toNat + w9_)).trans (if_pos (by (rw [w87] at hw9_; have hw9_ : (w9_ : Int) < _ := hw9_; refine ⟨by omega, ?_⟩; have z9_ : ((64 * (a2_ / 2).toNat + w9_ : Nat) : Int) = 64 * (a2_ / 2) + (w9_ : Int) := (by omega); rw [z9_]; exact Int.add_lt_add_left hw9_ _)))) (fun i9_ hi9_ => ?_)
          · show (if _ then _ else _) = _
            by_cases z9_ : n9_ = (a2_ / 2).toNat
            · rw [if_pos z9_]
            · rw [if_neg z9_, rd_eq, if_neg z9_]; exact e27_ n9_ hn9_
          · rw [rd_eq, if_pos rfl]; decide
          · show _ = (if _ then _ else _)
            rw [if_neg hn9_]
          · first | exact (lbt_m hi9_).trans (decide_eq_true (by omega)).symm | exact lbt_0.trans (decide_eq_false (by omega)).symm
        refine sm_T_go 3 (c1 := (94, [some (.inr (.inr (some (9, 0)))), some (.inr (.inr (some (2, cc_)))), some (.inl a2_), some (.inr (.inl (-1))), none, none, some (.inl (a2_ / 2)), none, none], [.inr (.inr (some (2, cc_))), .inl (a2_ / 2), .inl 0], Sx32_)) rfl ?_
        refine sm_T_cal (d1 := 0) (Q1 := vq_54 cc_ Sx32_) rfl rfl (by decide) (vc_54 cc_ Sx32_ hIx33_ ) (fun u_ Sx37_ px40_ => ?_)
        obtain ⟨rfl, vx42_, rfl, px40_⟩ := px40_
        have m94_ := px40_
        refine sm_T_bin (w := (a2_ / 2) - vx42_) rfl (bi_sub (by omega) (by omega) (by omega)) ?_ -- pc_ 97
        refine sm_T_go 1 (c1 := (99, [some (.inr (.inr (some (9, 0)))), some (.inr (.inr (some (2, cc_)))), some (.inl a2_), some (.inr (.inl (-1))), none, none, some (.inl (a2_ / 2)), none, none], [.inl 1, .inl ((a2_ / 2) - vx42_), .inl 0], Sx32_)) rfl ?_
        refine sm_T_bin (w := (a2_ / 2) - vx42_ + 1) rfl (bi_add (by omega) (by omega) (by omega)) ?_ -- pc_ 99
        refine sm_T_nt (u := some (.inl (sm_mx 0 ((a2_ / 2) - vx42_ + 1)))) (S1 := Sx32_) rfl rfl rfl ?_
        have bx43_ := sm_mx_d 0 ((a2_ / 2) - vx42_ + 1)
        refine sm_T_go 4 (c1 := (199, [some (.inr (.inr (some (9, 0)))), some (.inr (.inr (some (2, cc_)))), some (.inl a2_), some (.inr (.inl (-1))), none, some (.inl (sm_mx 0 ((a2_ / 2) - vx42_ + 1))), some (.inl (sm_mx 0 ((a2_ / 2) - vx42_ + 1))), none, none], [], Sx32_)) rfl ?_
        refine (vl_174n a2_ cc_ S0_ hs_ h2_ hn_ hp_ hgo_ hq0_ _).2.1 (-1) (sm_mx 0 ((a2_ / 2) - vx42_ + 1)) (sm_mx 0 ((a2_ / 2) - vx42_ + 1)) Sx32_ hIx33_ hFx36_ ⟨?_, ?_, ?_, ?_, ?_, trivial⟩ (Nat.lt_succ_self _)
        · omega
        · exact F87_ _ (by omega)
        · exact b87_
        · exact n87_
        · exact r87_
    · have cx15_ : ¬ ((a2_ % 2) ≠ 0) := of_decide_eq_false cx15_
      refine sm_T_go 6 (c1 := (47, [some (.inr (.inr (some (9, 0)))), some (.inr (.inr (some (2, cc_)))), some (.inl a2_), some (.inr (.inl 0)), none, none, none, none, none], [.inr (.inr (some (2, cc_))), .inl 2, .inl a2_], Sx10_)) rfl ?_
      refine sm_T_cal (d1 := 0) (Q1 := vq_55 cc_ Sx10_) rfl rfl (by decide) (vc_55 cc_ Sx10_ hIx11_ ) (fun u_ Sx44_ px47_ => ?_)
      obtain ⟨rfl, vx49_, rfl, px47_⟩ := px47_
      have m47_ := px47_
      refine sm_T_bin (w := 2 * vx49_) rfl (bi_mul (by omega) (by omega) (by omega)) ?_ -- pc_ 50
      refine sm_T_br (a := 3) (z := 57) rfl (fun cx50_ => ?_) (fun cx50_ => ?_)
      · have cx50_ : 2 * vx49_ ≤ a2_ := of_decide_eq_true cx50_
        refine sm_T_go 2 (c1 := (110, [some (.inr (.inr (some (9, 0)))), some (.inr (.inr (some (2, cc_)))), some (.inl a2_), some (.inr (.inl 0)), none, none, none, none, none], [.inl 2, .inl a2_], Sx10_)) rfl ?_
        refine sm_T_bin (w := (a2_ / 2)) rfl (bi_div (by omega) (by omega) (by omega) (by omega)) ?_ -- pc_ 110
        refine sm_T_go 1 (c1 := (112, [some (.inr (.inr (some (9, 0)))), some (.inr (.inr (some (2, cc_)))), some (.inl a2_), some (.inr (.inl 0)), none, none, none, none, none], [.inr (.inr (some (2, cc_))), .inl (a2_ / 2)], Sx10_)) rfl ?_
        refine sm_T_cal (d1 := 0) (Q1 := vq_55 cc_ Sx10_) rfl rfl (by decide) (vc_55 cc_ Sx10_ hIx11_ ) (fun u_ Sx51_ px54_ => ?_)
        obtain ⟨rfl, vx56_, rfl, px54_⟩ := px54_
        have m112_ := px54_
        refine sm_T_bin (w := (a2_ / 2) - vx56_) rfl (bi_sub (by omega) (by omega) (by omega)) ?_ -- pc_ 115
        refine sm_T_go 3 (c1 := (121, [some (.inr (.inr (some (9, 0)))), some (.inr (.inr (some (2, cc_)))), some (.inl a2_), some (.inr (.inl 0)), none, none, some (.inl ((a2_ / 2) - vx56_)), some (.inl 0), none], [], Sx10_)) rfl ?_
        refine (vl_174n a2_ cc_ S0_ hs_ h2_ hn_ hp_ hgo_ hq0_ _).1 0 ((a2_ / 2) - vx56_) 0 Sx10_ hIx11_ hFx14_ ⟨?_, ?_, ?_, ?_, ?_, ?_, ?_, ?_, trivial⟩ (Nat.lt_succ_self _)
        · (have y9_ := sb9_; unfold cfu9 cnc at h2_; omega)
        · (rw [show (0 : Int).toNat = 0 from rfl]; show _ = _ - ((0 : Nat) : Int) ∧ _; omega)
        · (rw [show (0 : Int).toNat = 0 from rfl]; show _ + ((0 : Nat) : Int) < _; unfold cfu9 cnc at h2_; omega)
        · exact fun n9_ hn9_ => e27_ n9_ hn9_
        · (intro i9_ hi9_; first | exact (lbt_m hi9_).trans (decide_eq_true (by omega)).symm | exact lbt_0.trans (decide_eq_false (by omega)).symm)
        · exact b27_
        · exact n27_
        · exact r27_
      · have cx50_ : ¬ (2 * vx49_ ≤ a2_) := of_decide_eq_false cx50_
        refine sm_T_go 2 (c1 := (56, [some (.inr (.inr (some (9, 0)))), some (.inr (.inr (some (2, cc_)))), some (.inl a2_), some (.inr (.inl 0)), none, none, none, none, none], [.inl 1, .inl a2_], Sx10_)) rfl ?_
        refine sm_T_bin (w := (a2_ / 2)) rfl (bi_shr (k := 1) (by decide) (by omega) (by omega)) ?_ -- pc_ 56
        refine sm_T_go 5 (c1 := (66, [some (.inr (.inr (some (9, 0)))), some (.inr (.inr (some (2, cc_)))), some (.inl a2_), some (.inr (.inl 0)), none, none, some (.inl (a2_ / 2)), none, none], [.inl 1, .inl (a2_ / 2), .inr (.inr (some (94, 0)))], Sx10_)) rfl ?_
        refine sm_T_iast (n := 162) rfl rfl (by omega) (by omega) ?_
        have hIx57_ : gi (sm_aI Sx10_ 94 0 (a2_ / 2).toNat 1) := gi_aI hIx11_ (show 0 ≤ 1 ∧ 1 ≤ 1 from ⟨by omega, by omega⟩)
        have hFx58_ : ai_fr (sx_W vw_174n) S0_ (sm_aI Sx10_ 94 0 (a2_ / 2).toNat 1) := ai_fr_tr hFx14_ (ai_fr_aI rfl)
        refine sm_T_go 4 (c1 := (75, [some (.inr (.inr (some (9, 0)))), some (.inr (.inr (some (2, cc_)))), some (.inl a2_), some (.inr (.inl 0)), none, none, some (.inl (a2_ / 2)), none, none], [.inl 64, .inl (a2_ / 2), .inr (.inr (some (93, 0)))], sm_aI Sx10_ 94 0 (a2_ / 2).toNat 1)) rfl ?_
        refine sm_T_bin (w := 64 * (a2_ / 2)) rfl (bi_mul (by omega) (by omega) (by omega)) ?_ -- pc_ 75
        refine sm_T_go 2 (c1 := (80, [some (.inr (.inr (some (9, 0)))), some (.inr (.inr (some (2, cc_)))), some (.inl a2_), some (.inr (.inl 0)), none, none, some (.inl (a2_ / 2)), none, none], [.inl 64, .inl (a2_ / 2), .inl (64 * (a2_ / 2)), .inr (.inr (some (93, 0)))], sm_aI Sx10_ 94 0 (a2_ / 2).toNat 1)) rfl ?_
        refine sm_T_bin (w := 64 * (a2_ / 2)) rfl (bi_mul (by omega) (by omega) (by omega)) ?_ -- pc_ 80
        have bx59_ : 0 ≤ Sx10_.1 9 0 2 ∧ Sx10_.1 9 0 2 ≤ 64 := hIx11_.1 9 0 2 rfl
        refine sm_T_go 2 (c1 := (85, [some (.inr (.inr (some (9, 0)))), some (.inr (.inr (some (2, cc_)))), some (.inl a2_), some (.inr (.inl 0)), none, none, some (.inl (a2_ / 2)), none, none], [.inl (Sx10_.1 9 0 2), .inl (64 * (a2_ / 2)), .inl (64 * (a2_ / 2)), .inr (.inr (some (93, 0)))], sm_aI Sx10_ 94 0 (a2_ / 2).toNat 1)) rfl ?_
        refine sm_T_bin (w := 64 * (a2_ / 2) + (Sx10_.1 9 0 2)) rfl (bi_add (by omega) (by omega) (by omega)) ?_ -- pc_ 85
        refine sm_T_go 1 (c1 := (87, [some (.inr (.inr (some (9, 0)))), some (.inr (.inr (some (2, cc_)))), some (.inl a2_), some (.inr (.inl 0)), none, none, some (.inl (a2_ / 2)), none, none], [.inr (.inl 0), .inl (64 * (a2_ / 2) + (Sx10_.1 9 0 2)), .inl (64 * (a2_ / 2)), .inr (.inr (some (93, 0)))], sm_aI Sx10_ 94 0 (a2_ / 2).toNat 1)) rfl ?_
        refine sm_T_cal (d1 := 1) (Q1 := vq_5b3n (64 * (a2_ / 2)) (64 * (a2_ / 2) + (Sx10_.1 9 0 2)) 0 (sm_aI Sx10_ 94 0 (a2_ / 2).toNat 1)) rfl rfl (by decide) (vc_5b3n (64 * (a2_ / 2)) (64 * (a2_ / 2) + (Sx10_.1 9 0 2)) 0 (sm_aI Sx10_ 94 0 (a2_ / 2).toNat 1) hIx57_ (by omega)) (fun u_ Sx60_ px63_ => ?_)
        obtain ⟨rfl, hIx61_, hFx62_, px63_⟩ := px63_
        have hFx64_ : ai_fr (sx_W vw_174n) S0_ Sx60_ := ai_fr_tr hFx58_ (fr_le hFx62_ rfl)
        have q87_ := px63_
        have g94_ : Sx60_.2.2.1 94 0 = (sm_aI Sx10_ 94 0 (a2_ / 2).toNat 1).2.2.1 94 0 := fr_arr hFx62_ rfl
        have g92_ : Sx60_.2.2.2 92 0 = (sm_aI Sx10_ 94 0 (a2_ / 2).toNat 1).2.2.2 92 0 := fr_lon (t_ := 92) (i_ := 0) hFx62_ rfl
        have b87_ : bas9 cc_ a2_ S0_ Sx60_ := bas_fr (bas_fr (w_ := ([], [94], [])) (S'_ := (sm_aI Sx10_ 94 0 (a2_ / 2).toNat 1)) b27_ (ai_fr_aI rfl) (by omega)) hFx62_ (show (sm_aI Sx10_ 94 0 (a2_ / 2).toNat 1).1 2 cc_ 1 + (sm_aI Sx10_ 94 0 (a2_ / 2).toNat 1).1 2 cc_ 2 ≤ 12 from (by (have z9_ : (sm_aI Sx10_ 94 0 (a2_ / 2).toNat 1).1 2 cc_ 1 = S0_.1 2 cc_ 1 := x1_; have z8_ : (sm_aI Sx10_ 94 0 (a2_ / 2).toNat 1).1 2 cc_ 2 = S0_.1 2 cc_ 2 := x2_; omega)))
        have n87_ := shn_fr (show shn (sm_aI Sx10_ 94 0 (a2_ / 2).toNat 1) from n27_) hFx62_
        have r87_ : rdm cc_ S0_ Sx60_ := rdm_fr (rdm_fr (w_ := ([], [94], [])) (S'_ := (sm_aI Sx10_ 94 0 (a2_ / 2).toNat 1)) r27_ (ai_fr_aI rfl)) hFx62_
        have w87 : Sx60_.1 9 0 2 = (sm_aI Sx10_ 94 0 (a2_ / 2).toNat 1).1 9 0 2 := hFx62_.1 9 0 2 rfl
        have kv87_ := kcv_q b87_.2.1 hFx64_
        have v1_ : Sx60_.1 2 cc_ 1 = S0_.1 2 cc_ 1 := hFx64_.1 2 cc_ 1 rfl
        have v2_ : Sx60_.1 2 cc_ 2 = S0_.1 2 cc_ 2 := hFx64_.1 2 cc_ 2 rfl
        have F87_ : ∀ j9_ : Nat, ((a2_ / 2 < S0_.1 2 cc_ 1 + S0_.1 2 cc_ 2 ∧ j9_ = 0) ∨ (S0_.1 2 cc_ 1 + S0_.1 2 cc_ 2 ≤ a2_ / 2 ∧ (j9_ : Int) = a2_ / 2 - (S0_.1 2 cc_ 1 + S0_.1 2 cc_ 2) + 1)) → fwz cc_ a2_ S0_ Sx60_ j9_ := by
          intro j9_ hj9_
          refine ⟨((a2_ / 2).toNat : Int), -1, Or.inl ⟨by (unfold cnc; omega), by omega, rfl⟩, by omega, by omega, ?_⟩
          rw [g94_]
          refine fw9_t (G_ := (S0_.1 2 cc_ 8).toNat) (B_ := fun _ => 0) (t_ := fun n9_ => if n9_ = (a2_ / 2).toNat then 0 else (sm_aI Sx10_ 94 0 (a2_ / 2).toNat 1).2.2.1 94 0 n9_) kv87_.1 (by omega) (by omega) (fun n9_ hn9_ => ?_) (show (S0_.1 2 cc_ 1 + S0_.1 2 cc_ 2).toNat + (S0_.1 2 cc_ 8).toNat ≤ 162 by omega) kv87_.2 ⟨?_, fun n9_ hn9_ => ?_⟩ (fun w9_ hw9_ => (q87_ (64 * (a2_ / 2).toNat + w9_)).trans (if_pos (by (rw [w87] at hw9_; have hw9_ : (w9_ : Int) < _ := hw9_; refine ⟨by omega, ?_⟩; have z9_ : ((64 * (a2_ / 2).toNat + w9_ : Nat) : Int) = 64 * (a2_ / 2) + (w9_ : Int) := (by omega); rw [z9_]; exact Int.add_lt_add_left hw9_ _)))) (fun i9_ hi9_ => ?_)
          · show (if _ then _ else _) = _
            by_cases z9_ : n9_ = (a2_ / 2).toNat
            · rw [if_pos z9_]
            · rw [if_neg z9_, rd_eq, if_neg z9_]; exact e27_ n9_ hn9_
          · rw [rd_eq, if_pos rfl]; decide
          · show _ = (if _ then _ else _)
            rw [if_neg hn9_]
          · first | exact (lbt_m hi9_).trans (decide_eq_true (by omega)).symm | exact lbt_0.trans (decide_eq_false (by omega)).symm
        refine sm_T_go 3 (c1 := (94, [some (.inr (.inr (some (9, 0)))), some (.inr (.inr (some (2, cc_)))), some (.inl a2_), some (.inr (.inl 0)), none, none, some (.inl (a2_ / 2)), none, none], [.inr (.inr (some (2, cc_))), .inl (a2_ / 2), .inl 0], Sx60_)) rfl ?_
        refine sm_T_cal (d1 := 0) (Q1 := vq_54 cc_ Sx60_) rfl rfl (by decide) (vc_54 cc_ Sx60_ hIx61_ ) (fun u_ Sx65_ px68_ => ?_)
        obtain ⟨rfl, vx70_, rfl, px68_⟩ := px68_
        have m94_ := px68_
        refine sm_T_bin (w := (a2_ / 2) - vx70_) rfl (bi_sub (by omega) (by omega) (by omega)) ?_ -- pc_ 97
        refine sm_T_go 1 (c1 := (99, [some (.inr (.inr (some (9, 0)))), some (.inr (.inr (some (2, cc_)))), some (.inl a2_), some (.inr (.inl 0)), none, none, some (.inl (a2_ / 2)), none, none], [.inl 1, .inl ((a2_ / 2) - vx70_), .inl 0], Sx60_)) rfl ?_
        refine sm_T_bin (w := (a2_ / 2) - vx70_ + 1) rfl (bi_add (by omega) (by omega) (by omega)) ?_ -- pc_ 99
        refine sm_T_nt (u := some (.inl (sm_mx 0 ((a2_ / 2) - vx70_ + 1)))) (S1 := Sx60_) rfl rfl rfl ?_
        have bx71_ := sm_mx_d 0 ((a2_ / 2) - vx70_ + 1)
        refine sm_T_go 4 (c1 := (199, [some (.inr (.inr (some (9, 0)))), some (.inr (.inr (some (2, cc_)))), some (.inl a2_), some (.inr (.inl 0)), none, some (.inl (sm_mx 0 ((a2_ / 2) - vx70_ + 1))), some (.inl (sm_mx 0 ((a2_ / 2) - vx70_ + 1))), none, none], [], Sx60_)) rfl ?_
        refine (vl_174n a2_ cc_ S0_ hs_ h2_ hn_ hp_ hgo_ hq0_ _).2.1 0 (sm_mx 0 ((a2_ / 2) - vx70_ + 1)) (sm_mx 0 ((a2_ / 2) - vx70_ + 1)) Sx60_ hIx61_ hFx64_ ⟨?_, ?_, ?_, ?_, ?_, trivial⟩ (Nat.lt_succ_self _)
        · omega
        · exact F87_ _ (by omega)
        · exact b87_
        · exact n87_
        · exact r87_
  · have cx7_ : ¬ ((Sx1_.2.2.1 96 0 a2_.toNat) = 0) := of_decide_eq_false cx7_
    refine sm_T_rv rfl ⟨_, _, rfl, rfl, hIx2_, hFx5_, ?_⟩
    exact ⟨fun j8_ e8_ e9_ h9_ => (by (rw [rk2 e8_ e9_]; exact h9_)), ⟨tk2.1, tk2.2.1⟩, n2_, tk2.2.2, by (first | assumption | omega)⟩
