/-! the reference: a design told; written by wip/p55/gen/vg -/

/-! a_ design told -/
theorem rd_0 {b_ : Nat → Int} {n_ T_ : Nat} {S_ : sm_S} (ht_ : rtab b_ n_ T_ S_) : (S_.2.2.1 119 0 0 = 4 → lx_kd b_ n_ (lx_k b_ n_ 0) = -1 ∧ S_.2.2.1 120 0 0 = (lx_k b_ n_ 0 : Nat)) ∧ (S_.2.2.1 119 0 0 ≠ 4 → rp b_ n_ T_ 0 (lx_k b_ n_ 0)) := by
  obtain ⟨h1_, h2_, h3_, h4_, h5_, h6_, h7_, h8_⟩ := ht_
  by_cases g_ : T_ = 0
  · subst g_
    have e_ : lxp b_ n_ 0 = n_ := by
      rcases h7_ with z_ | z_
      · exact z_.1
      · exact absurd z_.1 (by omega)
    have e2_ : lx_k b_ n_ 0 = n_ := e_
    refine ⟨fun z_ => by rw [h4_] at z_; exact absurd z_ (by decide), fun _ => ⟨Nat.le_refl _, rfl, ?_, fun _ => e_⟩⟩
    rw [e2_, lx_kd_n]
    decide
  · have k_ := h3_.1 0 (by omega)
    have k1_ : S_.2.2.1 120 0 0 = (lx_k b_ n_ 0 : Nat) := k_.2.1
    have k2_ : S_.2.2.1 119 0 0 = r_so (lx_kd b_ n_ (lx_k b_ n_ 0)) := k_.2.2.1
    refine ⟨fun z_ => ⟨?_, k1_⟩, fun z_ => ⟨Nat.zero_le _, rfl, ?_, fun z_ => absurd z_.symm g_⟩⟩
    · rw [z_] at k2_
      unfold r_so at k2_
      split at k2_
      · assumption
      · exfalso
        split at k2_
        · omega
        · split at k2_
          · omega
          · split at k2_ <;> omega
    · intro y_
      apply z_
      rw [k2_, y_]
      rfl
def r_mm (S_ : sm_S) : Nat := if S_.1 13 0 10 ≠ 0 then 0 else (20 - S_.1 13 0 12).toNat
/-- the_ limits of_ a_ design -/
def p_lm (is_ ib_ rb ob_ : Int) : Int := if 200 < is_ then 20 else if 12 < ib_ + rb ∨ 6 < rb then 21 else if ob_ = 0 ∨ 16 < ob_ then 22 else 0
def A_0 : pA := (fun _ => 0, fun _ => 0, fun _ => 0, fun _ => 0, fun _ => 0)
def rI (b_ : Nat → Int) (n_ T_ : Nat) (X_ : pE pD) (S_ : sm_S) : Prop := ∃ q_, rg b_ n_ T_ (.inr q_) S_ ∧ S_.1 13 0 12 = 0 ∧ X_ = pb (p_bm b_ n_ A_0 (fun _ => 0) 0 q_) fun x_ => p_dl b_ n_ (n_ + 1) x_.1 x_.2.1 0 (fun _ => 0) [] x_.2.2
/-- what is_ there when a_ design is_ told -/
def rE (b_ : Nat → Int) (n_ T_ : Nat) (X_ : pE pD) (S_ : sm_S) : Prop := ∃ r_, X_ = .inr r_ ∧ rT b_ n_ T_ r_.1 r_.2.1 r_.2.2.1 S_ ∧ 1 ≤ r_.2.2.1 ∧ S_.1 13 0 10 = p_lm (S_.2.2.1 135 0 (r_.2.2.1 - 1)) (S_.2.2.1 132 0 (r_.2.2.1 - 1)) (S_.2.2.1 134 0 (r_.2.2.1 - 1)) (S_.2.2.1 133 0 (r_.2.2.1 - 1)) ∧ (S_.1 13 0 10 ≠ 0 → S_.1 13 0 11 = (r_.2.1 (r_.2.2.1 - 1) : Int))
theorem fb_r {S_ S'_ : sm_S} {f_ pl_ : Int} (h_ : (S_.1 13 0 10 ≠ 0 ∧ S'_.1 13 0 10 = S_.1 13 0 10 ∧ S'_.1 13 0 11 = S_.1 13 0 11) ∨ (S_.1 13 0 10 = 0 ∧ S'_.1 13 0 10 = f_ ∧ S'_.1 13 0 11 = pl_)) (h0_ : S_.1 13 0 10 = 0) : S'_.1 13 0 10 = f_ ∧ S'_.1 13 0 11 = pl_ := by
  rcases h_ with z_ | z_
  · exact absurd h0_ z_.1
  · exact z_.2
theorem rE_f {b_ : Nat → Int} {n_ T_ M_ : Nat} {X_ : pE pD} {A_ : pA} {N_ mc : Nat → Nat} {c_ : List Int} {S_ : sm_S} (hX_ : X_ = .inr (A_, N_, M_, mc, c_)) (hT_ : rT b_ n_ T_ A_ N_ M_ S_) (hM_ : 1 ≤ M_) (h_ : S_.1 13 0 10 = p_lm (S_.2.2.1 135 0 (M_ - 1)) (S_.2.2.1 132 0 (M_ - 1)) (S_.2.2.1 134 0 (M_ - 1)) (S_.2.2.1 133 0 (M_ - 1))) (h2_ : S_.1 13 0 10 ≠ 0 → S_.1 13 0 11 = (N_ (M_ - 1) : Int)) : rE b_ n_ T_ X_ S_ := ⟨_, hX_, hT_, hM_, h_, h2_⟩
theorem rT_0 {b_ : Nat → Int} {n_ T_ : Nat} {N_ : Nat → Nat} {S_ : sm_S} (h_ : S_.1 13 0 12 = 0) : rT b_ n_ T_ A_0 N_ 0 S_ := ⟨h_, by omega, fun m_ hm_ => absurd hm_ (Nat.not_lt_zero _), fun m_ hm_ => absurd hm_ (Nat.not_lt_zero _), fun m_ hm_ => absurd hm_ (Nat.not_lt_zero _), ⟨by omega, fun m_ hm_ => absurd hm_ (Nat.not_lt_zero _)⟩, fun m_ hm_ => absurd hm_ (Nat.not_lt_zero _)⟩
/-! M_.tellDesign -/
def vw_340 : sx_Wl := ([(13, 3), (13, 9), (13, 10), (13, 11), (13, 12), (13, 25), (13, 26), (13, 27), (13, 28), (13, 32), (13, 33), (13, 34)], [119, 120, 121, 122, 123, 124, 125, 126, 127, 128, 129, 130, 131, 132, 133, 134, 135, 136, 137, 138, 139], [])
def vq_340 (b_ : Nat → Int) (n_ : Nat) (S0_ : sm_S) (u_ : Option sm_V) (S1_ : sm_S) : Prop := u_ = none ∧ gi S1_ ∧ ai_fr (sx_W vw_340) S0_ S1_ ∧ (∃ T_, rtab b_ n_ T_ S1_ ∧ (rX b_ n_ T_ (p_de b_ n_) S1_ ∨ rE b_ n_ T_ (p_de b_ n_) S1_))
set_option maxHeartbeats 2000000 in
theorem vl_340 {sc_ : Nat × (Nat → Int)} (b_ : Nat → Int) (n_ : Nat) (S0_ : sm_S) (hb_ : S0_.2.2.1 118 0 = b_) (hn_ : (S0_.1 13 0 2) = (n_ : Int)) (hn1_ : n_ ≤ 1280) : ∀ nn_ : Nat, (∀  (S_ : sm_S), gi S_ → ai_fr (sx_W vw_340) S0_ S_ → ((∃ T_, rtab b_ n_ T_ S_ ∧ (rX b_ n_ T_ (p_de b_ n_) S_ ∨ rN b_ n_ T_ (p_de b_ n_) S_ ∨ rI b_ n_ T_ (p_de b_ n_) S_)) ∧ ((S_.1 13 0 27) = 0) ∧ True) → (r_mm S_) < nn_ → sm_T (mt_P sc_) 11 340 (33, [some (.inr (.inr (some (13, 0)))), none, none], [], S_) (fun ro9_ => ∃ u_ S1_, ro9_ = (.inl u_, S1_, 0) ∧ vq_340 b_ n_ S0_ u_ S1_)) := by
  intro nn_
  induction nn_ with
  | zero => exact fun  _ _ _ _ h_ => absurd h_ (Nat.not_lt_zero _)
  | succ nn_ ih_ =>
    rintro  S_ hI_ hF_ ⟨h1_, mo33_, -⟩ hm_
    obtain ⟨T_, t33_, h1_⟩ := h1_
    refine sm_T_go 1 (c1 := (34, [some (.inr (.inr (some (13, 0)))), none, none], [.inr (.inr (some (13, 0)))], S_)) rfl ?_
    refine sm_T_cal (d1 := 0) (Q1 := vq_292  S_) rfl rfl (by decide) (vc_292  S_ hI_ ) (fun u_ Sx1_ px4_ => ?_)
    obtain ⟨rfl, vx6_, rfl, px4_⟩ := px4_
    have e34_ := px4_
    refine sm_T_b0 (a := 0) (z := 30) rfl (fun cx7_ => ?_) (fun cx7_ => ?_)
    · have cx7_ : vx6_ = 0 := of_decide_eq_true cx7_
      have hz_ := wr_if e34_ (by omega)
      refine sm_T_go 1 (c1 := (68, [some (.inr (.inr (some (13, 0)))), none, none], [.inr (.inr (some (13, 0)))], S_)) rfl ?_
      refine sm_T_cal (d1 := 0) (Q1 := vq_292  S_) rfl rfl (by decide) (vc_292  S_ hI_ ) (fun u_ Sx8_ px11_ => ?_)
      obtain ⟨rfl, vx13_, rfl, px11_⟩ := px11_
      have e68_ := px11_
      refine sm_T_b0 (a := 1) (z := 4) rfl (fun cx14_ => ?_) (fun cx14_ => ?_)
      · have cx14_ : vx13_ ≠ 0 := of_decide_eq_true cx14_
        have hz7_ := rt_if e68_ (by omega)
        have dummy7 := hz7_
        have bx15_ : 0 ≤ S_.1 13 0 12 ∧ S_.1 13 0 12 ≤ 16 := hI_.1 13 0 12 rfl
        refine sm_T_go 3 (c1 := (80, [some (.inr (.inr (some (13, 0)))), none, none], [.inl 1, .inl (S_.1 13 0 12)], S_)) rfl ?_
        refine sm_T_bin (w := (S_.1 13 0 12) - 1) rfl (bi_sub (by omega) (by omega) (by omega)) ?_
        refine sm_T_go 4 (c1 := (87, [some (.inr (.inr (some (13, 0)))), some (.inl ((S_.1 13 0 12) - 1)), none], [.inl ((S_.1 13 0 12) - 1), .inr (.inr (some (135, 0)))], S_)) rfl ?_
        refine sm_T_iald (n := 16) rfl rfl (by omega) (by omega) ?_
        have bx16_ : 0 ≤ S_.2.2.1 135 0 ((S_.1 13 0 12) - 1).toNat ∧ S_.2.2.1 135 0 ((S_.1 13 0 12) - 1).toNat ≤ 1073741823 := hI_.2 135 0 _
        refine sm_T_go 1 (c1 := (91, [some (.inr (.inr (some (13, 0)))), some (.inl ((S_.1 13 0 12) - 1)), none], [.inl 200, .inl (S_.2.2.1 135 0 ((S_.1 13 0 12) - 1).toNat)], S_)) rfl ?_
        refine sm_T_br (a := 5) (z := 8) rfl (fun cx17_ => ?_) (fun cx17_ => ?_)
        · have cx17_ : (S_.2.2.1 135 0 ((S_.1 13 0 12) - 1).toNat) ≤ 200 := of_decide_eq_true cx17_
          refine sm_T_go 3 (c1 := (104, [some (.inr (.inr (some (13, 0)))), some (.inl ((S_.1 13 0 12) - 1)), none], [.inl ((S_.1 13 0 12) - 1), .inr (.inr (some (132, 0)))], S_)) rfl ?_
          refine sm_T_iald (n := 16) rfl rfl (by omega) (by omega) ?_
          have bx18_ : 0 ≤ S_.2.2.1 132 0 ((S_.1 13 0 12) - 1).toNat ∧ S_.2.2.1 132 0 ((S_.1 13 0 12) - 1).toNat ≤ 320 := hI_.2 132 0 _
          refine sm_T_go 3 (c1 := (110, [some (.inr (.inr (some (13, 0)))), some (.inl ((S_.1 13 0 12) - 1)), none], [.inl ((S_.1 13 0 12) - 1), .inr (.inr (some (134, 0))), .inl (S_.2.2.1 132 0 ((S_.1 13 0 12) - 1).toNat)], S_)) rfl ?_
          refine sm_T_iald (n := 16) rfl rfl (by omega) (by omega) ?_
          have bx19_ : 0 ≤ S_.2.2.1 134 0 ((S_.1 13 0 12) - 1).toNat ∧ S_.2.2.1 134 0 ((S_.1 13 0 12) - 1).toNat ≤ 1073741823 := hI_.2 134 0 _
          refine sm_T_bin (w := (S_.2.2.1 132 0 ((S_.1 13 0 12) - 1).toNat) + (S_.2.2.1 134 0 ((S_.1 13 0 12) - 1).toNat)) rfl (bi_add (by omega) (by omega) (by omega)) ?_
          refine sm_T_go 1 (c1 := (114, [some (.inr (.inr (some (13, 0)))), some (.inl ((S_.1 13 0 12) - 1)), none], [.inl 12, .inl ((S_.2.2.1 132 0 ((S_.1 13 0 12) - 1).toNat) + (S_.2.2.1 134 0 ((S_.1 13 0 12) - 1).toNat))], S_)) rfl ?_
          refine sm_T_br (a := 4) (z := 14) rfl (fun cx20_ => ?_) (fun cx20_ => ?_)
          · have cx20_ : 12 < (S_.2.2.1 132 0 ((S_.1 13 0 12) - 1).toNat) + (S_.2.2.1 134 0 ((S_.1 13 0 12) - 1).toNat) := of_decide_eq_true cx20_
            refine sm_T_go 10 (c1 := (171, [some (.inr (.inr (some (13, 0)))), some (.inl ((S_.1 13 0 12) - 1)), some (.inl 21)], [.inl ((S_.1 13 0 12) - 1), .inr (.inr (some (124, 0))), .inl 21, .inr (.inr (some (13, 0)))], S_)) rfl ?_
            refine sm_T_iald (n := 16) rfl rfl (by omega) (by omega) ?_
            have bx21_ : 0 ≤ S_.2.2.1 124 0 ((S_.1 13 0 12) - 1).toNat ∧ S_.2.2.1 124 0 ((S_.1 13 0 12) - 1).toNat ≤ 1280 := hI_.2 124 0 _
            refine sm_T_cal (d1 := 0) (Q1 := vq_294 21 (S_.2.2.1 124 0 ((S_.1 13 0 12) - 1).toNat) S_) rfl rfl (by decide) (vc_294 21 (S_.2.2.1 124 0 ((S_.1 13 0 12) - 1).toNat) S_ hI_ (by decide) (by omega)) (fun u_ Sx22_ px25_ => ?_)
            obtain ⟨rfl, hIx23_, hFx24_, px25_⟩ := px25_
            have hFx26_ : ai_fr (sx_W vw_340) S0_ Sx22_ := ai_fr_tr hF_ (fr_le hFx24_ rfl)
            have ex27_ : Sx22_.1 13 0 12 = S_.1 13 0 12 := hFx24_.1 13 0 12 rfl
            have t172_ := rtab_fr t33_ hFx24_ rfl rfl rfl rfl rfl
            first | (have T172_ := rT_fr T1_ hFx24_ rfl rfl rfl rfl rfl rfl rfl rfl rfl rfl rfl rfl rfl) | skip
            have e172_ := fb_r px25_ hz7_
            have a132_ := fr_arr (t := 132) (i := 0) hFx24_ rfl
            have a133_ := fr_arr (t := 133) (i := 0) hFx24_ rfl
            have a134_ := fr_arr (t := 134) (i := 0) hFx24_ rfl
            have a135_ := fr_arr (t := 135) (i := 0) hFx24_ rfl
            refine sm_T_rv rfl ⟨_, _, rfl, rfl, hIx23_, hFx26_, ?_⟩
            first | (exact absurd hz7_ hz_) | (refine ⟨T_, t172_, Or.inr (rE_f hX1_ T172_ hM1_ ?_ fun _ => ?_)⟩; (rw [a132_, a133_, a134_, a135_, e172_.1, ← mI_]; unfold p_lm; first | (rw [if_pos (by omega)]) | (rw [if_neg (by omega), if_pos (by omega)]) | (rw [if_neg (by omega), if_neg (by omega), if_pos (by omega)])); (rw [e172_.2, ← mI_]; exact pt1_.2)) | (refine ⟨T_, t33_, Or.inr (rE_f hX1_ T1_ hM1_ ?_ fun z_ => absurd hz_ z_)⟩; rw [hz_, ← mI_]; unfold p_lm; rw [if_neg (by omega), if_neg (by omega), if_neg (by omega)])
          · have cx20_ : ¬ (12 < (S_.2.2.1 132 0 ((S_.1 13 0 12) - 1).toNat) + (S_.2.2.1 134 0 ((S_.1 13 0 12) - 1).toNat)) := of_decide_eq_false cx20_
            refine sm_T_go 3 (c1 := (122, [some (.inr (.inr (some (13, 0)))), some (.inl ((S_.1 13 0 12) - 1)), none], [.inl ((S_.1 13 0 12) - 1), .inr (.inr (some (134, 0)))], S_)) rfl ?_
            refine sm_T_iald (n := 16) rfl rfl (by omega) (by omega) ?_
            refine sm_T_go 1 (c1 := (125, [some (.inr (.inr (some (13, 0)))), some (.inl ((S_.1 13 0 12) - 1)), none], [.inl 6, .inl (S_.2.2.1 134 0 ((S_.1 13 0 12) - 1).toNat)], S_)) rfl ?_
            refine sm_T_br (a := 5) (z := 8) rfl (fun cx28_ => ?_) (fun cx28_ => ?_)
            · have cx28_ : (S_.2.2.1 134 0 ((S_.1 13 0 12) - 1).toNat) ≤ 6 := of_decide_eq_true cx28_
              refine sm_T_go 3 (c1 := (138, [some (.inr (.inr (some (13, 0)))), some (.inl ((S_.1 13 0 12) - 1)), none], [.inl ((S_.1 13 0 12) - 1), .inr (.inr (some (133, 0)))], S_)) rfl ?_
              refine sm_T_iald (n := 16) rfl rfl (by omega) (by omega) ?_
              have bx29_ : 0 ≤ S_.2.2.1 133 0 ((S_.1 13 0 12) - 1).toNat ∧ S_.2.2.1 133 0 ((S_.1 13 0 12) - 1).toNat ≤ 320 := hI_.2 133 0 _
              refine sm_T_b0 (a := 0) (z := 14) rfl (fun cx30_ => ?_) (fun cx30_ => ?_)
              · have cx30_ : (S_.2.2.1 133 0 ((S_.1 13 0 12) - 1).toNat) = 0 := of_decide_eq_true cx30_
                refine sm_T_go 10 (c1 := (171, [some (.inr (.inr (some (13, 0)))), some (.inl ((S_.1 13 0 12) - 1)), some (.inl 22)], [.inl ((S_.1 13 0 12) - 1), .inr (.inr (some (124, 0))), .inl 22, .inr (.inr (some (13, 0)))], S_)) rfl ?_
                refine sm_T_iald (n := 16) rfl rfl (by omega) (by omega) ?_
                have bx31_ : 0 ≤ S_.2.2.1 124 0 ((S_.1 13 0 12) - 1).toNat ∧ S_.2.2.1 124 0 ((S_.1 13 0 12) - 1).toNat ≤ 1280 := hI_.2 124 0 _
                refine sm_T_cal (d1 := 0) (Q1 := vq_294 22 (S_.2.2.1 124 0 ((S_.1 13 0 12) - 1).toNat) S_) rfl rfl (by decide) (vc_294 22 (S_.2.2.1 124 0 ((S_.1 13 0 12) - 1).toNat) S_ hI_ (by decide) (by omega)) (fun u_ Sx32_ px35_ => ?_)
                obtain ⟨rfl, hIx33_, hFx34_, px35_⟩ := px35_
                have hFx36_ : ai_fr (sx_W vw_340) S0_ Sx32_ := ai_fr_tr hF_ (fr_le hFx34_ rfl)
                have ex37_ : Sx32_.1 13 0 12 = S_.1 13 0 12 := hFx34_.1 13 0 12 rfl
                have t172_ := rtab_fr t33_ hFx34_ rfl rfl rfl rfl rfl
                first | (have T172_ := rT_fr T1_ hFx34_ rfl rfl rfl rfl rfl rfl rfl rfl rfl rfl rfl rfl rfl) | skip
                have e172_ := fb_r px35_ hz7_
                have a132_ := fr_arr (t := 132) (i := 0) hFx34_ rfl
                have a133_ := fr_arr (t := 133) (i := 0) hFx34_ rfl
                have a134_ := fr_arr (t := 134) (i := 0) hFx34_ rfl
                have a135_ := fr_arr (t := 135) (i := 0) hFx34_ rfl
                refine sm_T_rv rfl ⟨_, _, rfl, rfl, hIx33_, hFx36_, ?_⟩
                first | (exact absurd hz7_ hz_) | (refine ⟨T_, t172_, Or.inr (rE_f hX1_ T172_ hM1_ ?_ fun _ => ?_)⟩; (rw [a132_, a133_, a134_, a135_, e172_.1, ← mI_]; unfold p_lm; first | (rw [if_pos (by omega)]) | (rw [if_neg (by omega), if_pos (by omega)]) | (rw [if_neg (by omega), if_neg (by omega), if_pos (by omega)])); (rw [e172_.2, ← mI_]; exact pt1_.2)) | (refine ⟨T_, t33_, Or.inr (rE_f hX1_ T1_ hM1_ ?_ fun z_ => absurd hz_ z_)⟩; rw [hz_, ← mI_]; unfold p_lm; rw [if_neg (by omega), if_neg (by omega), if_neg (by omega)])
              · have cx30_ : ¬ ((S_.2.2.1 133 0 ((S_.1 13 0 12) - 1).toNat) = 0) := of_decide_eq_false cx30_
                refine sm_T_go 3 (c1 := (147, [some (.inr (.inr (some (13, 0)))), some (.inl ((S_.1 13 0 12) - 1)), none], [.inl ((S_.1 13 0 12) - 1), .inr (.inr (some (133, 0)))], S_)) rfl ?_
                refine sm_T_iald (n := 16) rfl rfl (by omega) (by omega) ?_
                refine sm_T_go 1 (c1 := (150, [some (.inr (.inr (some (13, 0)))), some (.inl ((S_.1 13 0 12) - 1)), none], [.inl 16, .inl (S_.2.2.1 133 0 ((S_.1 13 0 12) - 1).toNat)], S_)) rfl ?_
                refine sm_T_br (a := 5) (z := 8) rfl (fun cx38_ => ?_) (fun cx38_ => ?_)
                · have cx38_ : (S_.2.2.1 133 0 ((S_.1 13 0 12) - 1).toNat) ≤ 16 := of_decide_eq_true cx38_
                  refine sm_T_go 4 (c1 := (175, [some (.inr (.inr (some (13, 0)))), some (.inl ((S_.1 13 0 12) - 1)), some (.inl 0)], [], S_)) rfl ?_
                  refine sm_T_rv rfl ⟨_, _, rfl, rfl, hI_, hF_, ?_⟩
                  first | (exact absurd hz7_ hz_) | (refine ⟨T_, t172_, Or.inr (rE_f hX1_ T172_ hM1_ ?_ fun _ => ?_)⟩; (rw [a132_, a133_, a134_, a135_, e172_.1, ← mI_]; unfold p_lm; first | (rw [if_pos (by omega)]) | (rw [if_neg (by omega), if_pos (by omega)]) | (rw [if_neg (by omega), if_neg (by omega), if_pos (by omega)])); (rw [e172_.2, ← mI_]; exact pt1_.2)) | (refine ⟨T_, t33_, Or.inr (rE_f hX1_ T1_ hM1_ ?_ fun z_ => absurd hz_ z_)⟩; rw [hz_, ← mI_]; unfold p_lm; rw [if_neg (by omega), if_neg (by omega), if_neg (by omega)])
                · have cx38_ : ¬ ((S_.2.2.1 133 0 ((S_.1 13 0 12) - 1).toNat) ≤ 16) := of_decide_eq_false cx38_
                  refine sm_T_go 10 (c1 := (171, [some (.inr (.inr (some (13, 0)))), some (.inl ((S_.1 13 0 12) - 1)), some (.inl 22)], [.inl ((S_.1 13 0 12) - 1), .inr (.inr (some (124, 0))), .inl 22, .inr (.inr (some (13, 0)))], S_)) rfl ?_
                  refine sm_T_iald (n := 16) rfl rfl (by omega) (by omega) ?_
                  have bx39_ : 0 ≤ S_.2.2.1 124 0 ((S_.1 13 0 12) - 1).toNat ∧ S_.2.2.1 124 0 ((S_.1 13 0 12) - 1).toNat ≤ 1280 := hI_.2 124 0 _
                  refine sm_T_cal (d1 := 0) (Q1 := vq_294 22 (S_.2.2.1 124 0 ((S_.1 13 0 12) - 1).toNat) S_) rfl rfl (by decide) (vc_294 22 (S_.2.2.1 124 0 ((S_.1 13 0 12) - 1).toNat) S_ hI_ (by decide) (by omega)) (fun u_ Sx40_ px43_ => ?_)
                  obtain ⟨rfl, hIx41_, hFx42_, px43_⟩ := px43_
                  have hFx44_ : ai_fr (sx_W vw_340) S0_ Sx40_ := ai_fr_tr hF_ (fr_le hFx42_ rfl)
                  have ex45_ : Sx40_.1 13 0 12 = S_.1 13 0 12 := hFx42_.1 13 0 12 rfl
                  have t172_ := rtab_fr t33_ hFx42_ rfl rfl rfl rfl rfl
                  first | (have T172_ := rT_fr T1_ hFx42_ rfl rfl rfl rfl rfl rfl rfl rfl rfl rfl rfl rfl rfl) | skip
                  have e172_ := fb_r px43_ hz7_
                  have a132_ := fr_arr (t := 132) (i := 0) hFx42_ rfl
                  have a133_ := fr_arr (t := 133) (i := 0) hFx42_ rfl
                  have a134_ := fr_arr (t := 134) (i := 0) hFx42_ rfl
                  have a135_ := fr_arr (t := 135) (i := 0) hFx42_ rfl
                  refine sm_T_rv rfl ⟨_, _, rfl, rfl, hIx41_, hFx44_, ?_⟩
                  first | (exact absurd hz7_ hz_) | (refine ⟨T_, t172_, Or.inr (rE_f hX1_ T172_ hM1_ ?_ fun _ => ?_)⟩; (rw [a132_, a133_, a134_, a135_, e172_.1, ← mI_]; unfold p_lm; first | (rw [if_pos (by omega)]) | (rw [if_neg (by omega), if_pos (by omega)]) | (rw [if_neg (by omega), if_neg (by omega), if_pos (by omega)])); (rw [e172_.2, ← mI_]; exact pt1_.2)) | (refine ⟨T_, t33_, Or.inr (rE_f hX1_ T1_ hM1_ ?_ fun z_ => absurd hz_ z_)⟩; rw [hz_, ← mI_]; unfold p_lm; rw [if_neg (by omega), if_neg (by omega), if_neg (by omega)])
            · have cx28_ : ¬ ((S_.2.2.1 134 0 ((S_.1 13 0 12) - 1).toNat) ≤ 6) := of_decide_eq_false cx28_
              refine sm_T_go 10 (c1 := (171, [some (.inr (.inr (some (13, 0)))), some (.inl ((S_.1 13 0 12) - 1)), some (.inl 21)], [.inl ((S_.1 13 0 12) - 1), .inr (.inr (some (124, 0))), .inl 21, .inr (.inr (some (13, 0)))], S_)) rfl ?_
              refine sm_T_iald (n := 16) rfl rfl (by omega) (by omega) ?_
              have bx46_ : 0 ≤ S_.2.2.1 124 0 ((S_.1 13 0 12) - 1).toNat ∧ S_.2.2.1 124 0 ((S_.1 13 0 12) - 1).toNat ≤ 1280 := hI_.2 124 0 _
              refine sm_T_cal (d1 := 0) (Q1 := vq_294 21 (S_.2.2.1 124 0 ((S_.1 13 0 12) - 1).toNat) S_) rfl rfl (by decide) (vc_294 21 (S_.2.2.1 124 0 ((S_.1 13 0 12) - 1).toNat) S_ hI_ (by decide) (by omega)) (fun u_ Sx47_ px50_ => ?_)
              obtain ⟨rfl, hIx48_, hFx49_, px50_⟩ := px50_
              have hFx51_ : ai_fr (sx_W vw_340) S0_ Sx47_ := ai_fr_tr hF_ (fr_le hFx49_ rfl)
              have ex52_ : Sx47_.1 13 0 12 = S_.1 13 0 12 := hFx49_.1 13 0 12 rfl
              have t172_ := rtab_fr t33_ hFx49_ rfl rfl rfl rfl rfl
              first | (have T172_ := rT_fr T1_ hFx49_ rfl rfl rfl rfl rfl rfl rfl rfl rfl rfl rfl rfl rfl) | skip
              have e172_ := fb_r px50_ hz7_
              have a132_ := fr_arr (t := 132) (i := 0) hFx49_ rfl
              have a133_ := fr_arr (t := 133) (i := 0) hFx49_ rfl
              have a134_ := fr_arr (t := 134) (i := 0) hFx49_ rfl
              have a135_ := fr_arr (t := 135) (i := 0) hFx49_ rfl
              refine sm_T_rv rfl ⟨_, _, rfl, rfl, hIx48_, hFx51_, ?_⟩
              first | (exact absurd hz7_ hz_) | (refine ⟨T_, t172_, Or.inr (rE_f hX1_ T172_ hM1_ ?_ fun _ => ?_)⟩; (rw [a132_, a133_, a134_, a135_, e172_.1, ← mI_]; unfold p_lm; first | (rw [if_pos (by omega)]) | (rw [if_neg (by omega), if_pos (by omega)]) | (rw [if_neg (by omega), if_neg (by omega), if_pos (by omega)])); (rw [e172_.2, ← mI_]; exact pt1_.2)) | (refine ⟨T_, t33_, Or.inr (rE_f hX1_ T1_ hM1_ ?_ fun z_ => absurd hz_ z_)⟩; rw [hz_, ← mI_]; unfold p_lm; rw [if_neg (by omega), if_neg (by omega), if_neg (by omega)])
        · have cx17_ : ¬ ((S_.2.2.1 135 0 ((S_.1 13 0 12) - 1).toNat) ≤ 200) := of_decide_eq_false cx17_
          refine sm_T_go 10 (c1 := (171, [some (.inr (.inr (some (13, 0)))), some (.inl ((S_.1 13 0 12) - 1)), some (.inl 20)], [.inl ((S_.1 13 0 12) - 1), .inr (.inr (some (124, 0))), .inl 20, .inr (.inr (some (13, 0)))], S_)) rfl ?_
          refine sm_T_iald (n := 16) rfl rfl (by omega) (by omega) ?_
          have bx53_ : 0 ≤ S_.2.2.1 124 0 ((S_.1 13 0 12) - 1).toNat ∧ S_.2.2.1 124 0 ((S_.1 13 0 12) - 1).toNat ≤ 1280 := hI_.2 124 0 _
          refine sm_T_cal (d1 := 0) (Q1 := vq_294 20 (S_.2.2.1 124 0 ((S_.1 13 0 12) - 1).toNat) S_) rfl rfl (by decide) (vc_294 20 (S_.2.2.1 124 0 ((S_.1 13 0 12) - 1).toNat) S_ hI_ (by decide) (by omega)) (fun u_ Sx54_ px57_ => ?_)
          obtain ⟨rfl, hIx55_, hFx56_, px57_⟩ := px57_
          have hFx58_ : ai_fr (sx_W vw_340) S0_ Sx54_ := ai_fr_tr hF_ (fr_le hFx56_ rfl)
          have ex59_ : Sx54_.1 13 0 12 = S_.1 13 0 12 := hFx56_.1 13 0 12 rfl
          have t172_ := rtab_fr t33_ hFx56_ rfl rfl rfl rfl rfl
          first | (have T172_ := rT_fr T1_ hFx56_ rfl rfl rfl rfl rfl rfl rfl rfl rfl rfl rfl rfl rfl) | skip
          have e172_ := fb_r px57_ hz7_
          have a132_ := fr_arr (t := 132) (i := 0) hFx56_ rfl
          have a133_ := fr_arr (t := 133) (i := 0) hFx56_ rfl
          have a134_ := fr_arr (t := 134) (i := 0) hFx56_ rfl
          have a135_ := fr_arr (t := 135) (i := 0) hFx56_ rfl
          refine sm_T_rv rfl ⟨_, _, rfl, rfl, hIx55_, hFx58_, ?_⟩
          first | (exact absurd hz7_ hz_) | (refine ⟨T_, t172_, Or.inr (rE_f hX1_ T172_ hM1_ ?_ fun _ => ?_)⟩; (rw [a132_, a133_, a134_, a135_, e172_.1, ← mI_]; unfold p_lm; first | (rw [if_pos (by omega)]) | (rw [if_neg (by omega), if_pos (by omega)]) | (rw [if_neg (by omega), if_neg (by omega), if_pos (by omega)])); (rw [e172_.2, ← mI_]; exact pt1_.2)) | (refine ⟨T_, t33_, Or.inr (rE_f hX1_ T1_ hM1_ ?_ fun z_ => absurd hz_ z_)⟩; rw [hz_, ← mI_]; unfold p_lm; rw [if_neg (by omega), if_neg (by omega), if_neg (by omega)])
      · have cx14_ : ¬ (vx13_ ≠ 0) := of_decide_eq_false cx14_
        have hz7_ := wr_if e68_ (by omega)
        refine sm_T_rv rfl ⟨_, _, rfl, rfl, hI_, hF_, ?_⟩
        first | (exact absurd hz_ hz7_) | (refine ⟨T_, t33_, Or.inl ?_⟩; rcases h1_ with z_ | ⟨A1_, N1_, M1_, mc1_, c1_, q1_, z1_, z2_⟩ | ⟨q1_, z1_, z2_⟩; exact z_; (exact absurd z1_.1 hz_); (exact absurd z1_.1 hz_))
    · have cx7_ : ¬ (vx6_ = 0) := of_decide_eq_false cx7_
      have hz_ := rt_if e34_ (by omega)
      have hR_ : rN b_ n_ T_ (p_de b_ n_) S_ ∨ rI b_ n_ T_ (p_de b_ n_) S_ := by rcases h1_ with z_ | z_; (exact (rX_z z_ hz_).elim); exact z_
      have bx60_ : 0 ≤ S_.1 13 0 12 ∧ S_.1 13 0 12 ≤ 16 := hI_.1 13 0 12 rfl
      refine sm_T_go 2 (c1 := (44, [some (.inr (.inr (some (13, 0)))), none, none], [.inl (S_.1 13 0 12)], S_)) rfl ?_
      refine sm_T_b0 (a := 0) (z := 16) rfl (fun cx61_ => ?_) (fun cx61_ => ?_)
      · have cx61_ : (S_.1 13 0 12) = 0 := of_decide_eq_true cx61_
        obtain ⟨A1_, N1_, M1_, mc1_, c1_, q1_, f1_, g1_, T1_, hc1_, hf1_, hX1_⟩ : ∃ A1_ N1_ M1_ mc1_ c1_ q1_ f1_, rg b_ n_ T_ (.inr q1_) S_ ∧ rT b_ n_ T_ A1_ N1_ M1_ S_ ∧ c1_.length ≤ 3 * q1_ ∧ n_ < q1_ + f1_ ∧ (p_de b_ n_) = pb (p_bm b_ n_ A1_ N1_ M1_ q1_) fun x_ => p_dl b_ n_ f1_ x_.1 x_.2.1 M1_ mc1_ c1_ x_.2.2 := by rcases hR_ with ⟨A1_, N1_, M1_, mc1_, c1_, q1_, z1_, z2_, z3_, z4_⟩ | ⟨q1_, z1_, z2_, z3_⟩; (exfalso; have := z2_.1; omega); (exact ⟨A_0, fun _ => 0, 0, fun _ => 0, [], q1_, n_ + 1, z1_, rT_0 z2_, Nat.zero_le _, by omega, z3_⟩)
        refine sm_T_go 1 (c1 := (61, [some (.inr (.inr (some (13, 0)))), none, none], [.inr (.inr (some (13, 0)))], S_)) rfl ?_
        refine sm_T_cal (d1 := 10) (Q1 := vq_339 b_ n_ T_ (p_de b_ n_) A1_ N1_ M1_ mc1_ c1_ q1_ f1_ S_) rfl rfl (by decide) (vc_339 b_ n_ T_ (p_de b_ n_) A1_ N1_ M1_ mc1_ c1_ q1_ f1_ S_ hI_ (by exact t33_) (by exact g1_) (by exact T1_) (by exact mo33_) (by exact hc1_) (by exact hX1_) (by exact hf1_)) (fun u_ Sx62_ px65_ => ?_)
        obtain ⟨rfl, hIx63_, hFx64_, px65_⟩ := px65_
        have hFx66_ : ai_fr (sx_W vw_340) S0_ Sx62_ := ai_fr_tr hF_ (fr_le hFx64_ rfl)
        have e61_ := px65_
        have t61_ := rtab_fr t33_ hFx64_ rfl rfl rfl rfl rfl
        have mo61_ := (hFx64_.1 13 0 27 rfl).trans mo33_
        have ms1_ := T1_.1
        have mle_ := T1_.2.1
        refine sm_T_go 1 (c1 := (33, [some (.inr (.inr (some (13, 0)))), none, none], [], Sx62_)) rfl ?_
        refine ih_  Sx62_ hIx63_ hFx66_ ⟨?_, ?_, trivial⟩ ?_
        · refine ⟨T_, t61_, ?_⟩
          rcases e61_.1 with z_ | z_
          · exact Or.inl z_
          · exact Or.inr (Or.inl z_)
        · exact mo61_
        · (have q1_ : r_mm S_ = (20 - S_.1 13 0 12).toNat := if_neg (by rw [hz_]; exact fun z_ => z_ rfl)); unfold r_mm; split; omega; (rename_i gg_; have gg2_ := e61_.2 (Decidable.byContradiction gg_); omega)
      · have cx61_ : ¬ ((S_.1 13 0 12) = 0) := of_decide_eq_false cx61_
        obtain ⟨A1_, N1_, M1_, mc1_, c1_, q1_, g1_, T1_, hM1_, hc1_, alt1_⟩ : rN b_ n_ T_ (p_de b_ n_) S_ := by rcases hR_ with z_ | ⟨q1_, z1_, z2_, z3_⟩; exact z_; (exfalso; omega)
        obtain ⟨i1_, hi11_, hi12_⟩ := id g1_.2
        have ra1_ := rp_at t33_ hi12_
        have so1_ : S_.2.2.1 119 0 (S_.1 13 0 9).toNat = r_st (lx_kd b_ n_ q1_) := by rw [hi11_, Int.toNat_natCast]; exact ra1_.1
        have bx67_ : 0 ≤ S_.1 13 0 9 ∧ S_.1 13 0 9 ≤ 1280 := hI_.1 13 0 9 rfl
        refine sm_T_go 4 (c1 := (55, [some (.inr (.inr (some (13, 0)))), none, none], [.inl (S_.1 13 0 9), .inr (.inr (some (119, 0)))], S_)) rfl ?_
        refine sm_T_bald (n := 65537) rfl rfl (by omega) (by omega) ?_
        have bx68_ : (-128) ≤ S_.2.2.1 119 0 (S_.1 13 0 9).toNat ∧ S_.2.2.1 119 0 (S_.1 13 0 9).toNat ≤ 127 := hI_.2 119 0 _
        refine sm_T_go 1 (c1 := (57, [some (.inr (.inr (some (13, 0)))), none, none], [.inl 5, .inl (S_.2.2.1 119 0 (S_.1 13 0 9).toNat)], S_)) rfl ?_
        refine sm_T_br (a := 0) (z := 10) rfl (fun cx69_ => ?_) (fun cx69_ => ?_)
        · have cx69_ : (S_.2.2.1 119 0 (S_.1 13 0 9).toNat) = 5 := of_decide_eq_true cx69_
          have k0_ : lx_kd b_ n_ q1_ = 0 := by have z_ := lx_kd_r hi12_.2.2.1; unfold r_st r_so at so1_; by_cases y_ : lx_kd b_ n_ q1_ = 0; exact y_; (rw [if_neg y_] at so1_; split at so1_; omega; (split at so1_; omega; (split at so1_; omega; (split at so1_ <;> omega))))
          have hX1_ : (p_de b_ n_) = .inr (A1_, N1_, M1_, mc1_, c1_) := by rcases alt1_ with z_ | z_; exact z_.2; (exact absurd k0_ z_.1)
          have ms1_ := T1_.1
          have mle_ := T1_.2.1
          have mI_ : (S_.1 13 0 12 - 1).toNat = M1_ - 1 := by omega
          have rtk1_ := T1_.2.2.2.2.2.1.2 (M1_ - 1) (by omega)
          have pt1_ := rtk_pl t33_ rtk1_
          rw [← mI_] at pt1_ rtk1_
          have cl1_ := rs1_b hI_ (T1_.2.2.1 (M1_ - 1) (by omega)) (Nat.le_refl _) (T1_.2.2.2.2.1 (M1_ - 1) (by omega))
          have A40_ := ((T1_.2.2.1 (M1_ - 1) (by omega)).2 (M1_ - 1) (Nat.le_refl _)).1
          rw [← mI_] at cl1_ A40_
          refine sm_T_go 1 (c1 := (68, [some (.inr (.inr (some (13, 0)))), none, none], [.inr (.inr (some (13, 0)))], S_)) rfl ?_
          refine sm_T_cal (d1 := 0) (Q1 := vq_292  S_) rfl rfl (by decide) (vc_292  S_ hI_ ) (fun u_ Sx70_ px73_ => ?_)
          obtain ⟨rfl, vx75_, rfl, px73_⟩ := px73_
          have e68_ := px73_
          refine sm_T_b0 (a := 1) (z := 4) rfl (fun cx76_ => ?_) (fun cx76_ => ?_)
          · have cx76_ : vx75_ ≠ 0 := of_decide_eq_true cx76_
            have hz7_ := rt_if e68_ (by omega)
            have dummy7 := hz7_
            refine sm_T_go 3 (c1 := (80, [some (.inr (.inr (some (13, 0)))), none, none], [.inl 1, .inl (S_.1 13 0 12)], S_)) rfl ?_
            refine sm_T_bin (w := (S_.1 13 0 12) - 1) rfl (bi_sub (by omega) (by omega) (by omega)) ?_
            refine sm_T_go 4 (c1 := (87, [some (.inr (.inr (some (13, 0)))), some (.inl ((S_.1 13 0 12) - 1)), none], [.inl ((S_.1 13 0 12) - 1), .inr (.inr (some (135, 0)))], S_)) rfl ?_
            refine sm_T_iald (n := 16) rfl rfl (by omega) (by omega) ?_
            have bx77_ : 0 ≤ S_.2.2.1 135 0 ((S_.1 13 0 12) - 1).toNat ∧ S_.2.2.1 135 0 ((S_.1 13 0 12) - 1).toNat ≤ 1073741823 := hI_.2 135 0 _
            refine sm_T_go 1 (c1 := (91, [some (.inr (.inr (some (13, 0)))), some (.inl ((S_.1 13 0 12) - 1)), none], [.inl 200, .inl (S_.2.2.1 135 0 ((S_.1 13 0 12) - 1).toNat)], S_)) rfl ?_
            refine sm_T_br (a := 5) (z := 8) rfl (fun cx78_ => ?_) (fun cx78_ => ?_)
            · have cx78_ : (S_.2.2.1 135 0 ((S_.1 13 0 12) - 1).toNat) ≤ 200 := of_decide_eq_true cx78_
              refine sm_T_go 3 (c1 := (104, [some (.inr (.inr (some (13, 0)))), some (.inl ((S_.1 13 0 12) - 1)), none], [.inl ((S_.1 13 0 12) - 1), .inr (.inr (some (132, 0)))], S_)) rfl ?_
              refine sm_T_iald (n := 16) rfl rfl (by omega) (by omega) ?_
              have bx79_ : 0 ≤ S_.2.2.1 132 0 ((S_.1 13 0 12) - 1).toNat ∧ S_.2.2.1 132 0 ((S_.1 13 0 12) - 1).toNat ≤ 320 := hI_.2 132 0 _
              refine sm_T_go 3 (c1 := (110, [some (.inr (.inr (some (13, 0)))), some (.inl ((S_.1 13 0 12) - 1)), none], [.inl ((S_.1 13 0 12) - 1), .inr (.inr (some (134, 0))), .inl (S_.2.2.1 132 0 ((S_.1 13 0 12) - 1).toNat)], S_)) rfl ?_
              refine sm_T_iald (n := 16) rfl rfl (by omega) (by omega) ?_
              have bx80_ : 0 ≤ S_.2.2.1 134 0 ((S_.1 13 0 12) - 1).toNat ∧ S_.2.2.1 134 0 ((S_.1 13 0 12) - 1).toNat ≤ 1073741823 := hI_.2 134 0 _
              refine sm_T_bin (w := (S_.2.2.1 132 0 ((S_.1 13 0 12) - 1).toNat) + (S_.2.2.1 134 0 ((S_.1 13 0 12) - 1).toNat)) rfl (bi_add (by omega) (by omega) (by omega)) ?_
              refine sm_T_go 1 (c1 := (114, [some (.inr (.inr (some (13, 0)))), some (.inl ((S_.1 13 0 12) - 1)), none], [.inl 12, .inl ((S_.2.2.1 132 0 ((S_.1 13 0 12) - 1).toNat) + (S_.2.2.1 134 0 ((S_.1 13 0 12) - 1).toNat))], S_)) rfl ?_
              refine sm_T_br (a := 4) (z := 14) rfl (fun cx81_ => ?_) (fun cx81_ => ?_)
              · have cx81_ : 12 < (S_.2.2.1 132 0 ((S_.1 13 0 12) - 1).toNat) + (S_.2.2.1 134 0 ((S_.1 13 0 12) - 1).toNat) := of_decide_eq_true cx81_
                refine sm_T_go 10 (c1 := (171, [some (.inr (.inr (some (13, 0)))), some (.inl ((S_.1 13 0 12) - 1)), some (.inl 21)], [.inl ((S_.1 13 0 12) - 1), .inr (.inr (some (124, 0))), .inl 21, .inr (.inr (some (13, 0)))], S_)) rfl ?_
                refine sm_T_iald (n := 16) rfl rfl (by omega) (by omega) ?_
                have bx82_ : 0 ≤ S_.2.2.1 124 0 ((S_.1 13 0 12) - 1).toNat ∧ S_.2.2.1 124 0 ((S_.1 13 0 12) - 1).toNat ≤ 1280 := hI_.2 124 0 _
                refine sm_T_cal (d1 := 0) (Q1 := vq_294 21 (S_.2.2.1 124 0 ((S_.1 13 0 12) - 1).toNat) S_) rfl rfl (by decide) (vc_294 21 (S_.2.2.1 124 0 ((S_.1 13 0 12) - 1).toNat) S_ hI_ (by decide) (by omega)) (fun u_ Sx83_ px86_ => ?_)
                obtain ⟨rfl, hIx84_, hFx85_, px86_⟩ := px86_
                have hFx87_ : ai_fr (sx_W vw_340) S0_ Sx83_ := ai_fr_tr hF_ (fr_le hFx85_ rfl)
                have ex88_ : Sx83_.1 13 0 12 = S_.1 13 0 12 := hFx85_.1 13 0 12 rfl
                have ex89_ : Sx83_.1 13 0 9 = S_.1 13 0 9 := hFx85_.1 13 0 9 rfl
                have t172_ := rtab_fr t33_ hFx85_ rfl rfl rfl rfl rfl
                first | (have T172_ := rT_fr T1_ hFx85_ rfl rfl rfl rfl rfl rfl rfl rfl rfl rfl rfl rfl rfl) | skip
                have e172_ := fb_r px86_ hz7_
                have a132_ := fr_arr (t := 132) (i := 0) hFx85_ rfl
                have a133_ := fr_arr (t := 133) (i := 0) hFx85_ rfl
                have a134_ := fr_arr (t := 134) (i := 0) hFx85_ rfl
                have a135_ := fr_arr (t := 135) (i := 0) hFx85_ rfl
                refine sm_T_rv rfl ⟨_, _, rfl, rfl, hIx84_, hFx87_, ?_⟩
                first | (exact absurd hz7_ hz_) | (refine ⟨T_, t172_, Or.inr (rE_f hX1_ T172_ hM1_ ?_ fun _ => ?_)⟩; (rw [a132_, a133_, a134_, a135_, e172_.1, ← mI_]; unfold p_lm; first | (rw [if_pos (by omega)]) | (rw [if_neg (by omega), if_pos (by omega)]) | (rw [if_neg (by omega), if_neg (by omega), if_pos (by omega)])); (rw [e172_.2, ← mI_]; exact pt1_.2)) | (refine ⟨T_, t33_, Or.inr (rE_f hX1_ T1_ hM1_ ?_ fun z_ => absurd hz_ z_)⟩; rw [hz_, ← mI_]; unfold p_lm; rw [if_neg (by omega), if_neg (by omega), if_neg (by omega)])
              · have cx81_ : ¬ (12 < (S_.2.2.1 132 0 ((S_.1 13 0 12) - 1).toNat) + (S_.2.2.1 134 0 ((S_.1 13 0 12) - 1).toNat)) := of_decide_eq_false cx81_
                refine sm_T_go 3 (c1 := (122, [some (.inr (.inr (some (13, 0)))), some (.inl ((S_.1 13 0 12) - 1)), none], [.inl ((S_.1 13 0 12) - 1), .inr (.inr (some (134, 0)))], S_)) rfl ?_
                refine sm_T_iald (n := 16) rfl rfl (by omega) (by omega) ?_
                refine sm_T_go 1 (c1 := (125, [some (.inr (.inr (some (13, 0)))), some (.inl ((S_.1 13 0 12) - 1)), none], [.inl 6, .inl (S_.2.2.1 134 0 ((S_.1 13 0 12) - 1).toNat)], S_)) rfl ?_
                refine sm_T_br (a := 5) (z := 8) rfl (fun cx90_ => ?_) (fun cx90_ => ?_)
                · have cx90_ : (S_.2.2.1 134 0 ((S_.1 13 0 12) - 1).toNat) ≤ 6 := of_decide_eq_true cx90_
                  refine sm_T_go 3 (c1 := (138, [some (.inr (.inr (some (13, 0)))), some (.inl ((S_.1 13 0 12) - 1)), none], [.inl ((S_.1 13 0 12) - 1), .inr (.inr (some (133, 0)))], S_)) rfl ?_
                  refine sm_T_iald (n := 16) rfl rfl (by omega) (by omega) ?_
                  have bx91_ : 0 ≤ S_.2.2.1 133 0 ((S_.1 13 0 12) - 1).toNat ∧ S_.2.2.1 133 0 ((S_.1 13 0 12) - 1).toNat ≤ 320 := hI_.2 133 0 _
                  refine sm_T_b0 (a := 0) (z := 14) rfl (fun cx92_ => ?_) (fun cx92_ => ?_)
                  · have cx92_ : (S_.2.2.1 133 0 ((S_.1 13 0 12) - 1).toNat) = 0 := of_decide_eq_true cx92_
                    refine sm_T_go 10 (c1 := (171, [some (.inr (.inr (some (13, 0)))), some (.inl ((S_.1 13 0 12) - 1)), some (.inl 22)], [.inl ((S_.1 13 0 12) - 1), .inr (.inr (some (124, 0))), .inl 22, .inr (.inr (some (13, 0)))], S_)) rfl ?_
                    refine sm_T_iald (n := 16) rfl rfl (by omega) (by omega) ?_
                    have bx93_ : 0 ≤ S_.2.2.1 124 0 ((S_.1 13 0 12) - 1).toNat ∧ S_.2.2.1 124 0 ((S_.1 13 0 12) - 1).toNat ≤ 1280 := hI_.2 124 0 _
                    refine sm_T_cal (d1 := 0) (Q1 := vq_294 22 (S_.2.2.1 124 0 ((S_.1 13 0 12) - 1).toNat) S_) rfl rfl (by decide) (vc_294 22 (S_.2.2.1 124 0 ((S_.1 13 0 12) - 1).toNat) S_ hI_ (by decide) (by omega)) (fun u_ Sx94_ px97_ => ?_)
                    obtain ⟨rfl, hIx95_, hFx96_, px97_⟩ := px97_
                    have hFx98_ : ai_fr (sx_W vw_340) S0_ Sx94_ := ai_fr_tr hF_ (fr_le hFx96_ rfl)
                    have ex99_ : Sx94_.1 13 0 12 = S_.1 13 0 12 := hFx96_.1 13 0 12 rfl
                    have ex100_ : Sx94_.1 13 0 9 = S_.1 13 0 9 := hFx96_.1 13 0 9 rfl
                    have t172_ := rtab_fr t33_ hFx96_ rfl rfl rfl rfl rfl
                    first | (have T172_ := rT_fr T1_ hFx96_ rfl rfl rfl rfl rfl rfl rfl rfl rfl rfl rfl rfl rfl) | skip
                    have e172_ := fb_r px97_ hz7_
                    have a132_ := fr_arr (t := 132) (i := 0) hFx96_ rfl
                    have a133_ := fr_arr (t := 133) (i := 0) hFx96_ rfl
                    have a134_ := fr_arr (t := 134) (i := 0) hFx96_ rfl
                    have a135_ := fr_arr (t := 135) (i := 0) hFx96_ rfl
                    refine sm_T_rv rfl ⟨_, _, rfl, rfl, hIx95_, hFx98_, ?_⟩
                    first | (exact absurd hz7_ hz_) | (refine ⟨T_, t172_, Or.inr (rE_f hX1_ T172_ hM1_ ?_ fun _ => ?_)⟩; (rw [a132_, a133_, a134_, a135_, e172_.1, ← mI_]; unfold p_lm; first | (rw [if_pos (by omega)]) | (rw [if_neg (by omega), if_pos (by omega)]) | (rw [if_neg (by omega), if_neg (by omega), if_pos (by omega)])); (rw [e172_.2, ← mI_]; exact pt1_.2)) | (refine ⟨T_, t33_, Or.inr (rE_f hX1_ T1_ hM1_ ?_ fun z_ => absurd hz_ z_)⟩; rw [hz_, ← mI_]; unfold p_lm; rw [if_neg (by omega), if_neg (by omega), if_neg (by omega)])
                  · have cx92_ : ¬ ((S_.2.2.1 133 0 ((S_.1 13 0 12) - 1).toNat) = 0) := of_decide_eq_false cx92_
                    refine sm_T_go 3 (c1 := (147, [some (.inr (.inr (some (13, 0)))), some (.inl ((S_.1 13 0 12) - 1)), none], [.inl ((S_.1 13 0 12) - 1), .inr (.inr (some (133, 0)))], S_)) rfl ?_
                    refine sm_T_iald (n := 16) rfl rfl (by omega) (by omega) ?_
                    refine sm_T_go 1 (c1 := (150, [some (.inr (.inr (some (13, 0)))), some (.inl ((S_.1 13 0 12) - 1)), none], [.inl 16, .inl (S_.2.2.1 133 0 ((S_.1 13 0 12) - 1).toNat)], S_)) rfl ?_
                    refine sm_T_br (a := 5) (z := 8) rfl (fun cx101_ => ?_) (fun cx101_ => ?_)
                    · have cx101_ : (S_.2.2.1 133 0 ((S_.1 13 0 12) - 1).toNat) ≤ 16 := of_decide_eq_true cx101_
                      refine sm_T_go 4 (c1 := (175, [some (.inr (.inr (some (13, 0)))), some (.inl ((S_.1 13 0 12) - 1)), some (.inl 0)], [], S_)) rfl ?_
                      refine sm_T_rv rfl ⟨_, _, rfl, rfl, hI_, hF_, ?_⟩
                      first | (exact absurd hz7_ hz_) | (refine ⟨T_, t172_, Or.inr (rE_f hX1_ T172_ hM1_ ?_ fun _ => ?_)⟩; (rw [a132_, a133_, a134_, a135_, e172_.1, ← mI_]; unfold p_lm; first | (rw [if_pos (by omega)]) | (rw [if_neg (by omega), if_pos (by omega)]) | (rw [if_neg (by omega), if_neg (by omega), if_pos (by omega)])); (rw [e172_.2, ← mI_]; exact pt1_.2)) | (refine ⟨T_, t33_, Or.inr (rE_f hX1_ T1_ hM1_ ?_ fun z_ => absurd hz_ z_)⟩; rw [hz_, ← mI_]; unfold p_lm; rw [if_neg (by omega), if_neg (by omega), if_neg (by omega)])
                    · have cx101_ : ¬ ((S_.2.2.1 133 0 ((S_.1 13 0 12) - 1).toNat) ≤ 16) := of_decide_eq_false cx101_
                      refine sm_T_go 10 (c1 := (171, [some (.inr (.inr (some (13, 0)))), some (.inl ((S_.1 13 0 12) - 1)), some (.inl 22)], [.inl ((S_.1 13 0 12) - 1), .inr (.inr (some (124, 0))), .inl 22, .inr (.inr (some (13, 0)))], S_)) rfl ?_
                      refine sm_T_iald (n := 16) rfl rfl (by omega) (by omega) ?_
                      have bx102_ : 0 ≤ S_.2.2.1 124 0 ((S_.1 13 0 12) - 1).toNat ∧ S_.2.2.1 124 0 ((S_.1 13 0 12) - 1).toNat ≤ 1280 := hI_.2 124 0 _
                      refine sm_T_cal (d1 := 0) (Q1 := vq_294 22 (S_.2.2.1 124 0 ((S_.1 13 0 12) - 1).toNat) S_) rfl rfl (by decide) (vc_294 22 (S_.2.2.1 124 0 ((S_.1 13 0 12) - 1).toNat) S_ hI_ (by decide) (by omega)) (fun u_ Sx103_ px106_ => ?_)
                      obtain ⟨rfl, hIx104_, hFx105_, px106_⟩ := px106_
                      have hFx107_ : ai_fr (sx_W vw_340) S0_ Sx103_ := ai_fr_tr hF_ (fr_le hFx105_ rfl)
                      have ex108_ : Sx103_.1 13 0 12 = S_.1 13 0 12 := hFx105_.1 13 0 12 rfl
                      have ex109_ : Sx103_.1 13 0 9 = S_.1 13 0 9 := hFx105_.1 13 0 9 rfl
                      have t172_ := rtab_fr t33_ hFx105_ rfl rfl rfl rfl rfl
                      first | (have T172_ := rT_fr T1_ hFx105_ rfl rfl rfl rfl rfl rfl rfl rfl rfl rfl rfl rfl rfl) | skip
                      have e172_ := fb_r px106_ hz7_
                      have a132_ := fr_arr (t := 132) (i := 0) hFx105_ rfl
                      have a133_ := fr_arr (t := 133) (i := 0) hFx105_ rfl
                      have a134_ := fr_arr (t := 134) (i := 0) hFx105_ rfl
                      have a135_ := fr_arr (t := 135) (i := 0) hFx105_ rfl
                      refine sm_T_rv rfl ⟨_, _, rfl, rfl, hIx104_, hFx107_, ?_⟩
                      first | (exact absurd hz7_ hz_) | (refine ⟨T_, t172_, Or.inr (rE_f hX1_ T172_ hM1_ ?_ fun _ => ?_)⟩; (rw [a132_, a133_, a134_, a135_, e172_.1, ← mI_]; unfold p_lm; first | (rw [if_pos (by omega)]) | (rw [if_neg (by omega), if_pos (by omega)]) | (rw [if_neg (by omega), if_neg (by omega), if_pos (by omega)])); (rw [e172_.2, ← mI_]; exact pt1_.2)) | (refine ⟨T_, t33_, Or.inr (rE_f hX1_ T1_ hM1_ ?_ fun z_ => absurd hz_ z_)⟩; rw [hz_, ← mI_]; unfold p_lm; rw [if_neg (by omega), if_neg (by omega), if_neg (by omega)])
                · have cx90_ : ¬ ((S_.2.2.1 134 0 ((S_.1 13 0 12) - 1).toNat) ≤ 6) := of_decide_eq_false cx90_
                  refine sm_T_go 10 (c1 := (171, [some (.inr (.inr (some (13, 0)))), some (.inl ((S_.1 13 0 12) - 1)), some (.inl 21)], [.inl ((S_.1 13 0 12) - 1), .inr (.inr (some (124, 0))), .inl 21, .inr (.inr (some (13, 0)))], S_)) rfl ?_
                  refine sm_T_iald (n := 16) rfl rfl (by omega) (by omega) ?_
                  have bx110_ : 0 ≤ S_.2.2.1 124 0 ((S_.1 13 0 12) - 1).toNat ∧ S_.2.2.1 124 0 ((S_.1 13 0 12) - 1).toNat ≤ 1280 := hI_.2 124 0 _
                  refine sm_T_cal (d1 := 0) (Q1 := vq_294 21 (S_.2.2.1 124 0 ((S_.1 13 0 12) - 1).toNat) S_) rfl rfl (by decide) (vc_294 21 (S_.2.2.1 124 0 ((S_.1 13 0 12) - 1).toNat) S_ hI_ (by decide) (by omega)) (fun u_ Sx111_ px114_ => ?_)
                  obtain ⟨rfl, hIx112_, hFx113_, px114_⟩ := px114_
                  have hFx115_ : ai_fr (sx_W vw_340) S0_ Sx111_ := ai_fr_tr hF_ (fr_le hFx113_ rfl)
                  have ex116_ : Sx111_.1 13 0 12 = S_.1 13 0 12 := hFx113_.1 13 0 12 rfl
                  have ex117_ : Sx111_.1 13 0 9 = S_.1 13 0 9 := hFx113_.1 13 0 9 rfl
                  have t172_ := rtab_fr t33_ hFx113_ rfl rfl rfl rfl rfl
                  first | (have T172_ := rT_fr T1_ hFx113_ rfl rfl rfl rfl rfl rfl rfl rfl rfl rfl rfl rfl rfl) | skip
                  have e172_ := fb_r px114_ hz7_
                  have a132_ := fr_arr (t := 132) (i := 0) hFx113_ rfl
                  have a133_ := fr_arr (t := 133) (i := 0) hFx113_ rfl
                  have a134_ := fr_arr (t := 134) (i := 0) hFx113_ rfl
                  have a135_ := fr_arr (t := 135) (i := 0) hFx113_ rfl
                  refine sm_T_rv rfl ⟨_, _, rfl, rfl, hIx112_, hFx115_, ?_⟩
                  first | (exact absurd hz7_ hz_) | (refine ⟨T_, t172_, Or.inr (rE_f hX1_ T172_ hM1_ ?_ fun _ => ?_)⟩; (rw [a132_, a133_, a134_, a135_, e172_.1, ← mI_]; unfold p_lm; first | (rw [if_pos (by omega)]) | (rw [if_neg (by omega), if_pos (by omega)]) | (rw [if_neg (by omega), if_neg (by omega), if_pos (by omega)])); (rw [e172_.2, ← mI_]; exact pt1_.2)) | (refine ⟨T_, t33_, Or.inr (rE_f hX1_ T1_ hM1_ ?_ fun z_ => absurd hz_ z_)⟩; rw [hz_, ← mI_]; unfold p_lm; rw [if_neg (by omega), if_neg (by omega), if_neg (by omega)])
            · have cx78_ : ¬ ((S_.2.2.1 135 0 ((S_.1 13 0 12) - 1).toNat) ≤ 200) := of_decide_eq_false cx78_
              refine sm_T_go 10 (c1 := (171, [some (.inr (.inr (some (13, 0)))), some (.inl ((S_.1 13 0 12) - 1)), some (.inl 20)], [.inl ((S_.1 13 0 12) - 1), .inr (.inr (some (124, 0))), .inl 20, .inr (.inr (some (13, 0)))], S_)) rfl ?_
              refine sm_T_iald (n := 16) rfl rfl (by omega) (by omega) ?_
              have bx118_ : 0 ≤ S_.2.2.1 124 0 ((S_.1 13 0 12) - 1).toNat ∧ S_.2.2.1 124 0 ((S_.1 13 0 12) - 1).toNat ≤ 1280 := hI_.2 124 0 _
              refine sm_T_cal (d1 := 0) (Q1 := vq_294 20 (S_.2.2.1 124 0 ((S_.1 13 0 12) - 1).toNat) S_) rfl rfl (by decide) (vc_294 20 (S_.2.2.1 124 0 ((S_.1 13 0 12) - 1).toNat) S_ hI_ (by decide) (by omega)) (fun u_ Sx119_ px122_ => ?_)
              obtain ⟨rfl, hIx120_, hFx121_, px122_⟩ := px122_
              have hFx123_ : ai_fr (sx_W vw_340) S0_ Sx119_ := ai_fr_tr hF_ (fr_le hFx121_ rfl)
              have ex124_ : Sx119_.1 13 0 12 = S_.1 13 0 12 := hFx121_.1 13 0 12 rfl
              have ex125_ : Sx119_.1 13 0 9 = S_.1 13 0 9 := hFx121_.1 13 0 9 rfl
              have t172_ := rtab_fr t33_ hFx121_ rfl rfl rfl rfl rfl
              first | (have T172_ := rT_fr T1_ hFx121_ rfl rfl rfl rfl rfl rfl rfl rfl rfl rfl rfl rfl rfl) | skip
              have e172_ := fb_r px122_ hz7_
              have a132_ := fr_arr (t := 132) (i := 0) hFx121_ rfl
              have a133_ := fr_arr (t := 133) (i := 0) hFx121_ rfl
              have a134_ := fr_arr (t := 134) (i := 0) hFx121_ rfl
              have a135_ := fr_arr (t := 135) (i := 0) hFx121_ rfl
              refine sm_T_rv rfl ⟨_, _, rfl, rfl, hIx120_, hFx123_, ?_⟩
              first | (exact absurd hz7_ hz_) | (refine ⟨T_, t172_, Or.inr (rE_f hX1_ T172_ hM1_ ?_ fun _ => ?_)⟩; (rw [a132_, a133_, a134_, a135_, e172_.1, ← mI_]; unfold p_lm; first | (rw [if_pos (by omega)]) | (rw [if_neg (by omega), if_pos (by omega)]) | (rw [if_neg (by omega), if_neg (by omega), if_pos (by omega)])); (rw [e172_.2, ← mI_]; exact pt1_.2)) | (refine ⟨T_, t33_, Or.inr (rE_f hX1_ T1_ hM1_ ?_ fun z_ => absurd hz_ z_)⟩; rw [hz_, ← mI_]; unfold p_lm; rw [if_neg (by omega), if_neg (by omega), if_neg (by omega)])
          · have cx76_ : ¬ (vx75_ ≠ 0) := of_decide_eq_false cx76_
            have hz7_ := wr_if e68_ (by omega)
            refine sm_T_rv rfl ⟨_, _, rfl, rfl, hI_, hF_, ?_⟩
            first | (exact absurd hz_ hz7_) | (refine ⟨T_, t33_, Or.inl ?_⟩; rcases h1_ with z_ | ⟨A1_, N1_, M1_, mc1_, c1_, q1_, z1_, z2_⟩ | ⟨q1_, z1_, z2_⟩; exact z_; (exact absurd z1_.1 hz_); (exact absurd z1_.1 hz_))
        · have cx69_ : ¬ ((S_.2.2.1 119 0 (S_.1 13 0 9).toNat) = 5) := of_decide_eq_false cx69_
          have k0_ : lx_kd b_ n_ q1_ ≠ 0 := fun y_ => by rw [y_] at so1_; have z_ : r_st 0 = 5 := rfl; omega
          obtain ⟨f1_, hf1_, hX1_⟩ : ∃ f_, n_ < q1_ + f_ ∧ (p_de b_ n_) = pb (p_bm b_ n_ A1_ N1_ M1_ q1_) fun x_ => p_dl b_ n_ f_ x_.1 x_.2.1 M1_ mc1_ c1_ x_.2.2 := by rcases alt1_ with z_ | z_; (exact absurd z_.1 k0_); exact z_.2
          clear alt1_
          refine sm_T_go 1 (c1 := (61, [some (.inr (.inr (some (13, 0)))), none, none], [.inr (.inr (some (13, 0)))], S_)) rfl ?_
          refine sm_T_cal (d1 := 10) (Q1 := vq_339 b_ n_ T_ (p_de b_ n_) A1_ N1_ M1_ mc1_ c1_ q1_ f1_ S_) rfl rfl (by decide) (vc_339 b_ n_ T_ (p_de b_ n_) A1_ N1_ M1_ mc1_ c1_ q1_ f1_ S_ hI_ (by exact t33_) (by exact g1_) (by exact T1_) (by exact mo33_) (by exact hc1_) (by exact hX1_) (by exact hf1_)) (fun u_ Sx126_ px129_ => ?_)
          obtain ⟨rfl, hIx127_, hFx128_, px129_⟩ := px129_
          have hFx130_ : ai_fr (sx_W vw_340) S0_ Sx126_ := ai_fr_tr hF_ (fr_le hFx128_ rfl)
          have e61_ := px129_
          have t61_ := rtab_fr t33_ hFx128_ rfl rfl rfl rfl rfl
          have mo61_ := (hFx128_.1 13 0 27 rfl).trans mo33_
          have ms1_ := T1_.1
          have mle_ := T1_.2.1
          refine sm_T_go 1 (c1 := (33, [some (.inr (.inr (some (13, 0)))), none, none], [], Sx126_)) rfl ?_
          refine ih_  Sx126_ hIx127_ hFx130_ ⟨?_, ?_, trivial⟩ ?_
          · refine ⟨T_, t61_, ?_⟩
            rcases e61_.1 with z_ | z_
            · exact Or.inl z_
            · exact Or.inr (Or.inl z_)
          · exact mo61_
          · (have q1_ : r_mm S_ = (20 - S_.1 13 0 12).toNat := if_neg (by rw [hz_]; exact fun z_ => z_ rfl)); unfold r_mm; split; omega; (rename_i gg_; have gg2_ := e61_.2 (Decidable.byContradiction gg_); omega)
set_option maxHeartbeats 2000000 in
theorem vc_340 {sc_ : Nat × (Nat → Int)} (b_ : Nat → Int) (n_ : Nat) (S0_ : sm_S) (hI_ : gi S0_) (hb_ : S0_.2.2.1 118 0 = b_) (hn_ : (S0_.1 13 0 2) = (n_ : Int)) (hn1_ : n_ ≤ 1280) : sm_T (mt_P sc_) 11 340 (0, [some (.inr (.inr (some (13, 0)))), none, none], [], S0_) (fun ro9_ => ∃ u_ S1_, ro9_ = (.inl u_, S1_, 0) ∧ vq_340 b_ n_ S0_ u_ S1_) := by
  have hF_ : ai_fr (sx_W vw_340) S0_ S0_ := ai_fr_rf
  have hIx1_ : gi (sm_pI S0_ 13 0 27 0) := gi_pI hI_ (show 0 ≤ 0 ∧ 0 ≤ 2 from ⟨by omega, by omega⟩)
  have hFx2_ : ai_fr (sx_W vw_340) S0_ (sm_pI S0_ 13 0 27 0) := ai_fr_tr hF_ (ai_fr_pI rfl)
  have hIx3_ : gi (sm_pI (sm_pI S0_ 13 0 27 0) 13 0 10 0) := gi_pI hIx1_ (show 0 ≤ 0 ∧ 0 ≤ 23 from ⟨by omega, by omega⟩)
  have hFx4_ : ai_fr (sx_W vw_340) S0_ (sm_pI (sm_pI S0_ 13 0 27 0) 13 0 10 0) := ai_fr_tr hFx2_ (ai_fr_pI rfl)
  have hIx5_ : gi (sm_pI (sm_pI (sm_pI S0_ 13 0 27 0) 13 0 10 0) 13 0 11 0) := gi_pI hIx3_ (show 0 ≤ 0 ∧ 0 ≤ 4095 from ⟨by omega, by omega⟩)
  have hFx6_ : ai_fr (sx_W vw_340) S0_ (sm_pI (sm_pI (sm_pI S0_ 13 0 27 0) 13 0 10 0) 13 0 11 0) := ai_fr_tr hFx4_ (ai_fr_pI rfl)
  have hIx7_ : gi (sm_pI (sm_pI (sm_pI (sm_pI S0_ 13 0 27 0) 13 0 10 0) 13 0 11 0) 13 0 9 0) := gi_pI hIx5_ (show 0 ≤ 0 ∧ 0 ≤ 1280 from ⟨by omega, by omega⟩)
  have hFx8_ : ai_fr (sx_W vw_340) S0_ (sm_pI (sm_pI (sm_pI (sm_pI S0_ 13 0 27 0) 13 0 10 0) 13 0 11 0) 13 0 9 0) := ai_fr_tr hFx6_ (ai_fr_pI rfl)
  have hIx9_ : gi (sm_pI (sm_pI (sm_pI (sm_pI (sm_pI S0_ 13 0 27 0) 13 0 10 0) 13 0 11 0) 13 0 9 0) 13 0 12 0) := gi_pI hIx7_ (show 0 ≤ 0 ∧ 0 ≤ 16 from ⟨by omega, by omega⟩)
  have hFx10_ : ai_fr (sx_W vw_340) S0_ (sm_pI (sm_pI (sm_pI (sm_pI (sm_pI S0_ 13 0 27 0) 13 0 10 0) 13 0 11 0) 13 0 9 0) 13 0 12 0) := ai_fr_tr hFx8_ (ai_fr_pI rfl)
  refine sm_T_go 16 (c1 := (26, [some (.inr (.inr (some (13, 0)))), none, none], [.inr (.inr (some (13, 0)))], sm_pI (sm_pI (sm_pI (sm_pI (sm_pI S0_ 13 0 27 0) 13 0 10 0) 13 0 11 0) 13 0 9 0) 13 0 12 0)) rfl ?_
  refine sm_T_cal (d1 := 3) (Q1 := vq_291 b_ n_ (sm_pI (sm_pI (sm_pI (sm_pI (sm_pI S0_ 13 0 27 0) 13 0 10 0) 13 0 11 0) 13 0 9 0) 13 0 12 0)) rfl rfl (by decide) (vc_291 b_ n_ (sm_pI (sm_pI (sm_pI (sm_pI (sm_pI S0_ 13 0 27 0) 13 0 10 0) 13 0 11 0) 13 0 9 0) 13 0 12 0) hIx9_ (by exact hb_) (by exact hn_) (by exact hn1_)) (fun u_ Sx11_ px14_ => ?_)
  obtain ⟨rfl, hIx12_, hFx13_, px14_⟩ := px14_
  have hFx15_ : ai_fr (sx_W vw_340) S0_ Sx11_ := ai_fr_tr hFx10_ (fr_le hFx13_ rfl)
  obtain ⟨T_, tk0_, tk1_, tk2_, tk3_, tk4_, tk5_, tk6_⟩ := px14_
  have hb26_ : Sx11_.2.2.1 118 0 = b_ := (fr_arr hFx13_ rfl).trans hb_
  have ht_ : rtab b_ n_ T_ Sx11_ := ⟨hn1_, tk1_, tk2_, tk3_, tk4_, tk5_, tk6_, fun k_ => by rw [← hb26_]; exact hIx12_.2 118 0 k_⟩
  have mo26_ : Sx11_.1 13 0 27 = 0 := hFx13_.1 13 0 27 rfl
  have at26_ : Sx11_.1 13 0 9 = 0 := hFx13_.1 13 0 9 rfl
  have fa26_ : Sx11_.1 13 0 10 = 0 := hFx13_.1 13 0 10 rfl
  have ms26_ : Sx11_.1 13 0 12 = 0 := hFx13_.1 13 0 12 rfl
  have d0_ := rd_0 ht_
  clear tk6_
  refine sm_T_go 1 (c1 := (30, [some (.inr (.inr (some (13, 0)))), none, none], [.inr (.inr (some (13, 0)))], Sx11_)) rfl ?_
  refine sm_T_cal (d1 := 1) (Q1 := vq_298  Sx11_) rfl rfl (by decide) (vc_298  Sx11_ hIx12_ ) (fun u_ Sx16_ px19_ => ?_)
  obtain ⟨rfl, hIx17_, hFx18_, px19_⟩ := px19_
  have hFx20_ : ai_fr (sx_W vw_340) S0_ Sx16_ := ai_fr_tr hFx15_ (fr_le hFx18_ rfl)
  have t30_ := rtab_fr ht_ hFx18_ rfl rfl rfl rfl rfl
  have e30_ := px19_.2 fa26_
  rw [at26_] at e30_
  have mo30_ := (hFx18_.1 13 0 27 rfl).trans mo26_
  have at30_ := (hFx18_.1 13 0 9 rfl).trans at26_
  have ms30_ := (hFx18_.1 13 0 12 rfl).trans ms26_
  have h30_ : rX b_ n_ T_ (p_de b_ n_) Sx16_ ∨ rI b_ n_ T_ (p_de b_ n_) Sx16_ := by rcases e30_ with ⟨z1_, z2_, z3_⟩ | ⟨z1_, z2_⟩; (left; have y_ := d0_.1 z1_; exact ⟨(1, lx_k b_ n_ 0), by unfold p_de; rw [if_pos y_.1], z2_, z3_.trans y_.2, by show (1 : Int) ≠ 0; decide⟩); (right; have y_ := d0_.2 z1_; exact ⟨lx_k b_ n_ 0, ⟨z2_, 0, at30_, y_⟩, ms30_, by unfold p_de; rw [if_neg y_.2.2.1]; rfl⟩)
  refine sm_T_go 0 (c1 := (33, [some (.inr (.inr (some (13, 0)))), none, none], [], Sx16_)) rfl ?_
  refine (vl_340 b_ n_ S0_ hb_ hn_ hn1_ _)  Sx16_ hIx17_ hFx20_ ⟨?_, ?_, trivial⟩ (Nat.lt_succ_self _)
  · refine ⟨T_, t30_, ?_⟩
    rcases h30_ with z_ | z_
    · exact Or.inl z_
    · exact Or.inr (Or.inr z_)
  · first | rfl | exact mo30_
