/-! Tester.countShownBySet -/
def vw_183 : sx_Wl := ([(9, 1), (9, 2), (9, 3)], [92, 93, 94, 95, 96], [(9, 0)])
def vq_183 (cc_ : Nat) (S0_ : sm_S) (u_ : Option sm_V) (S1_ : sm_S) : Prop := ∃ v_ : Int, u_ = some (.inl v_) ∧ gi S1_ ∧ ai_fr (sx_W vw_183) S0_ S1_ ∧ (shn S1_)
set_option maxHeartbeats 400000 in
theorem vl_183 {sc_ : Nat × (Nat → Int)} (cc_ : Nat) (S0_ : sm_S) (hs_ : S0_.1 2 cc_ 1 + S0_.1 2 cc_ 2 ≤ 12) (hn_ : shn S0_) : ∀ nn_ : Nat, (∀ (hd_ : Int) (f_ : Int) (S_ : sm_S), gi S_ → ai_fr (sx_W vw_183) S0_ S_ → ((0 ≤ f_ ∧ f_ ≤ 1224 ∧ 0 ≤ hd_ ∧ hd_ ≤ f_) ∧ (shn S_) ∧ True) → ((2000 - f_).toNat) < nn_ → sm_T (mt_P sc_) 5 183 (4, [some (.inr (.inr (some (9, 0)))), some (.inr (.inr (some (2, cc_)))), some (.inl hd_), some (.inl f_)], [], S_) (fun ro9_ => ∃ u_ S1_, ro9_ = (.inl u_, S1_, 0) ∧ vq_183 cc_ S0_ u_ S1_)) := by
  intro nn_
  induction nn_ with
  | zero => exact fun _ _ _ _ _ _ h_ => absurd h_ (Nat.not_lt_zero _)
  | succ nn_ ih_ =>
    rintro hd_ f_ S_ hI_ hF_ ⟨h0_, hn1_, -⟩ hm_
    have z1_ : S_.1 2 cc_ 1 = S0_.1 2 cc_ 1 := hF_.1 2 cc_ 1 rfl
    have z2_ : S_.1 2 cc_ 2 = S0_.1 2 cc_ 2 := hF_.1 2 cc_ 2 rfl
    refine sm_T_go 2 (c1 := (6, [some (.inr (.inr (some (9, 0)))), some (.inr (.inr (some (2, cc_)))), some (.inl hd_), some (.inl f_)], [.inr (.inr (some (2, cc_))), .inl f_], S_)) rfl ?_
    refine sm_T_cal (d1 := 1) (Q1 := vq_62 cc_ S_) rfl rfl (by decide) (vc_62 cc_ S_ hI_ (by omega)) (fun u_ Sx1_ px4_ => ?_)
    obtain ⟨rfl, vx6_, rfl, px4_⟩ := px4_
    have fc6_ := px4_
    refine sm_T_br (a := 3) (z := 32) rfl (fun cx7_ => ?_) (fun cx7_ => ?_)
    · have cx7_ : vx6_ ≤ f_ := of_decide_eq_true cx7_
      refine sm_T_go 1 (c1 := (42, [some (.inr (.inr (some (9, 0)))), some (.inr (.inr (some (2, cc_)))), some (.inl hd_), some (.inl f_)], [.inl hd_], S_)) rfl ?_
      refine sm_T_ri rfl ⟨_, _, rfl, _, rfl, hI_, hF_, ?_⟩
      exact hn1_
    · have cx7_ : ¬ (vx6_ ≤ f_) := of_decide_eq_false cx7_
      refine sm_T_go 3 (c1 := (15, [some (.inr (.inr (some (9, 0)))), some (.inr (.inr (some (2, cc_)))), some (.inl hd_), some (.inl f_)], [.inl f_, .inr (.inr (some (2, cc_))), .inr (.inr (some (9, 0)))], S_)) rfl ?_
      refine sm_T_cal (d1 := 4) (Q1 := vq_174 f_ cc_ S_) rfl rfl (by decide) (vc_174 f_ cc_ S_ hI_ (by omega) (by omega) (by first | exact hn1_ | exact hn_)) (fun u_ Sx8_ px11_ => ?_)
      obtain ⟨rfl, hIx9_, hFx10_, px11_⟩ := px11_
      have hFx12_ : ai_fr (sx_W vw_183) S0_ Sx8_ := ai_fr_tr hF_ (fr_le hFx10_ rfl)
      have p15_ := px11_
      refine sm_T_go 4 (c1 := (22, [some (.inr (.inr (some (9, 0)))), some (.inr (.inr (some (2, cc_)))), some (.inl hd_), some (.inl f_)], [.inl f_, .inr (.inr (some (2, cc_))), .inr (.inr (some (9, 0))), .inl hd_], Sx8_)) rfl ?_
      refine sm_T_cal (d1 := 1) (Q1 := vq_180 f_ cc_ Sx8_) rfl rfl (by decide) (vc_180 f_ cc_ Sx8_ hIx9_ (by omega)) (fun u_ Sx13_ px16_ => ?_)
      obtain ⟨rfl, vx18_, rfl, px16_⟩ := px16_
      refine sm_T_b0 (a := 5) (z := 7) rfl (fun cx19_ => ?_) (fun cx19_ => ?_)
      · have cx19_ : vx18_ ≤ 0 := of_decide_eq_true cx19_
        refine sm_T_go 1 (c1 := (33, [some (.inr (.inr (some (9, 0)))), some (.inr (.inr (some (2, cc_)))), some (.inl hd_), some (.inl f_)], [.inl 0, .inl hd_], Sx8_)) rfl ?_
        refine sm_T_bin (w := hd_) rfl (bi_add (by omega) (by omega) (by omega)) ?_ -- pc_ 33
        refine sm_T_go 1 (c1 := (35, [some (.inr (.inr (some (9, 0)))), some (.inr (.inr (some (2, cc_)))), some (.inl hd_), some (.inl f_)], [], Sx8_)) rfl ?_
        refine sm_T_inc (a := 3) (z := 1) (v := f_) (w := f_ + 1) rfl rfl (by omega) (by omega) (by omega) ?_ -- pc_ 35
        refine sm_T_go 1 (c1 := (4, [some (.inr (.inr (some (9, 0)))), some (.inr (.inr (some (2, cc_)))), some (.inl hd_), some (.inl (f_ + 1))], [], Sx8_)) rfl ?_
        refine ih_ hd_ (f_ + 1) Sx8_ hIx9_ hFx12_ ⟨?_, ?_, trivial⟩ ?_
        · omega
        · exact p15_.2
        · omega
      · have cx19_ : ¬ (vx18_ ≤ 0) := of_decide_eq_false cx19_
        refine sm_T_go 2 (c1 := (33, [some (.inr (.inr (some (9, 0)))), some (.inr (.inr (some (2, cc_)))), some (.inl hd_), some (.inl f_)], [.inl 1, .inl hd_], Sx8_)) rfl ?_
        refine sm_T_bin (w := hd_ + 1) rfl (bi_add (by omega) (by omega) (by omega)) ?_ -- pc_ 33
        refine sm_T_go 1 (c1 := (35, [some (.inr (.inr (some (9, 0)))), some (.inr (.inr (some (2, cc_)))), some (.inl (hd_ + 1)), some (.inl f_)], [], Sx8_)) rfl ?_
        refine sm_T_inc (a := 3) (z := 1) (v := f_) (w := f_ + 1) rfl rfl (by omega) (by omega) (by omega) ?_ -- pc_ 35
        refine sm_T_go 1 (c1 := (4, [some (.inr (.inr (some (9, 0)))), some (.inr (.inr (some (2, cc_)))), some (.inl (hd_ + 1)), some (.inl (f_ + 1))], [], Sx8_)) rfl ?_
        refine ih_ (hd_ + 1) (f_ + 1) Sx8_ hIx9_ hFx12_ ⟨?_, ?_, trivial⟩ ?_
        · omega
        · exact p15_.2
        · omega
set_option maxHeartbeats 400000 in
theorem vc_183 {sc_ : Nat × (Nat → Int)} (cc_ : Nat) (S0_ : sm_S) (hI_ : gi S0_) (hs_ : S0_.1 2 cc_ 1 + S0_.1 2 cc_ 2 ≤ 12) (hn_ : shn S0_) : sm_T (mt_P sc_) 5 183 (0, [some (.inr (.inr (some (9, 0)))), some (.inr (.inr (some (2, cc_)))), none, none], [], S0_) (fun ro9_ => ∃ u_ S1_, ro9_ = (.inl u_, S1_, 0) ∧ vq_183 cc_ S0_ u_ S1_) := by
  have hF_ : ai_fr (sx_W vw_183) S0_ S0_ := ai_fr_rf
  refine sm_T_go 4 (c1 := (4, [some (.inr (.inr (some (9, 0)))), some (.inr (.inr (some (2, cc_)))), some (.inl 0), some (.inl 0)], [], S0_)) rfl ?_
  refine (vl_183 cc_ S0_ hs_ hn_ _) 0 0 S0_ hI_ hF_ ⟨?_, ?_, trivial⟩ (Nat.lt_succ_self _)
  · omega
  · exact hn_
