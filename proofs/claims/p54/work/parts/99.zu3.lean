/-! the law's helpers that change the tape, designs and libraries; written by wip/p55/gen/vg/d03.py -/
theorem lh_535 {sc_ : Nat × (Nat → Int)} (a1_ : Int) (a2_ : Int) (a3_ : Int) (a4_ : Int) (a5_ : Int) (S0_ : sm_S) (hI_ : gi S0_) (hJ_ : jC S0_) (hn9_ : S0_.1 10 0 1 ≤ 1260) : sm_T (mt_P sc_) 3 535 (0, [some (.inr (.inr (some (12, 0)))), some (.inl a1_), some (.inl a2_), some (.inl a3_), some (.inl a4_), some (.inl a5_), some (.inr (.inr (some (295, 0)))), none], [], S0_) (fun r_ => ∃ v_ S1_ k_, r_ = (.inl (some (.inl v_)), S1_, k_) ∧ k_ ≤ 2 ∧ lhq vw_211t S0_ S1_ ∧ S1_.1 10 0 1 = S0_.1 10 0 1 + 20 ∧ S1_.2.2.1 98 0 = fed (S0_.2.2.1 98 0) (S0_.1 10 0 1).toNat a1_ a2_ a3_ a4_ a5_ ∧ v_ = 0 ∧ S1_.2.2.2 295 0 0 = l_i2l (S1_.1 10 0 1)) := by
  refine sm_T_go 8 (c1 := (11, [some (.inr (.inr (some (12, 0)))), some (.inl a1_), some (.inl a2_), some (.inl a3_), some (.inl a4_), some (.inl a5_), some (.inr (.inr (some (295, 0)))), none], [.inl a5_, .inl a4_, .inl a3_, .inl a2_, .inl a1_, .inr (.inr (some (12, 0))), .inl 0, .inr (.inr (some (295, 0)))], S0_)) rfl ?_
  refine sm_T_call rfl rfl (vc_211t a1_ a2_ a3_ a4_ a5_ S0_ hI_ hn9_) (fun u_ S1_ k1_ qz9_ => ?_) (fun ex_ S1_ k1_ qz9_ => ?_)
  · rcases qz9_ with ⟨u2_, S2_, ez9_, qz9_⟩ | ⟨ex2_, S2_, ez9_, mz9_, qz9_⟩
    · cases ez9_
      obtain ⟨v_, rfl, iz9_, fz9_, qz9_⟩ := qz9_
      refine sm_T_go 4 (c1 := (24, [some (.inr (.inr (some (12, 0)))), some (.inl a1_), some (.inl a2_), some (.inl a3_), some (.inl a4_), some (.inl a5_), some (.inr (.inr (some (295, 0)))), none], [.inl 0], _)) rfl ?_
      exact sm_T_ri rfl ⟨_, _, _, rfl, Nat.le_of_ble_eq_true rfl, lhq_o iz9_ fz9_ (jC_fr hJ_ fz9_ (by decide) (by decide) (by decide) (by decide) (by decide) rfl rfl rfl rfl rfl rfl) rfl rfl, qz9_.2.1, qz9_.2.2.2, rfl, (rd_ll.trans (if_pos ⟨rfl, rfl, rfl⟩)).trans (congrArg l_i2l qz9_.1)⟩
    · cases ez9_
  · rcases qz9_ with ⟨u2_, S2_, ez9_, qz9_⟩ | ⟨ex2_, S2_, ez9_, mz9_, qz9_⟩
    · cases ez9_
    · obtain ⟨iz9_, fz9_, q1_, q2_⟩ := qz9_
      exact absurd q2_ (by omega)
theorem lh_536 {sc_ : Nat × (Nat → Int)} (n_ : Int) (S0_ : sm_S) (hI_ : gi S0_) (hJ_ : jC S0_) : sm_T (mt_P sc_) 2 536 (0, [some (.inr (.inr (some (12, 0)))), some (.inl n_), none], [], S0_) (fun r_ => ∃ v_ S1_ k_, r_ = (.inl (some (.inl v_)), S1_, k_) ∧ k_ ≤ 2 ∧ lhq vw_212t S0_ S1_ ∧ (S1_.1 10 0 1 = if 0 ≤ n_ ∧ n_ ≤ S0_.1 10 0 1 then n_ else S0_.1 10 0 1) ∧ v_ = if 0 ≤ n_ ∧ n_ ≤ S0_.1 10 0 1 then 0 else 1) := by
  refine sm_T_go 2 (c1 := (2, [some (.inr (.inr (some (12, 0)))), some (.inl n_), none], [.inl n_, .inr (.inr (some (12, 0)))], S0_)) rfl ?_
  refine sm_T_call rfl rfl (vc_212t n_ S0_ hI_) (fun u_ S1_ k1_ qz9_ => ?_) (fun ex_ S1_ k1_ qz9_ => ?_)
  · rcases qz9_ with ⟨u2_, S2_, ez9_, qz9_⟩ | ⟨ex2_, S2_, ez9_, mz9_, qz9_⟩
    · cases ez9_
      obtain ⟨rfl, iz9_, fz9_, qz9_⟩ := qz9_
      refine sm_T_go 2 (c1 := (12, [some (.inr (.inr (some (12, 0)))), some (.inl n_), none], [.inl 0], S1_)) rfl ?_
      exact sm_T_ri rfl ⟨_, _, _, rfl, Nat.le_of_ble_eq_true rfl, lhq_x iz9_ fz9_ (jC_fr hJ_ fz9_ (by decide) (by decide) (by decide) (by decide) (by decide) rfl rfl rfl rfl rfl rfl) rfl, by rw [if_pos ⟨qz9_.1, qz9_.2.1⟩]; exact qz9_.2.2, by rw [if_pos ⟨qz9_.1, qz9_.2.1⟩]⟩
    · cases ez9_
  · rcases qz9_ with ⟨u2_, S2_, ez9_, qz9_⟩ | ⟨ex2_, S2_, ez9_, mz9_, qz9_⟩
    · cases ez9_
    · cases ez9_
      obtain ⟨iz9_, fz9_, q1_, q2_⟩ := qz9_
      simp only [List.mem_cons, List.not_mem_nil, or_false] at mz9_
      subst mz9_
      refine ⟨_, _, _, _, _, rfl, Nat.le_of_ble_eq_true rfl, ?_⟩
      refine sm_T_go 1 (c1 := (_, _, [.inl _], S1_)) rfl ?_
      exact sm_T_ri rfl ⟨_, _, _, rfl, Nat.le_of_ble_eq_true rfl, lhq_x iz9_ fz9_ (jC_fr hJ_ fz9_ (by decide) (by decide) (by decide) (by decide) (by decide) rfl rfl rfl rfl rfl rfl) rfl, by rw [if_neg q2_, q1_], by rw [if_neg q2_]⟩
def lde (b_ : Nat → Int) (n_ : Nat) (S0_ S1_ : sm_S) : Prop := ((∀ j_ : Nat, j_ < 6 → S0_.1 3 j_ 0 = 1) ∧ S1_.1 10 0 1 = S0_.1 10 0 1 ∧ ∀ j_ : Nat, S1_.1 3 j_ 0 = S0_.1 3 j_ 0) ∨ ∃ sl_ : Nat, sl_ < 6 ∧ S0_.1 3 sl_ 0 = 0 ∧ (∀ j_ : Nat, j_ < sl_ → S0_.1 3 j_ 0 = 1) ∧ S1_.1 10 0 1 = 0 ∧ (∀ j_ : Nat, j_ ≠ sl_ → S1_.1 3 j_ 0 = S0_.1 3 j_ 0) ∧ ((dacc b_ n_ ∧ S1_.1 3 sl_ 0 = 1) ∨ (¬ dacc b_ n_ ∧ S1_.1 3 sl_ 0 = 0))
def lli (b_ : Nat → Int) (n_ : Nat) (S0_ S1_ : sm_S) : Prop := ((∀ j_ : Nat, j_ < 3 → S0_.1 5 j_ 0 = 1) ∧ S1_.1 10 0 1 = S0_.1 10 0 1 ∧ ∀ j_ : Nat, S1_.1 5 j_ 0 = S0_.1 5 j_ 0) ∨ ∃ sl_ : Nat, sl_ < 3 ∧ S0_.1 5 sl_ 0 = 0 ∧ (∀ j_ : Nat, j_ < sl_ → S0_.1 5 j_ 0 = 1) ∧ S1_.1 10 0 1 = 0 ∧ (((∃ e_, p_li b_ n_ = .inl e_) ∧ ∀ j_ : Nat, S1_.1 5 j_ 0 = S0_.1 5 j_ 0) ∨ ((∃ r_, p_li b_ n_ = .inr r_) ∧ ∀ j_ : Nat, S1_.1 5 j_ 0 = if j_ = sl_ then 1 else S0_.1 5 j_ 0))
theorem jC_de {b_ : Nat → Int} {n_ : Nat} {S0_ S1_ : sm_S} {u_ : Option sm_V} (hJ_ : jC S0_) (q_ : vq_213 b_ n_ S0_ u_ S1_) : jC S1_ ∧ lde b_ n_ S0_ S1_ := by
  obtain ⟨v_, -, hI_, f_, sl_, h1_, h2_, h3_, h4_, h5_, h6_⟩ := q_
  have d_ : dAll S1_ := fun j_ hj_ z_ => by
    by_cases e_ : j_ = sl_
    · subst e_
      rcases h6_ with h6_ | h6_
      · exact h6_.2.2
      · rw [h6_.2] at z_
        exact absurd z_ (by decide)
    · exact idf_ds h5_ e_ (hJ_.1 j_ hj_) z_
  refine ⟨jC_d hJ_ f_ d_ (by decide) (by decide) (by decide) rfl rfl rfl rfl rfl rfl, Or.inr ⟨sl_, h1_, h2_, h3_, h4_, fun j_ e_ => (h5_ j_ e_).1 0 (by decide), ?_⟩⟩
  rcases h6_ with h6_ | h6_
  · exact Or.inl ⟨h6_.1, h6_.2.1⟩
  · exact Or.inr h6_
theorem jC_li {b_ : Nat → Int} {n_ : Nat} {S0_ S1_ : sm_S} {u_ : Option sm_V} (hJ_ : jC S0_) (q_ : vq_214 b_ n_ S0_ u_ S1_) : jC S1_ ∧ lli b_ n_ S0_ S1_ := by
  obtain ⟨v_, -, hI_, f_, sl_, h1_, h2_, h3_, h4_, h5_⟩ := q_
  refine ⟨jC_fr hJ_ f_ (by decide) (by decide) (by decide) (by decide) (by decide) rfl rfl rfl rfl rfl rfl, Or.inr ⟨sl_, h1_, h2_, h3_, h4_, ?_⟩⟩
  rcases h5_ with ⟨e_, p_, -, -, k_⟩ | ⟨p_, -, -, k_⟩
  · exact Or.inl ⟨⟨e_, p_⟩, k_⟩
  · exact Or.inr ⟨p_, k_⟩
theorem lh_537 {sc_ : Nat × (Nat → Int)} (b_ : Nat → Int) (n_ : Nat) (S0_ : sm_S) (hI_ : gi S0_) (hJ_ : jC S0_) (hb_ : S0_.2.2.1 98 0 = b_) (hn_ : S0_.1 10 0 1 = (n_ : Int)) (hn1_ : n_ ≤ 1280) : sm_T (mt_P sc_) 29 537 (0, [some (.inr (.inr (some (12, 0)))), some (.inr (.inr (some (295, 0)))), none], [], S0_) (fun r_ => ∃ v_ S1_ k_, r_ = (.inl (some (.inl v_)), S1_, k_) ∧ k_ ≤ 2 ∧ lhq vw_213 S0_ S1_ ∧ lde b_ n_ S0_ S1_ ∧ ldev b_ n_ S0_ S1_ v_) := by
  refine sm_T_go 3 (c1 := (3, [some (.inr (.inr (some (12, 0)))), some (.inr (.inr (some (295, 0)))), none], [.inr (.inr (some (12, 0))), .inl 0, .inr (.inr (some (295, 0)))], S0_)) rfl ?_
  refine sm_T_call rfl rfl (vc_213n b_ n_ S0_ hI_ hb_ hn_ hn1_) (fun u_ S1_ k1_ qz9_ => ?_) (fun ex_ S1_ k1_ qz9_ => ?_)
  · rcases qz9_ with ⟨u2_, S2_, k2_, ez9_, kz9_, qz9_⟩ | ⟨S2_, ez9_, qz9_⟩
    · cases ez9_
      have jz9_ := jC_de hJ_ (dv_c qz9_)
      have yz9_ := qz9_
      obtain ⟨v_, rfl, iz9_, fz9_, -⟩ := qz9_
      refine sm_T_go 4 (c1 := (15, [some (.inr (.inr (some (12, 0)))), some (.inr (.inr (some (295, 0)))), none], [.inl 0], _)) rfl ?_
      exact sm_T_ri rfl ⟨_, _, _, rfl, Nat.le_trans kz9_ (by decide), lhq_o iz9_ fz9_ jz9_.1 rfl rfl, jz9_.2, lde_v yz9_⟩
    · cases ez9_
  · rcases qz9_ with ⟨u2_, S2_, k2_, ez9_, kz9_, qz9_⟩ | ⟨S2_, ez9_, qz9_⟩
    · cases ez9_
    · cases ez9_
      obtain ⟨iz9_, fz9_, q1_, q2_⟩ := qz9_
      refine ⟨_, _, _, _, _, rfl, Nat.le_of_ble_eq_true rfl, ?_⟩
      refine sm_T_go 1 (c1 := (_, _, [.inl _], S1_)) rfl ?_
      exact sm_T_ri rfl ⟨_, _, _, rfl, Nat.le_of_ble_eq_true rfl, lhq_x iz9_ fz9_ (by rw [q2_]; exact hJ_) rfl, Or.inl ⟨q1_, by rw [q2_], fun j_ => by rw [q2_]⟩, Or.inl ⟨rfl, q1_, by (rw [q2_]; exact idf_rf), by rw [q2_]⟩⟩
theorem lh_538 {sc_ : Nat × (Nat → Int)} (b_ : Nat → Int) (n_ : Nat) (S0_ : sm_S) (hI_ : gi S0_) (hJ_ : jC S0_) (hb_ : S0_.2.2.1 98 0 = b_) (hn_ : S0_.1 10 0 1 = (n_ : Int)) (hn1_ : n_ ≤ 1280) : sm_T (mt_P sc_) 7 538 (0, [some (.inr (.inr (some (12, 0)))), some (.inr (.inr (some (295, 0)))), none], [], S0_) (fun r_ => ∃ v_ S1_ k_, r_ = (.inl (some (.inl v_)), S1_, k_) ∧ k_ ≤ 2 ∧ lhq vw_214 S0_ S1_ ∧ lli b_ n_ S0_ S1_ ∧ lliv b_ n_ S0_ S1_ v_) := by
  refine sm_T_go 3 (c1 := (3, [some (.inr (.inr (some (12, 0)))), some (.inr (.inr (some (295, 0)))), none], [.inr (.inr (some (12, 0))), .inl 0, .inr (.inr (some (295, 0)))], S0_)) rfl ?_
  refine sm_T_call rfl rfl (vc_214v b_ n_ S0_ hI_ hb_ hn_ hn1_) (fun u_ S1_ k1_ qz9_ => ?_) (fun ex_ S1_ k1_ qz9_ => ?_)
  · rcases qz9_ with ⟨u2_, S2_, k2_, ez9_, kz9_, qz9_⟩ | ⟨S2_, ez9_, qz9_⟩
    · cases ez9_
      have jz9_ := jC_li hJ_ (lv_c qz9_)
      have yz9_ := qz9_
      obtain ⟨v_, rfl, iz9_, fz9_, -⟩ := qz9_
      refine sm_T_go 4 (c1 := (15, [some (.inr (.inr (some (12, 0)))), some (.inr (.inr (some (295, 0)))), none], [.inl 0], _)) rfl ?_
      exact sm_T_ri rfl ⟨_, _, _, rfl, Nat.le_trans kz9_ (by decide), lhq_o iz9_ fz9_ jz9_.1 rfl rfl, jz9_.2, lli_v yz9_⟩
    · cases ez9_
  · rcases qz9_ with ⟨u2_, S2_, k2_, ez9_, kz9_, qz9_⟩ | ⟨S2_, ez9_, qz9_⟩
    · cases ez9_
    · cases ez9_
      obtain ⟨iz9_, fz9_, q1_, q2_⟩ := qz9_
      refine ⟨_, _, _, _, _, rfl, Nat.le_of_ble_eq_true rfl, ?_⟩
      refine sm_T_go 1 (c1 := (_, _, [.inl _], S1_)) rfl ?_
      exact sm_T_ri rfl ⟨_, _, _, rfl, Nat.le_of_ble_eq_true rfl, lhq_x iz9_ fz9_ (by rw [q2_]; exact hJ_) rfl, Or.inl ⟨q1_, by rw [q2_], fun j_ => by rw [q2_]⟩, Or.inl ⟨rfl, q1_, by (rw [q2_]; exact ilf_rf), by rw [q2_]⟩⟩
def ldr (kd_ k_ : Int) (S0_ S1_ : sm_S) : Prop := (kd_ = 0 ∧ (0 ≤ k_ ∧ k_ < 6 ∧ S0_.1 3 k_.toNat 0 = 1) ∧ (∀ j_, S1_.1 3 j_ 0 = if j_ = k_.toNat then 0 else S0_.1 3 j_ 0) ∧ ∀ j_, S1_.1 5 j_ 0 = S0_.1 5 j_ 0) ∨ (kd_ = 1 ∧ (0 ≤ k_ ∧ k_ < 3 ∧ S0_.1 5 k_.toNat 0 = 1) ∧ (∀ j_, S1_.1 5 j_ 0 = if j_ = k_.toNat then 0 else S0_.1 5 j_ 0) ∧ ∀ j_, S1_.1 3 j_ 0 = S0_.1 3 j_ 0) ∨ ((¬ (kd_ = 0 ∧ 0 ≤ k_ ∧ k_ < 6 ∧ S0_.1 3 k_.toNat 0 = 1) ∧ ¬ (kd_ = 1 ∧ 0 ≤ k_ ∧ k_ < 3 ∧ S0_.1 5 k_.toNat 0 = 1)) ∧ (∀ j_, S1_.1 3 j_ 0 = S0_.1 3 j_ 0) ∧ ∀ j_, S1_.1 5 j_ 0 = S0_.1 5 j_ 0)
/-- what map answers and leaves: the class -/
def emc (a_ b_ : Int) (S0_ S1_ : sm_S) (v_ : Int) : Prop := (v_ = 0 ∧ oka_map a_ b_ S0_ ∧ ∃ (c_ F_ : Nat) (x_ : Int), fch c_ S0_ ∧ mpc a_.toNat F_ b_.toNat c_ S0_ S1_ x_ ∧ S1_.2.2.2 295 0 0 = l_i2l x_) ∨ (v_ = 1 ∧ ¬ oka_map a_ b_ S0_ ∧ S1_ = S0_) ∨ (v_ = 2 ∧ oka_map a_ b_ S0_ ∧ (¬ ∃ c_ : Nat, fch c_ S0_) ∧ S1_ = S0_)
theorem mpc_o {dd_ F_ ll_ cc_ : Nat} {S0_ S_ : sm_S} {v_ y_ : Int} (h_ : mpc dd_ F_ ll_ cc_ S0_ S_ v_) : mpc dd_ F_ ll_ cc_ S0_ (sm_aL S_ 295 0 0 y_) v_ := h_
theorem lh_552n {sc_ : Nat × (Nat → Int)} (aa_ : Int) (lb_ : Int) (S0_ : sm_S) (hI_ : gi S0_) (hJ_ : jC S0_) (hts_ : ∀ c9_ : Nat, c9_ < 4 → tsk c9_ S0_) (hsw_ : imq (0 ≤ aa_ ∧ aa_ < 6 ∧ S0_.1 3 aa_.toNat 0 = 1) (swd (1 + S0_.1 3 aa_.toNat 1 + S0_.1 3 aa_.toNat 2).toNat (S0_.1 3 aa_.toNat 4).toNat (S0_.2.2.1 42 (0 + aa_.toNat)) (S0_.2.2.1 43 (0 + aa_.toNat)) (S0_.2.2.1 44 (0 + aa_.toNat)))) : sm_T (mt_P sc_) 8 552 (0, [some (.inr (.inr (some (12, 0)))), some (.inl aa_), some (.inl lb_), some (.inr (.inr (some (295, 0)))), none], [], S0_) (fun r_ => ∃ v_ S1_ k_, r_ = (.inl (some (.inl v_)), S1_, k_) ∧ k_ ≤ 2 ∧ lhq vw_230m S0_ S1_ ∧ lbs S0_ S1_ ∧ emc aa_ lb_ S0_ S1_ v_ ∧ emp9 S0_ S1_ ∧ emt9 aa_ lb_ S0_ S1_ v_) := by
  refine sm_T_go 5 (c1 := (5, [some (.inr (.inr (some (12, 0)))), some (.inl aa_), some (.inl lb_), some (.inr (.inr (some (295, 0)))), none], [.inl lb_, .inl aa_, .inr (.inr (some (12, 0))), .inl 0, .inr (.inr (some (295, 0)))], S0_)) rfl ?_
  refine sm_T_call rfl rfl (vc_230f aa_ lb_ S0_ hI_ hJ_ hts_ hsw_) (fun u_ S1_ k1_ qz9_ => ?_) (fun ex_ S1_ k1_ qz9_ => ?_)
  · rcases qz9_ with ⟨u2_, S2_, ez9_, qz9_⟩ | ⟨ex2_, S2_, ez9_, mz9_, qz9_⟩
    · cases ez9_
      obtain ⟨v_, rfl, iz9_, fz9_, jz9_, lz9_, ok_, cc_, F_, h0_, h9_, h1_, h2_⟩ := qz9_
      refine sm_T_go 4 (c1 := (22, [some (.inr (.inr (some (12, 0)))), some (.inl aa_), some (.inl lb_), some (.inr (.inr (some (295, 0)))), none], [.inl 0], _)) rfl ?_
      exact sm_T_ri rfl ⟨_, _, _, rfl, Nat.le_of_ble_eq_true rfl, lhq_o iz9_ fz9_ jz9_ rfl rfl, lz9_, Or.inl ⟨rfl, ok_, cc_, F_, v_, h1_, mpc_o h2_, rd_ll.trans (if_pos ⟨rfl, rfl, rfl⟩)⟩, Or.inl ⟨cc_, h2_.2.1, mpt_o h0_⟩, Or.inl ⟨rfl, cc_, F_, v_, h1_, mpc_o h2_, rd_ll.trans (if_pos ⟨rfl, rfl, rfl⟩), mpt_o h0_, mpu_o h9_⟩⟩
    · cases ez9_
  · rcases qz9_ with ⟨u2_, S2_, ez9_, qz9_⟩ | ⟨ex2_, S2_, ez9_, mz9_, qz9_⟩
    · cases ez9_
    · cases ez9_
      obtain ⟨iz9_, fz9_, qz9_, q2_⟩ := qz9_
      have jz9_ : jC S1_ := by rw [qz9_]; exact hJ_
      have lz9_ : lbs S0_ S1_ := by (rw [qz9_]; exact fun _ _ => ⟨fun _ => rfl, fun _ _ _ => rfl⟩)
      simp only [List.mem_cons, List.not_mem_nil, or_false] at mz9_
      rcases mz9_ with rfl | rfl
      · refine ⟨_, _, _, _, _, rfl, Nat.le_of_ble_eq_true rfl, ?_⟩
        refine sm_T_go 1 (c1 := (_, _, [.inl _], S1_)) rfl ?_
        exact sm_T_ri rfl ⟨_, _, _, rfl, Nat.le_of_ble_eq_true rfl, lhq_x iz9_ fz9_ jz9_ rfl, lz9_, Or.inr (Or.inl ⟨rfl, (q2_.resolve_right (fun z_ => absurd z_.1 (by decide))).2, qz9_⟩), Or.inr qz9_, Or.inr ⟨by decide, qz9_⟩⟩
      · refine ⟨_, _, _, _, _, rfl, Nat.le_of_ble_eq_true rfl, ?_⟩
        refine sm_T_go 1 (c1 := (_, _, [.inl _], S1_)) rfl ?_
        have q3_ := q2_.resolve_left (fun z_ => absurd z_.1 (by decide))
        exact sm_T_ri rfl ⟨_, _, _, rfl, Nat.le_of_ble_eq_true rfl, lhq_x iz9_ fz9_ jz9_ rfl, lz9_, Or.inr (Or.inr ⟨rfl, q3_.2.1, q3_.2.2, qz9_⟩), Or.inr qz9_, Or.inr ⟨by decide, qz9_⟩⟩
/-- what drop answers and leaves: the class -/
def ldn (kd_ k_ : Int) (S0_ S1_ : sm_S) (v_ : Int) : Prop := (v_ = 0 ∧ okc_drop kd_ k_ S0_ ∧ (∀ j_, S1_.1 3 j_ 0 = if kd_ = 0 ∧ j_ = k_.toNat then 0 else S0_.1 3 j_ 0) ∧ (∀ j_, S1_.1 5 j_ 0 = if kd_ = 1 ∧ j_ = k_.toNat then 0 else S0_.1 5 j_ 0) ∧ (∀ j_, S1_.1 2 j_ 0 = if kd_ = 2 ∧ j_ = k_.toNat then 0 else S0_.1 2 j_ 0)) ∨ (v_ = 1 ∧ ¬ (0 ≤ kd_ ∧ kd_ ≤ 2) ∧ S1_ = S0_) ∨ (v_ = 2 ∧ (0 ≤ kd_ ∧ kd_ ≤ 2) ∧ ¬ okc_drop kd_ k_ S0_ ∧ S1_ = S0_)
theorem lh_539n {sc_ : Nat × (Nat → Int)} (kd_ : Int) (kk_ : Int) (S0_ : sm_S) (hI_ : gi S0_) (hJ_ : jC S0_) : sm_T (mt_P sc_) 3 539 (0, [some (.inr (.inr (some (12, 0)))), some (.inl kd_), some (.inl kk_), none], [], S0_) (fun r_ => ∃ v_ S1_ k_, r_ = (.inl (some (.inl v_)), S1_, k_) ∧ k_ ≤ 2 ∧ lhq vw_217n S0_ S1_ ∧ ldn kd_ kk_ S0_ S1_ v_) := by
  refine sm_T_go 3 (c1 := (3, [some (.inr (.inr (some (12, 0)))), some (.inl kd_), some (.inl kk_), none], [.inl kk_, .inl kd_, .inr (.inr (some (12, 0)))], S0_)) rfl ?_
  refine sm_T_call rfl rfl (vc_217n kd_ kk_ S0_ hI_ hJ_) (fun u_ S1_ k1_ qz9_ => ?_) (fun ex_ S1_ k1_ qz9_ => ?_)
  · rcases qz9_ with ⟨u2_, S2_, ez9_, qz9_⟩ | ⟨ex2_, S2_, ez9_, mz9_, qz9_⟩
    · cases ez9_
      obtain ⟨rfl, iz9_, fz9_, jz9_, o9_, qz9_⟩ := qz9_
      refine sm_T_go 2 (c1 := (16, [some (.inr (.inr (some (12, 0)))), some (.inl kd_), some (.inl kk_), none], [.inl 0], S1_)) rfl ?_
      exact sm_T_ri rfl ⟨_, _, _, rfl, Nat.le_of_ble_eq_true rfl, lhq_x iz9_ fz9_ jz9_ rfl, Or.inl ⟨rfl, o9_, qz9_⟩⟩
    · cases ez9_
  · rcases qz9_ with ⟨u2_, S2_, ez9_, qz9_⟩ | ⟨ex2_, S2_, ez9_, mz9_, qz9_⟩
    · cases ez9_
    · cases ez9_
      obtain ⟨iz9_, fz9_, q1_, q2_⟩ := qz9_
      simp only [List.mem_cons, List.not_mem_nil, or_false] at mz9_
      rcases mz9_ with rfl | rfl
      · refine ⟨_, _, _, _, _, rfl, Nat.le_of_ble_eq_true rfl, ?_⟩
        refine sm_T_go 1 (c1 := (_, _, [.inl _], S1_)) rfl ?_
        have q3_ := q2_.resolve_left (fun z_ => absurd z_.1 (by decide))
        exact sm_T_ri rfl ⟨_, _, _, rfl, Nat.le_of_ble_eq_true rfl, lhq_x iz9_ fz9_ (by rw [q1_]; exact hJ_) rfl, Or.inr (Or.inr ⟨rfl, q3_.2.1, q3_.2.2, q1_⟩)⟩
      · refine ⟨_, _, _, _, _, rfl, Nat.le_of_ble_eq_true rfl, ?_⟩
        refine sm_T_go 1 (c1 := (_, _, [.inl _], S1_)) rfl ?_
        exact sm_T_ri rfl ⟨_, _, _, rfl, Nat.le_of_ble_eq_true rfl, lhq_x iz9_ fz9_ (by rw [q1_]; exact hJ_) rfl, Or.inr (Or.inl ⟨rfl, (q2_.resolve_right (fun z_ => absurd z_.1 (by decide))).2, q1_⟩)⟩
/-- what alter answers and leaves: the class -/
def eal (a_ b_ d_ : Int) (S0_ S1_ : sm_S) (v_ : Int) : Prop := (v_ = 0 ∧ okc_alter a_ b_ d_ S0_ ∧ S1_.2.2.2 295 0 0 = l_i2l (S0_.2.2.1 35 (0 + a_.toNat) b_.toNat) ∧ cdf a_.toNat S0_ S1_ ∧ ∀ j_, S1_.2.2.1 35 (0 + a_.toNat) j_ = if j_ = b_.toNat then d_ else S0_.2.2.1 35 (0 + a_.toNat) j_) ∨ (v_ = 1 ∧ ¬ oka_alter a_ b_ d_ S0_ ∧ S1_ = S0_) ∨ (v_ = 2 ∧ oka_alter a_ b_ d_ S0_ ∧ ¬ okc_alter a_ b_ d_ S0_ ∧ S1_ = S0_)
theorem lh_556n {sc_ : Nat × (Nat → Int)} (aa_ : Int) (bb_ : Int) (dd_ : Int) (S0_ : sm_S) (hI_ : gi S0_) (hJ_ : jC S0_) (hts_ : tsk aa_.toNat S0_) : sm_T (mt_P sc_) 6 556 (0, [some (.inr (.inr (some (12, 0)))), some (.inl aa_), some (.inl bb_), some (.inl dd_), some (.inr (.inr (some (295, 0)))), none], [], S0_) (fun r_ => ∃ v_ S1_ k8_, r_ = (.inl (some (.inl v_)), S1_, k8_) ∧ k8_ ≤ 2 ∧ lhq vw_234m S0_ S1_ ∧ eal aa_ bb_ dd_ S0_ S1_ v_ ∧ eap9 aa_.toNat S0_ S1_ ∧ eat9 aa_.toNat S0_ S1_ v_) := by
  refine sm_T_go 6 (c1 := (7, [some (.inr (.inr (some (12, 0)))), some (.inl aa_), some (.inl bb_), some (.inl dd_), some (.inr (.inr (some (295, 0)))), none], [.inl dd_, .inl bb_, .inl aa_, .inr (.inr (some (12, 0))), .inl 0, .inr (.inr (some (295, 0)))], S0_)) rfl ?_
  refine sm_T_call rfl rfl (vc_234f aa_ bb_ dd_ S0_ hI_ hJ_ hts_) (fun u_ S1_ k1_ qz9_ => ?_) (fun ex_ S1_ k1_ qz9_ => ?_)
  · rcases qz9_ with ⟨u2_, S2_, ez9_, qz9_⟩ | ⟨ex2_, S2_, ez9_, mz9_, qz9_⟩
    · cases ez9_
      obtain ⟨v_, rfl, iz9_, fz9_, cd_, tf_, jz9_, ok_, vv_, r_⟩ := qz9_
      refine sm_T_go 4 (c1 := (24, [some (.inr (.inr (some (12, 0)))), some (.inl aa_), some (.inl bb_), some (.inl dd_), some (.inr (.inr (some (295, 0)))), none], [.inl 0], _)) rfl ?_
      exact sm_T_ri rfl ⟨_, _, _, rfl, Nat.le_of_ble_eq_true rfl, lhq_o iz9_ fz9_ jz9_ rfl rfl, Or.inl ⟨rfl, ok_, (rd_ll.trans (if_pos ⟨rfl, rfl, rfl⟩)).trans (congrArg l_i2l vv_), cd_, r_⟩, Or.inl ⟨tf_.1, tf_.2.1, cd_⟩, Or.inl ⟨rfl, ⟨tok_o tf_.2.2.1, tf_.2.2.2⟩, tf_.1.2.1, cd_⟩⟩
    · cases ez9_
  · rcases qz9_ with ⟨u2_, S2_, ez9_, qz9_⟩ | ⟨ex2_, S2_, ez9_, mz9_, qz9_⟩
    · cases ez9_
    · cases ez9_
      obtain ⟨iz9_, fz9_, rfl, q2_⟩ := qz9_
      simp only [List.mem_cons, List.not_mem_nil, or_false] at mz9_
      rcases mz9_ with rfl | rfl
      · refine ⟨_, _, _, _, _, rfl, Nat.le_of_ble_eq_true rfl, ?_⟩
        refine sm_T_go 1 (c1 := (_, _, [.inl _], _)) rfl ?_
        exact sm_T_ri rfl ⟨_, _, _, rfl, Nat.le_of_ble_eq_true rfl, lhq_x iz9_ fz9_ hJ_ rfl, Or.inr (Or.inl ⟨rfl, (q2_.resolve_right (fun z_ => absurd z_.1 (by decide))).2, rfl⟩), Or.inr rfl, Or.inr ⟨by decide, rfl⟩⟩
      · refine ⟨_, _, _, _, _, rfl, Nat.le_of_ble_eq_true rfl, ?_⟩
        refine sm_T_go 1 (c1 := (_, _, [.inl _], _)) rfl ?_
        exact sm_T_ri rfl ⟨_, _, _, rfl, Nat.le_of_ble_eq_true rfl, lhq_x iz9_ fz9_ hJ_ rfl, Or.inr (Or.inr ⟨rfl, (q2_.resolve_left (fun z_ => absurd z_.1 (by decide))).2.1, (q2_.resolve_left (fun z_ => absurd z_.1 (by decide))).2.2, rfl⟩), Or.inr rfl, Or.inr ⟨by decide, rfl⟩⟩
