/-! calls that ask, compared; written by wip/ids/lawgen.py -/
theorem cmp_q3 {A1_ A_ B1_ B_ : Prop} {X_ Y_ : Int → Prop} {v_ c_ o_ w_ : Int} (E_ : (v_ = 0 ∧ A_ ∧ ∃ x_, o_ = l_i2l x_ ∧ X_ x_) ∨ (v_ = 1 ∧ ¬ A1_) ∨ (v_ = 2 ∧ A1_ ∧ ¬ A_)) (P_ : (c_ = 1 ∧ ¬ B1_) ∨ (c_ = 2 ∧ B1_ ∧ ¬ B_) ∨ (c_ = 0 ∧ B_ ∧ Y_ w_)) (hA_ : A_ → A1_) (hB_ : B_ → B1_) (h_ : (A1_ ↔ B1_) ∧ (A_ ↔ B_) ∧ (A_ → ∀ x_ y_, X_ x_ → Y_ y_ → x_ = y_)) : c_ = v_ ∧ (v_ = 0 → o_ = l_i2l w_) := by
  rcases E_ with ⟨e1_, e2_, x_, e3_, e4_⟩ | ⟨e1_, e2_⟩ | ⟨e1_, e2_, e3_⟩
  · rcases P_ with ⟨p1_, p2_⟩ | ⟨p1_, p2_, p3_⟩ | ⟨p1_, p2_, p3_⟩
    · exact absurd (h_.1.mp (hA_ e2_)) p2_
    · exact absurd (h_.2.1.mp e2_) p3_
    · exact ⟨p1_.trans e1_.symm, fun _ => by rw [e3_, h_.2.2 e2_ x_ w_ e4_ p3_]⟩
  · rcases P_ with ⟨p1_, p2_⟩ | ⟨p1_, p2_, p3_⟩ | ⟨p1_, p2_, p3_⟩
    · exact ⟨p1_.trans e1_.symm, fun z_ => absurd (e1_.symm.trans z_) (by decide)⟩
    · exact absurd (h_.1.mpr p2_) e2_
    · exact absurd (h_.1.mpr (hB_ p2_)) e2_
  · rcases P_ with ⟨p1_, p2_⟩ | ⟨p1_, p2_, p3_⟩ | ⟨p1_, p2_, p3_⟩
    · exact absurd (h_.1.mp e2_) p2_
    · exact ⟨p1_.trans e1_.symm, fun z_ => absurd (e1_.symm.trans z_) (by decide)⟩
    · exact absurd (h_.2.1.mpr p2_) e3_
theorem dtb_n {n_ : Nat} {d_ : Nat} {S_ : sm_S} (J_ : jB n_ S_) (hd_ : d_ < 6) (u_ : S_.1 3 d_ 0 = 1) : (0 ≤ S_.1 3 d_ 1 ∧ 0 ≤ S_.1 3 d_ 2 ∧ S_.1 3 d_ 1 + S_.1 3 d_ 2 ≤ 12) ∧ (0 ≤ S_.1 3 d_ 5 ∧ S_.1 3 d_ 5 < 2 ^ (S_.1 3 d_ 2).toNat) ∧ ∀ p_ : Nat, p_ < 2 ^ ((S_.1 3 d_ 1).toNat + (S_.1 3 d_ 2).toNat) → (0 ≤ S_.2.2.1 47 (0 + d_) p_ ∧ S_.2.2.1 47 (0 + d_) p_ ≤ 2147483647) ∧ (0 ≤ nx6 (S_.2.2.1 47 (0 + d_)) p_ ∧ nx6 (S_.2.2.1 47 (0 + d_)) p_ < 2 ^ (S_.1 3 d_ 2).toNat) ∧ S_.2.2.1 169 0 (4096 * d_ + p_) = S_.2.2.1 47 (0 + d_) p_ % 65536 ∧ S_.2.2.1 170 0 (4096 * d_ + p_) = nx6 (S_.2.2.1 47 (0 + d_)) p_ := by
  obtain ⟨-, -, -, ⟨q1_, q2_⟩, -⟩ := J_.2.2.2.2.2.2.2.2.2.1 d_ hd_ u_
  have J9_ := dOk_b (J_.2.1.1 d_ hd_ u_)
  refine ⟨q1_, J9_.2.2.1, fun p_ hp_ => ?_⟩
  have a_ : 2 ^ ((S_.1 3 d_ 1).toNat + (S_.1 3 d_ 2).toNat) ≤ 2 ^ 12 := Nat.pow_le_pow_right (by decide) (by omega)
  have t_ := J9_.2.2.2.2 p_ (Nat.lt_of_lt_of_le hp_ a_)
  have s_ := shr16 t_
  have pn_ := pw_nn (k_ := (S_.1 3 d_ 1).toNat + (S_.1 3 d_ 2).toNat)
  have e_ := q2_ p_ (by rw [show (S_.1 3 d_ 1 + S_.1 3 d_ 2).toNat = (S_.1 3 d_ 1).toNat + (S_.1 3 d_ 2).toNat by omega]; omega)
  have b_ : 0 ≤ S_.2.2.1 47 (0 + d_) p_ ∧ S_.2.2.1 47 (0 + d_) p_ ≤ 4194303 := J_.1.2 47 (0 + d_) p_
  exact ⟨⟨b_.1, by omega⟩, s_, e_.1.symm, e_.2.symm⟩
theorem lh_559t {sc_ : Nat × (Nat → Int)} (kk_ : Int) (bb_ : Int) (S0_ : sm_S) (hI_ : gi S0_) (hJ_ : jC S0_) : sm_T (mt_P sc_) 3 559 (0, [some (.inr (.inr (some (12, 0)))), some (.inl kk_), some (.inl bb_), some (.inr (.inr (some (295, 0)))), none], [], S0_) (fun r_ => ∃ v_ S1_ k8_, r_ = (.inl (some (.inl v_)), S1_, k8_) ∧ k8_ ≤ 2 ∧ lhq vw_237t S0_ S1_ ∧ ((v_ = 0 ∧ okc_proves kk_ bb_ S1_ ∧ ∃ x_, S1_.2.2.2 295 0 0 = l_i2l x_ ∧ spc_proves kk_ bb_ S1_ x_) ∨ (v_ = 1 ∧ ¬ oka_proves kk_ bb_ S1_) ∨ (v_ = 2 ∧ oka_proves kk_ bb_ S1_ ∧ ¬ okc_proves kk_ bb_ S1_))) := by
  refine sm_T_go 5 (c1 := (5, [some (.inr (.inr (some (12, 0)))), some (.inl kk_), some (.inl bb_), some (.inr (.inr (some (295, 0)))), none], [.inl bb_, .inl kk_, .inr (.inr (some (12, 0))), .inl 0, .inr (.inr (some (295, 0)))], S0_)) rfl ?_
  refine sm_T_call rfl rfl (vc_237t kk_ bb_ S0_ hI_ hJ_) (fun u_ S1_ k1_ qz9_ => ?_) (fun ex_ S1_ k1_ qz9_ => ?_)
  · rcases qz9_ with ⟨u2_, S2_, ez9_, qz9_⟩ | ⟨ex2_, S2_, ez9_, mz9_, qz9_⟩
    · cases ez9_
      obtain ⟨v_, rfl, iz9_, fz9_, j9_, q1_, q2_⟩ := qz9_
      refine sm_T_go 4 (c1 := (22, [some (.inr (.inr (some (12, 0)))), some (.inl kk_), some (.inl bb_), some (.inr (.inr (some (295, 0)))), none], [.inl 0], _)) rfl ?_
      exact sm_T_ri rfl ⟨_, _, _, rfl, Nat.le_of_ble_eq_true rfl, lhq_o iz9_ fz9_ j9_ rfl rfl, Or.inl ⟨rfl, q1_, v_, rd_ll.trans (if_pos ⟨rfl, rfl, rfl⟩), q2_⟩⟩
    · cases ez9_
  · rcases qz9_ with ⟨u2_, S2_, ez9_, qz9_⟩ | ⟨ex2_, S2_, ez9_, mz9_, qz9_⟩
    · cases ez9_
    · cases ez9_
      obtain ⟨iz9_, fz9_, rfl, q1_⟩ := qz9_
      simp only [List.mem_cons, List.not_mem_nil, or_false] at mz9_
      rcases mz9_ with rfl | rfl
      · refine ⟨_, _, _, _, _, rfl, Nat.le_of_ble_eq_true rfl, ?_⟩
        refine sm_T_go 1 (c1 := (_, _, [.inl _], _)) rfl ?_
        exact sm_T_ri rfl ⟨_, _, _, rfl, Nat.le_of_ble_eq_true rfl, lhq_x iz9_ fz9_ hJ_ rfl, Or.inr (Or.inl ⟨rfl, (q1_.resolve_right (fun z_ => absurd z_.1 (by decide))).2⟩)⟩
      · refine ⟨_, _, _, _, _, rfl, Nat.le_of_ble_eq_true rfl, ?_⟩
        refine sm_T_go 1 (c1 := (_, _, [.inl _], _)) rfl ?_
        exact sm_T_ri rfl ⟨_, _, _, rfl, Nat.le_of_ble_eq_true rfl, lhq_x iz9_ fz9_ hJ_ rfl, Or.inr (Or.inr ⟨rfl, (q1_.resolve_left (fun z_ => absurd z_.1 (by decide))).2⟩)⟩
theorem eq_proves {n_ : Nat} {a_ b_ : Int} {S_ : sm_S} (J_ : jB n_ S_) : (oka_proves a_ b_ S_ ↔ ora_proves a_ b_ S_) ∧ (okc_proves a_ b_ S_ ↔ okr_proves a_ b_ S_) ∧ (okc_proves a_ b_ S_ → ∀ x_ y_ : Int, spc_proves a_ b_ S_ x_ → spr_proves a_ b_ S_ y_ → x_ = y_) := by
  have a7_ := J_.2.2.2.2.2.2.1
  have g_ := J_.2.2.2.2.2.2.2.2.2.1
  have K_ := J_.2.2.2.2.2.1.2.1
  have PJ_ := J_.2.2.2.2.2.1.2.2
  have kd_ : (0 ≤ b_ ∧ b_ < 6 ∧ S_.1 3 b_.toNat 0 = 1) ↔ (0 ≤ b_ ∧ b_ < 6 ∧ S_.2.2.1 153 0 b_.toNat = 1) := by
    constructor
    · rintro ⟨h1_, h2_, h3_⟩
      exact ⟨h1_, h2_, by rw [← a7_ b_.toNat (by omega)]; exact h3_⟩
    · rintro ⟨h1_, h2_, h3_⟩
      exact ⟨h1_, h2_, (a7_ b_.toNat (by omega)).trans h3_⟩
  have kc_ : (0 ≤ a_ ∧ a_ < 4 ∧ S_.1 2 a_.toNat 0 = 1) ↔ (0 ≤ a_ ∧ a_ < 4 ∧ S_.2.2.1 222 0 a_.toNat = 1) := by
    constructor
    · rintro ⟨h1_, h2_, h3_⟩
      exact ⟨h1_, h2_, by rw [← K_.2.1 a_.toNat (by omega)]; exact h3_⟩
    · rintro ⟨h1_, h2_, h3_⟩
      exact ⟨h1_, h2_, (K_.2.1 a_.toNat (by omega)).trans h3_⟩
  have k1_ : oka_proves a_ b_ S_ ↔ ora_proves a_ b_ S_ := by
    unfold oka_proves ora_proves
    rw [kc_, kd_]
  refine ⟨k1_, ?_, fun k_ x_ y_ hx_ hy_ => ?_⟩
  · by_cases h_ : oka_proves a_ b_ S_
    · obtain ⟨⟨h1_, h2_, h3_⟩, h4_, h5_, h6_⟩ := id h_
      obtain ⟨⟨f1_, -, f3_, -⟩, -⟩ := K_.2.2 a_.toNat (by omega) h3_
      obtain ⟨⟨⟨d1_, -, d3_, -⟩, -⟩, -⟩ := g_ b_.toNat (by omega) h6_
      unfold okc_proves okr_proves
      rw [f1_, f3_, d1_, d3_]
      exact ⟨fun z_ => ⟨k1_.mp z_.1, z_.2⟩, fun z_ => ⟨k1_.mpr z_.1, z_.2⟩⟩
    · exact ⟨fun z_ => absurd z_.1 h_, fun z_ => absurd (k1_.mpr z_.1) h_⟩
  · obtain ⟨⟨⟨h1_, h2_, h3_⟩, h4_, h5_, h6_⟩, i1_, i3_⟩ := k_
    have ck_ : chk a_.toNat S_ S_ := K_.2.2 a_.toNat (by omega) h3_
    have p9_ := PJ_.2 a_.toNat (by omega) h3_
    obtain ⟨f1_, f2_, f3_, f4_, -⟩ := ck_.1
    obtain ⟨-, ⟨-, o2_, -⟩, -⟩ := g_ b_.toNat (by omega) h6_
    obtain ⟨tb1_, tb2_, tb3_⟩ := dtb_n J_ (by omega) h6_
    have ok_ := J_.2.1.2.1 a_.toNat (by omega) h3_
    have c1_ := ok_.1.1
    have c4_ := ok_.2.1
    have ct_ := ok_.2.2.2.1
    have ea_ : ((a_.toNat : Nat) : Int) = a_ := by omega
    have rk_ := J_.2.2.1.2 a_ h1_ h2_ (by rw [← K_.2.1 a_.toNat (by omega)]; exact h3_)
    have g1_ : 0 ≤ S_.1 2 a_.toNat 1 := (J_.1.1 2 a_.toNat 1 rfl).1
    have g2_ : 0 ≤ S_.1 2 a_.toNat 2 ∧ S_.1 2 a_.toNat 2 ≤ 6 := J_.1.1 2 a_.toNat 2 rfl
    have g8_ : 0 ≤ S_.1 2 a_.toNat 8 := (J_.1.1 2 a_.toNat 8 rfl).1
    have g3_ : 0 ≤ S_.1 2 a_.toNat 3 := (J_.1.1 2 a_.toNat 3 rfl).1
    obtain ⟨oA_, nA_, rw_, bf_⟩ := hy_
    unfold spc_proves at hx_
    rw [← f1_, ← f2_] at rw_
    rw [← f1_, ← f4_, ← o2_, i1_] at bf_
    rw [i1_] at rw_
    have key_ : ∀ p_ : Nat, p_ < 2 ^ ((S_.1 3 b_.toNat 1).toNat + (S_.1 2 a_.toNat 2).toNat) → (0 ≤ S_.2.2.1 34 (0 + a_.toNat) p_ ∧ S_.2.2.1 34 (0 + a_.toNat) p_ ≤ 2147483647) ∧ (0 ≤ nx6 (S_.2.2.1 34 (0 + a_.toNat)) p_ ∧ nx6 (S_.2.2.1 34 (0 + a_.toNat)) p_ < 2 ^ (S_.1 2 a_.toNat 2).toNat) ∧ oA_ p_ = S_.2.2.1 34 (0 + a_.toNat) p_ % 65536 ∧ nA_ p_ = nx6 (S_.2.2.1 34 (0 + a_.toNat)) p_ := fun p_ hp_ => by
      have w_ : 2 ^ ((S_.1 3 b_.toNat 1).toNat + (S_.1 2 a_.toNat 2).toNat) ≤ 2 ^ 12 := Nat.pow_le_pow_right (by decide) (by omega)
      have t_ := ct_ p_ (Nat.lt_of_lt_of_le hp_ w_)
      have s_ := shr16 t_
      have v_ : (2 : Int) ^ (16 + (S_.1 2 a_.toNat 2).toNat) ≤ 4194304 := pw_le (n := 16 + (S_.1 2 a_.toNat 2).toNat) (m := 22) (by omega)
      obtain ⟨u_, x1_, x2_, x3_⟩ := rw_ p_ hp_
      have pn_ := pw_nn (k_ := (S_.1 3 b_.toNat 1).toNat + (S_.1 2 a_.toNat 2).toNat)
      have R_ := run_e (c_ := a_.toNat) (S_ := S_) (R_ := S_) (u_ := u_) (p_ := p_) J_.1 ck_ (by rw [ea_]; exact rk_.2.2.2.1) (by rw [ea_]; exact rk_.2.2.2.2.1) ⟨g1_, g2_.1, g8_, g3_⟩ p9_.1 (by
        rw [show (S_.1 2 a_.toNat 1 + S_.1 2 a_.toNat 2).toNat = (S_.1 3 b_.toNat 1).toNat + (S_.1 2 a_.toNat 2).toNat by omega]
        omega) (by rw [ea_]; exact x1_)
      rw [ea_] at R_
      exact ⟨⟨t_.1, by omega⟩, s_, x2_.trans R_.1.symm, by rw [x3_, f2_]; exact R_.2.symm⟩
    refine bfsp_u (bfsp_cg (RA_ := (S_.1 2 a_.toNat 2).toNat) (RB_ := (S_.1 3 b_.toNat 2).toNat) (fun p_ hp_ => ?_) (fun p_ hp_ => ?_) ⟨pw_tn c4_.1 c4_.2, pw_tn tb2_.1 tb2_.2⟩ (fun p_ q_ hp_ hq_ => ?_) hx_) bf_
    · have w_ := key_ p_ hp_
      exact ⟨w_.2.2.2, w_.2.1⟩
    · have w_ := tb3_ p_ hp_
      exact ⟨w_.2.2.2, w_.2.1⟩
    · have w_ := key_ p_ hp_
      have z_ := tb3_ q_ hq_
      show oA_ p_ ≠ S_.2.2.1 169 0 (4096 * b_.toNat + q_) ↔ i_and (i_xor (S_.2.2.1 34 (0 + a_.toNat) p_) (S_.2.2.1 47 (0 + b_.toNat) q_)) 65535 ≠ 0
      rw [w_.2.2.1, z_.2.2.1]
      exact (xm16 w_.1 z_.1).symm
