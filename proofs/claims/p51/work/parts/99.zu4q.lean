/-! calls that ask, compared; written by wip/ids/lawgen.py -/
theorem cmp_q2 {A1_ A_ B1_ B_ : Prop} {v_ c_ o_ w_ x_ y_ : Int} (E_ : (v_ = 0 ∧ A_ ∧ o_ = l_i2l x_) ∨ (v_ = 1 ∧ ¬ A1_) ∨ (v_ = 2 ∧ A1_ ∧ ¬ A_)) (P_ : (c_ = 1 ∧ ¬ B1_) ∨ (c_ = 2 ∧ B1_ ∧ ¬ B_) ∨ (c_ = 0 ∧ B_ ∧ w_ = y_)) (hA_ : A_ → A1_) (hB_ : B_ → B1_) (h_ : (A1_ ↔ B1_) ∧ (A_ ↔ B_) ∧ (A_ → x_ = y_)) : c_ = v_ ∧ (v_ = 0 → o_ = l_i2l w_) := by
  rcases E_ with ⟨e1_, e2_, e3_⟩ | ⟨e1_, e2_⟩ | ⟨e1_, e2_, e3_⟩
  · rcases P_ with ⟨p1_, p2_⟩ | ⟨p1_, p2_, p3_⟩ | ⟨p1_, p2_, p3_⟩
    · exact absurd (h_.1.mp (hA_ e2_)) p2_
    · exact absurd (h_.2.1.mp e2_) p3_
    · exact ⟨p1_.trans e1_.symm, fun _ => by rw [e3_, p3_, h_.2.2 e2_]⟩
  · rcases P_ with ⟨p1_, p2_⟩ | ⟨p1_, p2_, p3_⟩ | ⟨p1_, p2_, p3_⟩
    · exact ⟨p1_.trans e1_.symm, fun z_ => absurd (e1_.symm.trans z_) (by decide)⟩
    · exact absurd (h_.1.mpr p2_) e2_
    · exact absurd (h_.1.mpr (hB_ p2_)) e2_
  · rcases P_ with ⟨p1_, p2_⟩ | ⟨p1_, p2_, p3_⟩ | ⟨p1_, p2_, p3_⟩
    · exact absurd (h_.1.mp e2_) p2_
    · exact ⟨p1_.trans e1_.symm, fun z_ => absurd (e1_.symm.trans z_) (by decide)⟩
    · exact absurd (h_.2.1.mpr p2_) e3_
theorem lh_583t {sc_ : Nat × (Nat → Int)} (kk_ : Int) (k_ : Int) (S0_ : sm_S) (hI_ : gi S0_) (hJ_ : jC S0_) : sm_T (mt_P sc_) 3 583 (0, [some (.inr (.inr (some (12, 0)))), some (.inl kk_), some (.inl k_), some (.inr (.inr (some (295, 0)))), none], [], S0_) (fun r_ => ∃ v_ S1_ k8_, r_ = (.inl (some (.inl v_)), S1_, k8_) ∧ k8_ ≤ 2 ∧ lhq vw_261t S0_ S1_ ∧ ((v_ = 0 ∧ okc_pattern kk_ k_ S1_ ∧ S1_.2.2.2 295 0 0 = l_i2l (vac_pattern kk_ k_ S1_)) ∨ (v_ = 1 ∧ ¬ oka_pattern kk_ k_ S1_) ∨ (v_ = 2 ∧ oka_pattern kk_ k_ S1_ ∧ ¬ okc_pattern kk_ k_ S1_))) := by
  refine sm_T_go 5 (c1 := (5, [some (.inr (.inr (some (12, 0)))), some (.inl kk_), some (.inl k_), some (.inr (.inr (some (295, 0)))), none], [.inl k_, .inl kk_, .inr (.inr (some (12, 0))), .inl 0, .inr (.inr (some (295, 0)))], S0_)) rfl ?_
  refine sm_T_call rfl rfl (vc_261t kk_ k_ S0_ hI_ hJ_) (fun u_ S1_ k1_ qz9_ => ?_) (fun ex_ S1_ k1_ qz9_ => ?_)
  · rcases qz9_ with ⟨u2_, S2_, ez9_, qz9_⟩ | ⟨ex2_, S2_, ez9_, mz9_, qz9_⟩
    · cases ez9_
      obtain ⟨v_, rfl, iz9_, fz9_, rfl, q1_, q2_⟩ := qz9_
      refine sm_T_go 4 (c1 := (22, [some (.inr (.inr (some (12, 0)))), some (.inl kk_), some (.inl k_), some (.inr (.inr (some (295, 0)))), none], [.inl 0], _)) rfl ?_
      exact sm_T_ri rfl ⟨_, _, _, rfl, Nat.le_of_ble_eq_true rfl, lhq_o iz9_ fz9_ hJ_ rfl rfl, Or.inl ⟨rfl, q1_, (rd_ll.trans (if_pos ⟨rfl, rfl, rfl⟩)).trans (congrArg l_i2l q2_)⟩⟩
    · cases ez9_
  · rcases qz9_ with ⟨u2_, S2_, ez9_, qz9_⟩ | ⟨ex2_, S2_, ez9_, mz9_, qz9_⟩
    · cases ez9_
    · cases ez9_
      obtain ⟨iz9_, fz9_, rfl, q1_⟩ := qz9_
      simp only [List.mem_cons, List.not_mem_nil, or_false] at mz9_
      rcases mz9_ with rfl | rfl
      · refine ⟨_, _, _, _, _, rfl, Nat.le_of_ble_eq_true rfl, ?_⟩
        refine sm_T_go 1 (c1 := (_, _, [.inl _], _)) rfl ?_
        exact sm_T_ri rfl ⟨_, _, _, rfl, Nat.le_of_ble_eq_true rfl, lhq_x iz9_ fz9_ hJ_ rfl, Or.inr (Or.inl ⟨rfl, (q1_.resolve_right (fun z_ => absurd z_.1 (by decide))).2⟩)⟩
      · refine ⟨_, _, _, _, _, rfl, Nat.le_of_ble_eq_true rfl, ?_⟩
        refine sm_T_go 1 (c1 := (_, _, [.inl _], _)) rfl ?_
        exact sm_T_ri rfl ⟨_, _, _, rfl, Nat.le_of_ble_eq_true rfl, lhq_x iz9_ fz9_ hJ_ rfl, Or.inr (Or.inr ⟨rfl, (q1_.resolve_left (fun z_ => absurd z_.1 (by decide))).2⟩)⟩
theorem eq_pattern {n_ : Nat} {a_ b_ : Int} {S_ : sm_S} (J_ : jB n_ S_) : (oka_pattern a_ b_ S_ ↔ ora_pattern a_ b_ S_) ∧ (okc_pattern a_ b_ S_ ↔ okr_pattern a_ b_ S_) ∧ (okc_pattern a_ b_ S_ → vac_pattern a_ b_ S_ = var_pattern a_ b_ S_) := by
  have K_ := J_.2.2.2.2.2.1.2.1
  have T_ := J_.2.2.2.2.2.1.2.2.2
  by_cases h_ : 0 ≤ a_ ∧ a_ < 4 ∧ S_.1 2 a_.toNat 0 = 1
  · have s_ := (T_ a_.toNat (by omega) h_.2.2).2.1
    have e_ := s_.1.1
    have u_ : S_.2.2.1 222 0 a_.toNat = 1 := (K_.2.1 a_.toNat (by omega)).symm.trans h_.2.2
    have oa_ : oka_pattern a_ b_ S_ ↔ ora_pattern a_ b_ S_ := by
      unfold oka_pattern ora_pattern
      rw [← e_]
      exact ⟨fun z_ => ⟨⟨h_.1, h_.2.1, u_⟩, z_.2⟩, fun z_ => ⟨h_, z_.2⟩⟩
    refine ⟨oa_, ⟨fun z_ => ⟨oa_.mp z_.1, by rw [← e_]; exact z_.2⟩, fun z_ => ⟨oa_.mpr z_.1, by rw [e_]; exact z_.2⟩⟩, fun z_ => ?_⟩
    obtain ⟨⟨-, z2_, z3_⟩, z4_⟩ := z_
    have q_ := (s_.2 b_.toNat (by omega)).1
    unfold vac_pattern var_pattern
    rw [q_, show (1280 * a_ + b_).toNat = 1280 * a_.toNat + b_.toNat by omega]
  · have n1_ : ¬ oka_pattern a_ b_ S_ := fun z_ => h_ z_.1
    have n2_ : ¬ ora_pattern a_ b_ S_ := fun z_ => h_ ⟨z_.1.1, z_.1.2.1, (K_.2.1 a_.toNat (by have x1_ := z_.1.1; have x2_ := z_.1.2.1; omega)).trans z_.1.2.2⟩
    exact ⟨⟨fun z_ => absurd z_ n1_, fun z_ => absurd z_ n2_⟩, ⟨fun z_ => absurd z_.1 n1_, fun z_ => absurd z_.1 n2_⟩, fun z_ => absurd z_.1 n1_⟩
