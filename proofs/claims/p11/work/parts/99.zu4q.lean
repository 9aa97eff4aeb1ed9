/-! calls that ask, compared; written by wip/ids/lawgen.py -/
theorem cmp_q {A_ B_ : Prop} {v_ c_ o_ w_ x_ y_ : Int} (E_ : (v_ = 0 ∧ A_ ∧ o_ = l_i2l x_) ∨ (v_ = 1 ∧ ¬ A_)) (P_ : (c_ = 1 ∧ ¬ B_) ∨ (c_ = 0 ∧ B_ ∧ w_ = y_)) (h_ : (A_ ↔ B_) ∧ (A_ → x_ = y_)) : c_ = v_ ∧ (v_ = 0 → o_ = l_i2l w_) := by
  rcases E_ with ⟨e1_, e2_, e3_⟩ | ⟨e1_, e2_⟩
  · rcases P_ with ⟨p1_, p2_⟩ | ⟨p1_, p2_, p3_⟩
    · exact absurd (h_.1.mp e2_) p2_
    · exact ⟨p1_.trans e1_.symm, fun _ => by rw [e3_, p3_, h_.2 e2_]⟩
  · rcases P_ with ⟨p1_, p2_⟩ | ⟨p1_, p2_, p3_⟩
    · exact ⟨p1_.trans e1_.symm, fun z_ => absurd (e1_.symm.trans z_) (by decide)⟩
    · exact absurd (h_.1.mpr p2_) e2_
theorem cmp_q2 {A1_ A_ B1_ B_ : Prop} {v_ c_ o_ w_ x_ y_ : Int} (E_ : (v_ = 0 ∧ A_ ∧ o_ = l_i2l x_) ∨ (v_ = 1 ∧ ¬ A1_) ∨ (v_ = 2 ∧ A1_ ∧ ¬ A_)) (P_ : (c_ = 1 ∧ ¬ B1_) ∨ (c_ = 2 ∧ B1_ ∧ ¬ B_) ∨ (c_ = 0 ∧ B_ ∧ w_ = y_)) (hA_ : A_ → A1_) (hB_ : B_ → B1_) (h_ : (A1_ ↔ B1_) ∧ (A_ ↔ B_) ∧ (A_ → x_ = y_)) : c_ = v_ ∧ (v_ = 0 → o_ = l_i2l w_) := by
  rcases E_ with ⟨e1_, e2_, e3_⟩ | ⟨e1_, e2_⟩ | ⟨e1_, e2_, e3_⟩
  · rcases P_ with ⟨p1_, p2_⟩ | ⟨p1_, p2_, p3_⟩ | ⟨p1_, p2_, p3_⟩
    · exact absurd (h_.1.mp (hA_ e2_)) p2_
    · exact absurd (h_.2.1.mp e2_) p3_
    · exact ⟨p1_.trans e1_.symm, fun _ => by rw [e3_, p3_, h_.2.2 e2_]⟩
  · rcases P_ with ⟨p1_, p2_⟩ | ⟨p1_, p2_, p3_⟩ | ⟨p1_, p2_, p3_⟩
    · exact ⟨p1_.trans e1_.symm, fun z_ => absurd (e1_.symm.trans z_) (by decide)⟩
    · exact absurd (h_.1.mpr p2_) e2_
    · exact absurd (h_.1.mpr (hB_ p2_)) e2_
  · rcases P_ with ⟨p1_, p2_⟩ | ⟨p1_, p2_, p3_⟩ | ⟨p1_, p2_, p3_⟩
    · exact absurd (h_.1.mp e2_) p2_
    · exact ⟨p1_.trans e1_.symm, fun z_ => absurd (e1_.symm.trans z_) (by decide)⟩
    · exact absurd (h_.2.1.mpr p2_) e3_
theorem lh_543t {sc_ : Nat × (Nat → Int)} (kk_ : Int) (nd_ : Int) (S0_ : sm_S) (hI_ : gi S0_) (hJ_ : jC S0_) : sm_T (mt_P sc_) 3 543 (0, [some (.inr (.inr (some (12, 0)))), some (.inl kk_), some (.inl nd_), some (.inr (.inr (some (295, 0)))), none], [], S0_) (fun r_ => ∃ v_ S1_ k8_, r_ = (.inl (some (.inl v_)), S1_, k8_) ∧ k8_ ≤ 2 ∧ lhq vw_221t S0_ S1_ ∧ ((v_ = 0 ∧ okc_swept kk_ nd_ S1_ ∧ S1_.2.2.2 295 0 0 = l_i2l (vac_swept kk_ nd_ S1_)) ∨ (v_ = 1 ∧ ¬ okc_swept kk_ nd_ S1_))) := by
  refine sm_T_go 5 (c1 := (5, [some (.inr (.inr (some (12, 0)))), some (.inl kk_), some (.inl nd_), some (.inr (.inr (some (295, 0)))), none], [.inl nd_, .inl kk_, .inr (.inr (some (12, 0))), .inl 0, .inr (.inr (some (295, 0)))], S0_)) rfl ?_
  refine sm_T_call rfl rfl (vc_221t kk_ nd_ S0_ hI_ hJ_.1) (fun u_ S1_ k1_ qz9_ => ?_) (fun ex_ S1_ k1_ qz9_ => ?_)
  · rcases qz9_ with ⟨u2_, S2_, ez9_, qz9_⟩ | ⟨ex2_, S2_, ez9_, mz9_, qz9_⟩
    · cases ez9_
      obtain ⟨v_, rfl, iz9_, fz9_, rfl, q1_, q2_⟩ := qz9_
      refine sm_T_go 4 (c1 := (18, [some (.inr (.inr (some (12, 0)))), some (.inl kk_), some (.inl nd_), some (.inr (.inr (some (295, 0)))), none], [.inl 0], _)) rfl ?_
      exact sm_T_ri rfl ⟨_, _, _, rfl, Nat.le_of_ble_eq_true rfl, lhq_o iz9_ fz9_ hJ_ rfl rfl, Or.inl ⟨rfl, q1_, (rd_ll.trans (if_pos ⟨rfl, rfl, rfl⟩)).trans (congrArg l_i2l q2_)⟩⟩
    · cases ez9_
  · rcases qz9_ with ⟨u2_, S2_, ez9_, qz9_⟩ | ⟨ex2_, S2_, ez9_, mz9_, qz9_⟩
    · cases ez9_
    · cases ez9_
      obtain ⟨iz9_, fz9_, rfl, q1_⟩ := qz9_
      simp only [List.mem_cons, List.not_mem_nil, or_false] at mz9_
      subst mz9_
      refine ⟨_, _, _, _, _, rfl, Nat.le_of_ble_eq_true rfl, ?_⟩
      refine sm_T_go 1 (c1 := (_, _, [.inl _], _)) rfl ?_
      exact sm_T_ri rfl ⟨_, _, _, rfl, Nat.le_of_ble_eq_true rfl, lhq_x iz9_ fz9_ hJ_ rfl, Or.inr ⟨rfl, q1_⟩⟩
theorem eq_swept {n_ : Nat} {a_ b_ : Int} {S_ : sm_S} (J_ : jB n_ S_) : (okc_swept a_ b_ S_ ↔ okr_swept a_ b_ S_) ∧ (okc_swept a_ b_ S_ → vac_swept a_ b_ S_ = var_swept a_ b_ S_) := by
  have a7_ := J_.2.2.2.2.2.2.1
  have g_ := J_.2.2.2.2.2.2.2.2.2.1
  by_cases h_ : 0 ≤ a_ ∧ a_ < 6 ∧ S_.1 3 a_.toNat 0 = 1
  · have e_ := a7_ a_.toNat (by omega)
    obtain ⟨⟨⟨d1_, d2_, d3_, d4_, d5_⟩, d6_⟩, -, w_⟩ := g_ a_.toNat (by omega) h_.2.2
    refine ⟨⟨?_, ?_⟩, fun k_ => ?_⟩
    · rintro ⟨-, x_⟩
      exact ⟨⟨h_.1, h_.2.1, by rw [← e_]; exact h_.2.2⟩, by omega⟩
    · rintro ⟨-, x_⟩
      exact ⟨h_, by omega⟩
    · obtain ⟨-, x_⟩ := k_
      unfold vac_swept var_swept
      rw [show (2048 * a_ + b_).toNat = 2048 * a_.toNat + b_.toNat by omega]
      exact w_ b_.toNat (by omega)
  · refine ⟨⟨fun k_ => absurd k_.1 h_, fun k_ => absurd ?_ h_⟩, fun k_ => absurd k_.1 h_⟩
    have x_ := k_.1
    exact ⟨x_.1, x_.2.1, (a7_ a_.toNat (by omega)).trans x_.2.2⟩
