/-! calls that ask, compared; written by wip/ids/lawgen.py -/
theorem cmp_q {A_ B_ : Prop} {v_ c_ o_ w_ x_ y_ : Int} (E_ : (v_ = 0 ∧ A_ ∧ o_ = l_i2l x_) ∨ (v_ = 1 ∧ ¬ A_)) (P_ : (c_ = 1 ∧ ¬ B_) ∨ (c_ = 0 ∧ B_ ∧ w_ = y_)) (h_ : (A_ ↔ B_) ∧ (A_ → x_ = y_)) : c_ = v_ ∧ (v_ = 0 → o_ = l_i2l w_) := by
  rcases E_ with ⟨e1_, e2_, e3_⟩ | ⟨e1_, e2_⟩
  · rcases P_ with ⟨p1_, p2_⟩ | ⟨p1_, p2_, p3_⟩
    · exact absurd (h_.1.mp e2_) p2_
    · exact ⟨p1_.trans e1_.symm, fun _ => by rw [e3_, p3_, h_.2 e2_]⟩
  · rcases P_ with ⟨p1_, p2_⟩ | ⟨p1_, p2_, p3_⟩
    · exact ⟨p1_.trans e1_.symm, fun z_ => absurd (e1_.symm.trans z_) (by decide)⟩
    · exact absurd (h_.1.mpr p2_) e2_
theorem lh_555t {sc_ : Nat × (Nat → Int)} (kk_ : Int) (k_ : Int) (nx_ : Int) (S0_ : sm_S) (hI_ : gi S0_) (hJ_ : jC S0_) : sm_T (mt_P sc_) 3 555 (0, [some (.inr (.inr (some (12, 0)))), some (.inl kk_), some (.inl k_), some (.inl nx_), some (.inr (.inr (some (295, 0)))), none], [], S0_) (fun r_ => ∃ v_ S1_ k8_, r_ = (.inl (some (.inl v_)), S1_, k8_) ∧ k8_ ≤ 2 ∧ lhq vw_233t S0_ S1_ ∧ ((v_ = 0 ∧ okc_netOf kk_ k_ nx_ S1_ ∧ S1_.2.2.2 295 0 0 = l_i2l (vac_netOf kk_ k_ nx_ S1_)) ∨ (v_ = 1 ∧ ¬ okc_netOf kk_ k_ nx_ S1_))) := by
  refine sm_T_go 6 (c1 := (7, [some (.inr (.inr (some (12, 0)))), some (.inl kk_), some (.inl k_), some (.inl nx_), some (.inr (.inr (some (295, 0)))), none], [.inl nx_, .inl k_, .inl kk_, .inr (.inr (some (12, 0))), .inl 0, .inr (.inr (some (295, 0)))], S0_)) rfl ?_
  refine sm_T_call rfl rfl (vc_233t kk_ k_ nx_ S0_ hI_ hJ_) (fun u_ S1_ k1_ qz9_ => ?_) (fun ex_ S1_ k1_ qz9_ => ?_)
  · rcases qz9_ with ⟨u2_, S2_, ez9_, qz9_⟩ | ⟨ex2_, S2_, ez9_, mz9_, qz9_⟩
    · cases ez9_
      obtain ⟨v_, rfl, iz9_, fz9_, rfl, q1_, q2_⟩ := qz9_
      refine sm_T_go 4 (c1 := (20, [some (.inr (.inr (some (12, 0)))), some (.inl kk_), some (.inl k_), some (.inl nx_), some (.inr (.inr (some (295, 0)))), none], [.inl 0], _)) rfl ?_
      exact sm_T_ri rfl ⟨_, _, _, rfl, Nat.le_of_ble_eq_true rfl, lhq_o iz9_ fz9_ hJ_ rfl rfl, Or.inl ⟨rfl, q1_, (rd_ll.trans (if_pos ⟨rfl, rfl, rfl⟩)).trans (congrArg l_i2l q2_)⟩⟩
    · cases ez9_
  · rcases qz9_ with ⟨u2_, S2_, ez9_, qz9_⟩ | ⟨ex2_, S2_, ez9_, mz9_, qz9_⟩
    · cases ez9_
    · cases ez9_
      obtain ⟨iz9_, fz9_, rfl, q1_⟩ := qz9_
      simp only [List.mem_cons, List.not_mem_nil, or_false] at mz9_
      subst mz9_
      refine ⟨_, _, _, _, _, rfl, Nat.le_of_ble_eq_true rfl, ?_⟩
      refine sm_T_go 1 (c1 := (_, _, [.inl _], _)) rfl ?_
      exact sm_T_ri rfl ⟨_, _, _, rfl, Nat.le_of_ble_eq_true rfl, lhq_x iz9_ fz9_ hJ_ rfl, Or.inr ⟨rfl, q1_⟩⟩
theorem eq_netOf {n_ : Nat} {a_ b_ c_ : Int} {S_ : sm_S} (J_ : jB n_ S_) : (okc_netOf a_ b_ c_ S_ ↔ okr_netOf a_ b_ c_ S_) ∧ (okc_netOf a_ b_ c_ S_ → vac_netOf a_ b_ c_ S_ = var_netOf a_ b_ c_ S_) := by
  have K_ := J_.2.2.2.2.2.1.2
  by_cases h_ : 0 ≤ a_ ∧ a_ < 4 ∧ S_.1 2 a_.toNat 0 = 1
  · have e_ := K_.2.1 a_.toNat (by omega)
    obtain ⟨⟨-, c2_, c3_, -, -⟩, -, -, g5_, g6_⟩ := K_.2.2 a_.toNat (by omega) h_.2.2
    unfold okc_netOf okr_netOf vac_netOf var_netOf
    refine ⟨⟨fun z_ => ⟨⟨h_.1, h_.2.1, by rw [← e_]; exact h_.2.2⟩, by have := z_.2; omega⟩, fun z_ => ⟨h_, by have := z_.2; omega⟩⟩, fun z_ => ?_⟩
    rcases z_.2 with ⟨x1_, x2_, x3_⟩ | ⟨x1_, x2_, x3_⟩
    · rw [if_pos x1_, if_pos x1_, show (16 * a_ + b_).toNat = 16 * a_.toNat + b_.toNat by omega]
      exact g5_ b_.toNat (by omega)
    · rw [if_neg x1_, if_neg x1_, show (6 * a_ + b_).toNat = 6 * a_.toNat + b_.toNat by omega]
      exact g6_ b_.toNat (by omega)
  · refine ⟨⟨fun k_ => absurd k_.1 h_, fun k_ => absurd ?_ h_⟩, fun k_ => absurd k_.1 h_⟩
    have x_ := k_.1
    exact ⟨x_.1, x_.2.1, (K_.2.1 a_.toNat (by omega)).trans x_.2.2⟩
