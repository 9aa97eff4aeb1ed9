/-! calls that ask, compared; written by wip/ids/lawgen.py -/
theorem cmp_q2 {A1_ A_ B1_ B_ : Prop} {v_ c_ o_ w_ x_ y_ : Int} (E_ : (v_ = 0 ∧ A_ ∧ o_ = l_i2l x_) ∨ (v_ = 1 ∧ ¬ A1_) ∨ (v_ = 2 ∧ A1_ ∧ ¬ A_)) (P_ : (c_ = 1 ∧ ¬ B1_) ∨ (c_ = 2 ∧ B1_ ∧ ¬ B_) ∨ (c_ = 0 ∧ B_ ∧ w_ = y_)) (hA_ : A_ → A1_) (hB_ : B_ → B1_) (h_ : (A1_ ↔ B1_) ∧ (A_ ↔ B_) ∧ (A_ → x_ = y_)) : c_ = v_ ∧ (v_ = 0 → o_ = l_i2l w_) := by
  rcases E_ with ⟨e1_, e2_, e3_⟩ | ⟨e1_, e2_⟩ | ⟨e1_, e2_, e3_⟩
  · rcases P_ with ⟨p1_, p2_⟩ | ⟨p1_, p2_, p3_⟩ | ⟨p1_, p2_, p3_⟩
    · exact absurd (h_.1.mp (hA_ e2_)) p2_
    · exact absurd (h_.2.1.mp e2_) p3_
    · exact ⟨p1_.trans e1_.symm, fun _ => by rw [e3_, p3_, h_.2.2 e2_]⟩
  · rcases P_ with ⟨p1_, p2_⟩ | ⟨p1_, p2_, p3_⟩ | ⟨p1_, p2_, p3_⟩
    · exact ⟨p1_.trans e1_.symm, fun z_ => absurd (e1_.symm.trans z_) (by decide)⟩
    · exact absurd (h_.1.mpr p2_) e2_
    · exact absurd (h_.1.mpr (hB_ p2_)) e2_
  · rcases P_ with ⟨p1_, p2_⟩ | ⟨p1_, p2_, p3_⟩ | ⟨p1_, p2_, p3_⟩
    · exact absurd (h_.1.mp e2_) p2_
    · exact ⟨p1_.trans e1_.symm, fun z_ => absurd (e1_.symm.trans z_) (by decide)⟩
    · exact absurd (h_.2.1.mpr p2_) e3_
theorem lh_554t {sc_ : Nat × (Nat → Int)} (kk_ : Int) (g_ : Int) (wh_ : Int) (S0_ : sm_S) (hI_ : gi S0_) (hJ_ : jC S0_) : sm_T (mt_P sc_) 3 554 (0, [some (.inr (.inr (some (12, 0)))), some (.inl kk_), some (.inl g_), some (.inl wh_), some (.inr (.inr (some (295, 0)))), none], [], S0_) (fun r_ => ∃ v_ S1_ k8_, r_ = (.inl (some (.inl v_)), S1_, k8_) ∧ k8_ ≤ 2 ∧ lhq vw_232t S0_ S1_ ∧ ((v_ = 0 ∧ okc_gate kk_ g_ wh_ S1_ ∧ S1_.2.2.2 295 0 0 = l_i2l (vac_gate kk_ g_ wh_ S1_)) ∨ (v_ = 1 ∧ ¬ oka_gate kk_ g_ wh_ S1_) ∨ (v_ = 2 ∧ oka_gate kk_ g_ wh_ S1_ ∧ ¬ okc_gate kk_ g_ wh_ S1_))) := by
  refine sm_T_go 6 (c1 := (7, [some (.inr (.inr (some (12, 0)))), some (.inl kk_), some (.inl g_), some (.inl wh_), some (.inr (.inr (some (295, 0)))), none], [.inl wh_, .inl g_, .inl kk_, .inr (.inr (some (12, 0))), .inl 0, .inr (.inr (some (295, 0)))], S0_)) rfl ?_
  refine sm_T_call rfl rfl (vc_232t kk_ g_ wh_ S0_ hI_ hJ_) (fun u_ S1_ k1_ qz9_ => ?_) (fun ex_ S1_ k1_ qz9_ => ?_)
  · rcases qz9_ with ⟨u2_, S2_, ez9_, qz9_⟩ | ⟨ex2_, S2_, ez9_, mz9_, qz9_⟩
    · cases ez9_
      obtain ⟨v_, rfl, iz9_, fz9_, rfl, q1_, q2_⟩ := qz9_
      refine sm_T_go 4 (c1 := (24, [some (.inr (.inr (some (12, 0)))), some (.inl kk_), some (.inl g_), some (.inl wh_), some (.inr (.inr (some (295, 0)))), none], [.inl 0], _)) rfl ?_
      exact sm_T_ri rfl ⟨_, _, _, rfl, Nat.le_of_ble_eq_true rfl, lhq_o iz9_ fz9_ hJ_ rfl rfl, Or.inl ⟨rfl, q1_, (rd_ll.trans (if_pos ⟨rfl, rfl, rfl⟩)).trans (congrArg l_i2l q2_)⟩⟩
    · cases ez9_
  · rcases qz9_ with ⟨u2_, S2_, ez9_, qz9_⟩ | ⟨ex2_, S2_, ez9_, mz9_, qz9_⟩
    · cases ez9_
    · cases ez9_
      obtain ⟨iz9_, fz9_, rfl, q1_⟩ := qz9_
      simp only [List.mem_cons, List.not_mem_nil, or_false] at mz9_
      rcases mz9_ with rfl | rfl
      · refine ⟨_, _, _, _, _, rfl, Nat.le_of_ble_eq_true rfl, ?_⟩
        refine sm_T_go 1 (c1 := (_, _, [.inl _], _)) rfl ?_
        exact sm_T_ri rfl ⟨_, _, _, rfl, Nat.le_of_ble_eq_true rfl, lhq_x iz9_ fz9_ hJ_ rfl, Or.inr (Or.inl ⟨rfl, (q1_.resolve_right (fun z_ => absurd z_.1 (by decide))).2⟩)⟩
      · refine ⟨_, _, _, _, _, rfl, Nat.le_of_ble_eq_true rfl, ?_⟩
        refine sm_T_go 1 (c1 := (_, _, [.inl _], _)) rfl ?_
        exact sm_T_ri rfl ⟨_, _, _, rfl, Nat.le_of_ble_eq_true rfl, lhq_x iz9_ fz9_ hJ_ rfl, Or.inr (Or.inr ⟨rfl, (q1_.resolve_left (fun z_ => absurd z_.1 (by decide))).2⟩)⟩
theorem eq_gate {n_ : Nat} {a_ b_ c_ : Int} {S_ : sm_S} (J_ : jB n_ S_) : (oka_gate a_ b_ c_ S_ ↔ ora_gate a_ b_ c_ S_) ∧ (okc_gate a_ b_ c_ S_ ↔ okr_gate a_ b_ c_ S_) ∧ (okc_gate a_ b_ c_ S_ → vac_gate a_ b_ c_ S_ = var_gate a_ b_ c_ S_) := by
  have K_ := J_.2.2.2.2.2.1.2
  have k1_ : oka_gate a_ b_ c_ S_ ↔ ora_gate a_ b_ c_ S_ := by
    unfold oka_gate ora_gate
    constructor
    · rintro ⟨⟨h1_, h2_, h3_⟩, h4_⟩
      obtain ⟨⟨-, -, -, -, c8_⟩, -⟩ := K_.2.2 a_.toNat (by omega) h3_
      exact ⟨⟨h1_, h2_, by rw [← K_.2.1 a_.toNat (by omega)]; exact h3_⟩, by omega⟩
    · rintro ⟨⟨h1_, h2_, h3_⟩, h4_⟩
      have h3_ := (K_.2.1 a_.toNat (by omega)).trans h3_
      obtain ⟨⟨-, -, -, -, c8_⟩, -⟩ := K_.2.2 a_.toNat (by omega) h3_
      exact ⟨⟨h1_, h2_, h3_⟩, by omega⟩
  refine ⟨k1_, ⟨fun k_ => ⟨k1_.mp k_.1, k_.2⟩, fun k_ => ⟨k1_.mpr k_.1, k_.2⟩⟩, fun k_ => ?_⟩
  obtain ⟨⟨⟨h1_, h2_, h3_⟩, h4_⟩, y_⟩ := k_
  obtain ⟨⟨c1_, c2_, -, -, -⟩, -, g4_, -⟩ := K_.2.2 a_.toNat (by omega) h3_
  have q_ := g4_ b_.toNat (by omega)
  unfold vac_gate var_gate
  by_cases x0_ : c_ = 0
  · rw [if_pos x0_, if_pos x0_, show (150 * a_ + b_).toNat = 150 * a_.toNat + b_.toNat by omega]
    exact q_.1.2.2
  · rw [if_neg x0_, if_neg x0_]
    by_cases x4_ : c_ = 4
    · rw [if_pos x4_, if_pos x4_, c1_, c2_]
    · have z_ := q_.2 (c_ - 1).toNat (by omega)
      rw [if_neg x4_, if_neg x4_, show (450 * a_ + 3 * b_ + c_ - 1).toNat = 450 * a_.toNat + (3 * b_.toNat + (c_ - 1).toNat) by omega, z_, show (3 * b_ + c_ - 1).toNat = 3 * b_.toNat + (c_ - 1).toNat by omega]
      by_cases w_ : c_ ≤ S_.2.2.1 55 (0 + (3 + a_.toNat)) (S_.2.2.1 35 (0 + a_.toNat) b_.toNat).toNat
      · rw [if_pos w_, if_pos (by omega)]
      · rw [if_neg w_, if_neg (by omega)]
