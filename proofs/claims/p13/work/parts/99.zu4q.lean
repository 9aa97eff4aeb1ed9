/-! calls that ask, compared; written by wip/ids/lawgen.py -/
theorem cmp_q2 {A1_ A_ B1_ B_ : Prop} {v_ c_ o_ w_ x_ y_ : Int} (E_ : (v_ = 0 ∧ A_ ∧ o_ = l_i2l x_) ∨ (v_ = 1 ∧ ¬ A1_) ∨ (v_ = 2 ∧ A1_ ∧ ¬ A_)) (P_ : (c_ = 1 ∧ ¬ B1_) ∨ (c_ = 2 ∧ B1_ ∧ ¬ B_) ∨ (c_ = 0 ∧ B_ ∧ w_ = y_)) (hA_ : A_ → A1_) (hB_ : B_ → B1_) (h_ : (A1_ ↔ B1_) ∧ (A_ ↔ B_) ∧ (A_ → x_ = y_)) : c_ = v_ ∧ (v_ = 0 → o_ = l_i2l w_) := by
  rcases E_ with ⟨e1_, e2_, e3_⟩ | ⟨e1_, e2_⟩ | ⟨e1_, e2_, e3_⟩
  · rcases P_ with ⟨p1_, p2_⟩ | ⟨p1_, p2_, p3_⟩ | ⟨p1_, p2_, p3_⟩
    · exact absurd (h_.1.mp (hA_ e2_)) p2_
    · exact absurd (h_.2.1.mp e2_) p3_
    · exact ⟨p1_.trans e1_.symm, fun _ => by rw [e3_, p3_, h_.2.2 e2_]⟩
  · rcases P_ with ⟨p1_, p2_⟩ | ⟨p1_, p2_, p3_⟩ | ⟨p1_, p2_, p3_⟩
    · exact ⟨p1_.trans e1_.symm, fun z_ => absurd (e1_.symm.trans z_) (by decide)⟩
    · exact absurd (h_.1.mpr p2_) e2_
    · exact absurd (h_.1.mpr (hB_ p2_)) e2_
  · rcases P_ with ⟨p1_, p2_⟩ | ⟨p1_, p2_, p3_⟩ | ⟨p1_, p2_, p3_⟩
    · exact absurd (h_.1.mp e2_) p2_
    · exact ⟨p1_.trans e1_.symm, fun z_ => absurd (e1_.symm.trans z_) (by decide)⟩
    · exact absurd (h_.2.1.mpr p2_) e3_
theorem lh_545t {sc_ : Nat × (Nat → Int)} (lb_ : Int) (k_ : Int) (wh_ : Int) (S0_ : sm_S) (hI_ : gi S0_) (hJ_ : jC S0_) : sm_T (mt_P sc_) 3 545 (0, [some (.inr (.inr (some (12, 0)))), some (.inl lb_), some (.inl k_), some (.inl wh_), some (.inr (.inr (some (295, 0)))), none], [], S0_) (fun r_ => ∃ v_ S1_ k8_, r_ = (.inl (some (.inl v_)), S1_, k8_) ∧ k8_ ≤ 2 ∧ lhq vw_223t S0_ S1_ ∧ ((v_ = 0 ∧ okc_cell lb_ k_ wh_ S1_ ∧ S1_.2.2.2 295 0 0 = l_i2l (vac_cell lb_ k_ wh_ S1_)) ∨ (v_ = 1 ∧ ¬ oka_cell lb_ k_ wh_ S1_) ∨ (v_ = 2 ∧ oka_cell lb_ k_ wh_ S1_ ∧ ¬ okc_cell lb_ k_ wh_ S1_))) := by
  refine sm_T_go 6 (c1 := (7, [some (.inr (.inr (some (12, 0)))), some (.inl lb_), some (.inl k_), some (.inl wh_), some (.inr (.inr (some (295, 0)))), none], [.inl wh_, .inl k_, .inl lb_, .inr (.inr (some (12, 0))), .inl 0, .inr (.inr (some (295, 0)))], S0_)) rfl ?_
  refine sm_T_call rfl rfl (vc_223t lb_ k_ wh_ S0_ hI_) (fun u_ S1_ k1_ qz9_ => ?_) (fun ex_ S1_ k1_ qz9_ => ?_)
  · rcases qz9_ with ⟨u2_, S2_, ez9_, qz9_⟩ | ⟨ex2_, S2_, ez9_, mz9_, qz9_⟩
    · cases ez9_
      obtain ⟨v_, rfl, iz9_, fz9_, rfl, q1_, q2_⟩ := qz9_
      refine sm_T_go 4 (c1 := (24, [some (.inr (.inr (some (12, 0)))), some (.inl lb_), some (.inl k_), some (.inl wh_), some (.inr (.inr (some (295, 0)))), none], [.inl 0], _)) rfl ?_
      exact sm_T_ri rfl ⟨_, _, _, rfl, Nat.le_of_ble_eq_true rfl, lhq_o iz9_ fz9_ hJ_ rfl rfl, Or.inl ⟨rfl, q1_, (rd_ll.trans (if_pos ⟨rfl, rfl, rfl⟩)).trans (congrArg l_i2l q2_)⟩⟩
    · cases ez9_
  · rcases qz9_ with ⟨u2_, S2_, ez9_, qz9_⟩ | ⟨ex2_, S2_, ez9_, mz9_, qz9_⟩
    · cases ez9_
    · cases ez9_
      obtain ⟨iz9_, fz9_, rfl, q1_⟩ := qz9_
      simp only [List.mem_cons, List.not_mem_nil, or_false] at mz9_
      rcases mz9_ with rfl | rfl
      · refine ⟨_, _, _, _, _, rfl, Nat.le_of_ble_eq_true rfl, ?_⟩
        refine sm_T_go 1 (c1 := (_, _, [.inl _], _)) rfl ?_
        exact sm_T_ri rfl ⟨_, _, _, rfl, Nat.le_of_ble_eq_true rfl, lhq_x iz9_ fz9_ hJ_ rfl, Or.inr (Or.inl ⟨rfl, (q1_.resolve_right (fun z_ => absurd z_.1 (by decide))).2⟩)⟩
      · refine ⟨_, _, _, _, _, rfl, Nat.le_of_ble_eq_true rfl, ?_⟩
        refine sm_T_go 1 (c1 := (_, _, [.inl _], _)) rfl ?_
        exact sm_T_ri rfl ⟨_, _, _, rfl, Nat.le_of_ble_eq_true rfl, lhq_x iz9_ fz9_ hJ_ rfl, Or.inr (Or.inr ⟨rfl, (q1_.resolve_left (fun z_ => absurd z_.1 (by decide))).2⟩)⟩
theorem rfv_f {S_ : sm_S} {l_ K_ : Nat} {L_ : pL} {a_ : Int} (h_ : lcr l_ K_ L_ S_) (ha_ : a_ = (l_ : Int)) : ∀ k_ : Nat, k_ ≤ K_ → rfv S_.2.2.1 a_ k_ = fiv L_ k_
  | 0, _ => rfl
  | k_ + 1, hk_ => by
    have ih_ := rfv_f h_ ha_ k_ (by omega)
    have b_ := fiv_b (L_ := L_) k_
    have q_ := h_.2 k_ (by omega)
    rw [rfv_s, fiv_s, ih_, show (12 * a_ + (k_ : Int)).toNat = 12 * l_ + k_ by omega, q_.1, q_.2.1, q_.2.2.1]
    by_cases c_ : fiv L_ k_ = -1
    · simp only [c_, true_or]
    · have m_ := (h_.2 (fiv L_ k_).toNat (by omega)).2.2.1
      rw [show (12 * a_ + fiv L_ k_).toNat = 12 * l_ + (fiv L_ k_).toNat by omega, m_]
theorem eq_cell {n_ : Nat} {a_ b_ c_ : Int} {S_ : sm_S} (J_ : jB n_ S_) : (oka_cell a_ b_ c_ S_ ↔ ora_cell a_ b_ c_ S_) ∧ (okc_cell a_ b_ c_ S_ ↔ okr_cell a_ b_ c_ S_) ∧ (okc_cell a_ b_ c_ S_ → vac_cell a_ b_ c_ S_ = var_cell a_ b_ c_ S_) := by
  have a8_ := J_.2.2.2.2.2.2.2.1
  have g_ := J_.2.2.2.2.2.2.2.2.2.2
  have k1_ : oka_cell a_ b_ c_ S_ ↔ ora_cell a_ b_ c_ S_ := by
    by_cases h_ : 0 ≤ a_ ∧ a_ < 3 ∧ S_.1 5 a_.toNat 0 = 1
    · obtain ⟨K_, L_, k_, p_, iv_, r_⟩ := g_ a_.toNat (by omega) h_.2.2
      have e_ := a8_ a_.toNat (by omega)
      have n9_ : S_.1 5 a_.toNat 1 = S_.2.2.1 184 0 a_.toNat := p_.1.trans r_.1.symm
      constructor
      · rintro ⟨-, x_⟩
        exact ⟨⟨h_.1, h_.2.1, by rw [← e_]; exact h_.2.2⟩, by omega⟩
      · rintro ⟨-, x_⟩
        exact ⟨h_, by omega⟩
    · refine ⟨fun k_ => absurd k_.1 h_, fun k_ => absurd ?_ h_⟩
      have x_ := k_.1
      exact ⟨x_.1, x_.2.1, (a8_ a_.toNat (by omega)).trans x_.2.2⟩
  refine ⟨k1_, ⟨fun k_ => ⟨k1_.mp k_.1, k_.2⟩, fun k_ => ⟨k1_.mpr k_.1, k_.2⟩⟩, fun k_ => ?_⟩
  obtain ⟨⟨h_, x_⟩, y_⟩ := k_
  obtain ⟨K_, L_, k_, p_, iv_, r_⟩ := g_ a_.toNat (by omega) h_.2.2
  have n9_ : S_.1 5 a_.toNat 1 = S_.2.2.1 184 0 a_.toNat := p_.1.trans r_.1.symm
  have pk_ := p_.1
  have rk_ := r_.1
  unfold vac_cell var_cell
  by_cases m_ : b_ = -1
  · rw [if_pos m_, if_pos m_, n9_, iv_, rk_, Int.toNat_natCast, rfv_f r_ (by omega) K_ (Nat.le_refl _)]
  · have u_ := p_.2 b_.toNat (by omega)
    have v_ := r_.2 b_.toNat (by omega)
    rw [if_neg m_, if_neg m_, show (12 * a_ + b_).toNat = 12 * a_.toNat + b_.toNat by omega, u_.1, u_.2.1, u_.2.2.1, u_.2.2.2, v_.1, v_.2.1, v_.2.2.1, v_.2.2.2]
