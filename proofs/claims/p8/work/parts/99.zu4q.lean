/-! calls that ask, compared; written by wip/ids/lawgen.py -/
theorem cmp_q {A_ B_ : Prop} {v_ c_ o_ w_ x_ y_ : Int} (E_ : (v_ = 0 ∧ A_ ∧ o_ = l_i2l x_) ∨ (v_ = 1 ∧ ¬ A_)) (P_ : (c_ = 1 ∧ ¬ B_) ∨ (c_ = 0 ∧ B_ ∧ w_ = y_)) (h_ : (A_ ↔ B_) ∧ (A_ → x_ = y_)) : c_ = v_ ∧ (v_ = 0 → o_ = l_i2l w_) := by
  rcases E_ with ⟨e1_, e2_, e3_⟩ | ⟨e1_, e2_⟩
  · rcases P_ with ⟨p1_, p2_⟩ | ⟨p1_, p2_, p3_⟩
    · exact absurd (h_.1.mp e2_) p2_
    · exact ⟨p1_.trans e1_.symm, fun _ => by rw [e3_, p3_, h_.2 e2_]⟩
  · rcases P_ with ⟨p1_, p2_⟩ | ⟨p1_, p2_, p3_⟩
    · exact ⟨p1_.trans e1_.symm, fun z_ => absurd (e1_.symm.trans z_) (by decide)⟩
    · exact absurd (h_.1.mpr p2_) e2_
theorem vit_c {a_ b_ : Int} {S_ : sm_S} : vac_isThere a_ b_ S_ = 0 ∨ vac_isThere a_ b_ S_ = 1 := by
  unfold vac_isThere
  split
  · exact Or.inr rfl
  · exact Or.inl rfl
theorem lh_540t {sc_ : Nat × (Nat → Int)} (kd_ : Int) (k_ : Int) (S0_ : sm_S) (hI_ : gi S0_) (hJ_ : jC S0_) : sm_T (mt_P sc_) 2 540 (0, [some (.inr (.inr (some (12, 0)))), some (.inl kd_), some (.inl k_), some (.inr (.inr (some (295, 0)))), none], [], S0_) (fun r_ => ∃ v_ S1_ k8_, r_ = (.inl (some (.inl v_)), S1_, k8_) ∧ k8_ ≤ 2 ∧ lhq vw_218t S0_ S1_ ∧ ((v_ = 0 ∧ okc_isThere kd_ k_ S1_ ∧ S1_.2.2.2 295 0 0 = l_i2l (vac_isThere kd_ k_ S1_)) ∨ (v_ = 1 ∧ ¬ okc_isThere kd_ k_ S1_))) := by
  refine sm_T_go 5 (c1 := (5, [some (.inr (.inr (some (12, 0)))), some (.inl kd_), some (.inl k_), some (.inr (.inr (some (295, 0)))), none], [.inl k_, .inl kd_, .inr (.inr (some (12, 0))), .inl 0, .inr (.inr (some (295, 0)))], S0_)) rfl ?_
  refine sm_T_call rfl rfl (vc_218t kd_ k_ S0_ hI_) (fun u_ S1_ k1_ qz9_ => ?_) (fun ex_ S1_ k1_ qz9_ => ?_)
  · rcases qz9_ with ⟨u2_, S2_, ez9_, qz9_⟩ | ⟨ex2_, S2_, ez9_, mz9_, qz9_⟩
    · cases ez9_
      obtain ⟨v_, rfl, iz9_, fz9_, rfl, q1_, q2_⟩ := qz9_
      refine sm_T_b0 (a := 0) (z := 7) rfl (fun c_ => ?_) (fun c_ => ?_)
      · refine sm_T_go 4 (c1 := (25, [some (.inr (.inr (some (12, 0)))), some (.inl kd_), some (.inl k_), some (.inr (.inr (some (295, 0)))), none], [.inl 0], _)) rfl ?_
        exact sm_T_ri rfl ⟨_, _, _, rfl, Nat.le_of_ble_eq_true rfl, lhq_o iz9_ fz9_ hJ_ rfl rfl, Or.inl ⟨rfl, q1_, (rd_ll.trans (if_pos ⟨rfl, rfl, rfl⟩)).trans ((l_i2l_s (by decide) (by decide)).symm.trans (congrArg l_i2l ((of_decide_eq_true c_).symm.trans q2_)))⟩⟩
      · refine sm_T_go 5 (c1 := (25, [some (.inr (.inr (some (12, 0)))), some (.inl kd_), some (.inl k_), some (.inr (.inr (some (295, 0)))), none], [.inl 0], _)) rfl ?_
        exact sm_T_ri rfl ⟨_, _, _, rfl, Nat.le_of_ble_eq_true rfl, lhq_o iz9_ fz9_ hJ_ rfl rfl, Or.inl ⟨rfl, q1_, (rd_ll.trans (if_pos ⟨rfl, rfl, rfl⟩)).trans ((l_i2l_s (by decide) (by decide)).symm.trans (congrArg l_i2l (vit_c.resolve_left (fun z_ => of_decide_eq_false c_ (q2_.trans z_))).symm))⟩⟩
    · cases ez9_
  · rcases qz9_ with ⟨u2_, S2_, ez9_, qz9_⟩ | ⟨ex2_, S2_, ez9_, mz9_, qz9_⟩
    · cases ez9_
    · cases ez9_
      obtain ⟨iz9_, fz9_, rfl, q1_⟩ := qz9_
      simp only [List.mem_cons, List.not_mem_nil, or_false] at mz9_
      subst mz9_
      refine ⟨_, _, _, _, _, rfl, Nat.le_of_ble_eq_true rfl, ?_⟩
      refine sm_T_go 1 (c1 := (_, _, [.inl _], _)) rfl ?_
      exact sm_T_ri rfl ⟨_, _, _, rfl, Nat.le_of_ble_eq_true rfl, lhq_x iz9_ fz9_ hJ_ rfl, Or.inr ⟨rfl, q1_⟩⟩
theorem vit_r {a_ b_ : Int} {S_ : sm_S} : var_isThere a_ b_ S_ = 0 ∨ var_isThere a_ b_ S_ = 1 := by
  unfold var_isThere
  split
  · exact Or.inr rfl
  · exact Or.inl rfl
theorem ite_c9 {p_ q_ : Prop} [Decidable p_] [Decidable q_] (h_ : p_ ↔ q_) : (if p_ then (1 : Int) else 0) = if q_ then 1 else 0 := by
  by_cases x_ : p_
  · rw [if_pos x_, if_pos (h_.mp x_)]
  · rw [if_neg x_, if_neg (fun y_ => x_ (h_.mpr y_))]
theorem eq_isThere {n_ : Nat} {a_ b_ : Int} {S_ : sm_S} (J_ : jB n_ S_) : (okc_isThere a_ b_ S_ ↔ okr_isThere a_ b_ S_) ∧ (okc_isThere a_ b_ S_ → vac_isThere a_ b_ S_ = var_isThere a_ b_ S_) := by
  refine ⟨Iff.rfl, fun _ => ?_⟩
  have a7_ := J_.2.2.2.2.2.2.1
  have a8_ := J_.2.2.2.2.2.2.2.1
  have K_ := J_.2.2.2.2.2.1.2
  unfold vac_isThere var_isThere
  refine ite_c9 ?_
  refine or_congr ⟨fun h_ => ⟨h_.1, h_.2.1, h_.2.2.1, ?_⟩, fun h_ => ⟨h_.1, h_.2.1, h_.2.2.1, ?_⟩⟩ (or_congr ⟨fun h_ => ⟨h_.1, h_.2.1, h_.2.2.1, ?_⟩, fun h_ => ⟨h_.1, h_.2.1, h_.2.2.1, ?_⟩⟩ ⟨fun h_ => ⟨h_.1, h_.2.1, h_.2.2.1, ?_⟩, fun h_ => ⟨h_.1, h_.2.1, h_.2.2.1, ?_⟩⟩)
  · exact (a7_ b_.toNat (by omega)).symm.trans h_.2.2.2
  · exact (a7_ b_.toNat (by omega)).trans h_.2.2.2
  · exact (a8_ b_.toNat (by omega)).symm.trans h_.2.2.2
  · exact (a8_ b_.toNat (by omega)).trans h_.2.2.2
  · exact (K_.2.1 b_.toNat (by omega)).symm.trans h_.2.2.2
  · exact (K_.2.1 b_.toNat (by omega)).trans h_.2.2.2
