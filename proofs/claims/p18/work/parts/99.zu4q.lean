/-! calls that ask, compared; written by wip/ids/lawgen.py -/
theorem cmp_q {A_ B_ : Prop} {v_ c_ o_ w_ x_ y_ : Int} (E_ : (v_ = 0 ∧ A_ ∧ o_ = l_i2l x_) ∨ (v_ = 1 ∧ ¬ A_)) (P_ : (c_ = 1 ∧ ¬ B_) ∨ (c_ = 0 ∧ B_ ∧ w_ = y_)) (h_ : (A_ ↔ B_) ∧ (A_ → x_ = y_)) : c_ = v_ ∧ (v_ = 0 → o_ = l_i2l w_) := by
  rcases E_ with ⟨e1_, e2_, e3_⟩ | ⟨e1_, e2_⟩
  · rcases P_ with ⟨p1_, p2_⟩ | ⟨p1_, p2_, p3_⟩
    · exact absurd (h_.1.mp e2_) p2_
    · exact ⟨p1_.trans e1_.symm, fun _ => by rw [e3_, p3_, h_.2 e2_]⟩
  · rcases P_ with ⟨p1_, p2_⟩ | ⟨p1_, p2_, p3_⟩
    · exact ⟨p1_.trans e1_.symm, fun z_ => absurd (e1_.symm.trans z_) (by decide)⟩
    · exact absurd (h_.1.mpr p2_) e2_
theorem cmp_q2 {A1_ A_ B1_ B_ : Prop} {v_ c_ o_ w_ x_ y_ : Int} (E_ : (v_ = 0 ∧ A_ ∧ o_ = l_i2l x_) ∨ (v_ = 1 ∧ ¬ A1_) ∨ (v_ = 2 ∧ A1_ ∧ ¬ A_)) (P_ : (c_ = 1 ∧ ¬ B1_) ∨ (c_ = 2 ∧ B1_ ∧ ¬ B_) ∨ (c_ = 0 ∧ B_ ∧ w_ = y_)) (hA_ : A_ → A1_) (hB_ : B_ → B1_) (h_ : (A1_ ↔ B1_) ∧ (A_ ↔ B_) ∧ (A_ → x_ = y_)) : c_ = v_ ∧ (v_ = 0 → o_ = l_i2l w_) := by
  rcases E_ with ⟨e1_, e2_, e3_⟩ | ⟨e1_, e2_⟩ | ⟨e1_, e2_, e3_⟩
  · rcases P_ with ⟨p1_, p2_⟩ | ⟨p1_, p2_, p3_⟩ | ⟨p1_, p2_, p3_⟩
    · exact absurd (h_.1.mp (hA_ e2_)) p2_
    · exact absurd (h_.2.1.mp e2_) p3_
    · exact ⟨p1_.trans e1_.symm, fun _ => by rw [e3_, p3_, h_.2.2 e2_]⟩
  · rcases P_ with ⟨p1_, p2_⟩ | ⟨p1_, p2_, p3_⟩ | ⟨p1_, p2_, p3_⟩
    · exact ⟨p1_.trans e1_.symm, fun z_ => absurd (e1_.symm.trans z_) (by decide)⟩
    · exact absurd (h_.1.mpr p2_) e2_
    · exact absurd (h_.1.mpr (hB_ p2_)) e2_
  · rcases P_ with ⟨p1_, p2_⟩ | ⟨p1_, p2_, p3_⟩ | ⟨p1_, p2_, p3_⟩
    · exact absurd (h_.1.mp e2_) p2_
    · exact ⟨p1_.trans e1_.symm, fun z_ => absurd (e1_.symm.trans z_) (by decide)⟩
    · exact absurd (h_.2.1.mpr p2_) e3_
theorem cmp_q3 {A1_ A_ B1_ B_ : Prop} {X_ Y_ : Int → Prop} {v_ c_ o_ w_ : Int} (E_ : (v_ = 0 ∧ A_ ∧ ∃ x_, o_ = l_i2l x_ ∧ X_ x_) ∨ (v_ = 1 ∧ ¬ A1_) ∨ (v_ = 2 ∧ A1_ ∧ ¬ A_)) (P_ : (c_ = 1 ∧ ¬ B1_) ∨ (c_ = 2 ∧ B1_ ∧ ¬ B_) ∨ (c_ = 0 ∧ B_ ∧ Y_ w_)) (hA_ : A_ → A1_) (hB_ : B_ → B1_) (h_ : (A1_ ↔ B1_) ∧ (A_ ↔ B_) ∧ (A_ → ∀ x_ y_, X_ x_ → Y_ y_ → x_ = y_)) : c_ = v_ ∧ (v_ = 0 → o_ = l_i2l w_) := by
  rcases E_ with ⟨e1_, e2_, x_, e3_, e4_⟩ | ⟨e1_, e2_⟩ | ⟨e1_, e2_, e3_⟩
  · rcases P_ with ⟨p1_, p2_⟩ | ⟨p1_, p2_, p3_⟩ | ⟨p1_, p2_, p3_⟩
    · exact absurd (h_.1.mp (hA_ e2_)) p2_
    · exact absurd (h_.2.1.mp e2_) p3_
    · exact ⟨p1_.trans e1_.symm, fun _ => by rw [e3_, h_.2.2 e2_ x_ w_ e4_ p3_]⟩
  · rcases P_ with ⟨p1_, p2_⟩ | ⟨p1_, p2_, p3_⟩ | ⟨p1_, p2_, p3_⟩
    · exact ⟨p1_.trans e1_.symm, fun z_ => absurd (e1_.symm.trans z_) (by decide)⟩
    · exact absurd (h_.1.mpr p2_) e2_
    · exact absurd (h_.1.mpr (hB_ p2_)) e2_
  · rcases P_ with ⟨p1_, p2_⟩ | ⟨p1_, p2_, p3_⟩ | ⟨p1_, p2_, p3_⟩
    · exact absurd (h_.1.mp e2_) p2_
    · exact ⟨p1_.trans e1_.symm, fun z_ => absurd (e1_.symm.trans z_) (by decide)⟩
    · exact absurd (h_.2.1.mpr p2_) e3_
theorem cmp_q4 {A_ B_ : Prop} {X_ Y_ : Int → Prop} {v_ c_ o_ w_ : Int} (E_ : (v_ = 0 ∧ A_ ∧ ∃ x_, o_ = l_i2l x_ ∧ X_ x_) ∨ (v_ = 1 ∧ ¬ A_)) (P_ : (c_ = 1 ∧ ¬ B_) ∨ (c_ = 0 ∧ B_ ∧ Y_ w_)) (h_ : (A_ ↔ B_) ∧ (A_ → ∀ x_ y_, X_ x_ → Y_ y_ → x_ = y_)) : c_ = v_ ∧ (v_ = 0 → o_ = l_i2l w_) := by
  rcases E_ with ⟨e1_, e2_, x_, e3_, e4_⟩ | ⟨e1_, e2_⟩
  · rcases P_ with ⟨p1_, p2_⟩ | ⟨p1_, p2_, p3_⟩
    · exact absurd (h_.1.mp e2_) p2_
    · exact ⟨p1_.trans e1_.symm, fun _ => by rw [e3_, h_.2 e2_ x_ w_ e4_ p3_]⟩
  · rcases P_ with ⟨p1_, p2_⟩ | ⟨p1_, p2_, p3_⟩
    · exact ⟨p1_.trans e1_.symm, fun z_ => absurd (e1_.symm.trans z_) (by decide)⟩
    · exact absurd (h_.1.mpr p2_) e2_
theorem dtb_n {n_ : Nat} {d_ : Nat} {S_ : sm_S} (J_ : jB n_ S_) (hd_ : d_ < 6) (u_ : S_.1 3 d_ 0 = 1) : (0 ≤ S_.1 3 d_ 1 ∧ 0 ≤ S_.1 3 d_ 2 ∧ S_.1 3 d_ 1 + S_.1 3 d_ 2 ≤ 12) ∧ (0 ≤ S_.1 3 d_ 5 ∧ S_.1 3 d_ 5 < 2 ^ (S_.1 3 d_ 2).toNat) ∧ ∀ p_ : Nat, p_ < 2 ^ ((S_.1 3 d_ 1).toNat + (S_.1 3 d_ 2).toNat) → (0 ≤ S_.2.2.1 47 (0 + d_) p_ ∧ S_.2.2.1 47 (0 + d_) p_ ≤ 2147483647) ∧ (0 ≤ nx6 (S_.2.2.1 47 (0 + d_)) p_ ∧ nx6 (S_.2.2.1 47 (0 + d_)) p_ < 2 ^ (S_.1 3 d_ 2).toNat) ∧ S_.2.2.1 169 0 (4096 * d_ + p_) = S_.2.2.1 47 (0 + d_) p_ % 65536 ∧ S_.2.2.1 170 0 (4096 * d_ + p_) = nx6 (S_.2.2.1 47 (0 + d_)) p_ := by
  obtain ⟨-, -, -, ⟨q1_, q2_⟩, -⟩ := J_.2.2.2.2.2.2.2.2.2.1 d_ hd_ u_
  have J9_ := dOk_b (J_.2.1.1 d_ hd_ u_)
  refine ⟨q1_, J9_.2.2.1, fun p_ hp_ => ?_⟩
  have a_ : 2 ^ ((S_.1 3 d_ 1).toNat + (S_.1 3 d_ 2).toNat) ≤ 2 ^ 12 := Nat.pow_le_pow_right (by decide) (by omega)
  have t_ := J9_.2.2.2.2 p_ (Nat.lt_of_lt_of_le hp_ a_)
  have s_ := shr16 t_
  have pn_ := pw_nn (k_ := (S_.1 3 d_ 1).toNat + (S_.1 3 d_ 2).toNat)
  have e_ := q2_ p_ (by rw [show (S_.1 3 d_ 1 + S_.1 3 d_ 2).toNat = (S_.1 3 d_ 1).toNat + (S_.1 3 d_ 2).toNat by omega]; omega)
  have b_ : 0 ≤ S_.2.2.1 47 (0 + d_) p_ ∧ S_.2.2.1 47 (0 + d_) p_ ≤ 4194303 := J_.1.2 47 (0 + d_) p_
  exact ⟨⟨b_.1, by omega⟩, s_, e_.1.symm, e_.2.symm⟩
theorem lh_550t {sc_ : Nat × (Nat → Int)} (bb_ : Int) (k_ : Int) (S0_ : sm_S) (hI_ : gi S0_) (hJ_ : jC S0_) : sm_T (mt_P sc_) 3 550 (0, [some (.inr (.inr (some (12, 0)))), some (.inl bb_), some (.inl k_), some (.inr (.inr (some (295, 0)))), none], [], S0_) (fun r_ => ∃ v_ S1_ k8_, r_ = (.inl (some (.inl v_)), S1_, k8_) ∧ k8_ ≤ 2 ∧ lhq vw_228t S0_ S1_ ∧ ((v_ = 0 ∧ okc_never bb_ k_ S1_ ∧ ∃ x_, S1_.2.2.2 295 0 0 = l_i2l x_ ∧ spc_never bb_ k_ S1_ x_) ∨ (v_ = 1 ∧ ¬ okc_never bb_ k_ S1_))) := by
  refine sm_T_go 5 (c1 := (5, [some (.inr (.inr (some (12, 0)))), some (.inl bb_), some (.inl k_), some (.inr (.inr (some (295, 0)))), none], [.inl k_, .inl bb_, .inr (.inr (some (12, 0))), .inl 0, .inr (.inr (some (295, 0)))], S0_)) rfl ?_
  refine sm_T_call rfl rfl (vc_228t bb_ k_ S0_ hI_ hJ_) (fun u_ S1_ k1_ qz9_ => ?_) (fun ex_ S1_ k1_ qz9_ => ?_)
  · rcases qz9_ with ⟨u2_, S2_, ez9_, qz9_⟩ | ⟨ex2_, S2_, ez9_, mz9_, qz9_⟩
    · cases ez9_
      obtain ⟨v_, rfl, iz9_, fz9_, j9_, q1_, q2_⟩ := qz9_
      refine sm_T_go 4 (c1 := (18, [some (.inr (.inr (some (12, 0)))), some (.inl bb_), some (.inl k_), some (.inr (.inr (some (295, 0)))), none], [.inl 0], _)) rfl ?_
      exact sm_T_ri rfl ⟨_, _, _, rfl, Nat.le_of_ble_eq_true rfl, lhq_o iz9_ fz9_ j9_ rfl rfl, Or.inl ⟨rfl, q1_, v_, rd_ll.trans (if_pos ⟨rfl, rfl, rfl⟩), q2_⟩⟩
    · cases ez9_
  · rcases qz9_ with ⟨u2_, S2_, ez9_, qz9_⟩ | ⟨ex2_, S2_, ez9_, mz9_, qz9_⟩
    · cases ez9_
    · cases ez9_
      obtain ⟨iz9_, fz9_, rfl, q1_⟩ := qz9_
      simp only [List.mem_cons, List.not_mem_nil, or_false] at mz9_
      subst mz9_
      refine ⟨_, _, _, _, _, rfl, Nat.le_of_ble_eq_true rfl, ?_⟩
      refine sm_T_go 1 (c1 := (_, _, [.inl _], _)) rfl ?_
      exact sm_T_ri rfl ⟨_, _, _, rfl, Nat.le_of_ble_eq_true rfl, lhq_x iz9_ fz9_ hJ_ rfl, Or.inr ⟨rfl, q1_⟩⟩
theorem eq_never {n_ : Nat} {a_ b_ : Int} {S_ : sm_S} (J_ : jB n_ S_) : (okc_never a_ b_ S_ ↔ okr_never a_ b_ S_) ∧ (okc_never a_ b_ S_ → ∀ x_ y_ : Int, spc_never a_ b_ S_ x_ → spr_never a_ b_ S_ y_ → x_ = y_) := by
  have a7_ := J_.2.2.2.2.2.2.1
  have g_ := J_.2.2.2.2.2.2.2.2.2.1
  refine ⟨?_, fun k_ x_ y_ hx_ hy_ => ?_⟩
  · unfold okc_never okr_never
    constructor
    · rintro ⟨⟨h1_, h2_, h3_⟩, h4_⟩
      obtain ⟨⟨⟨d1_, -, d3_, -⟩, -⟩, -⟩ := g_ a_.toNat (by omega) h3_
      exact ⟨⟨h1_, h2_, by rw [← a7_ a_.toNat (by omega)]; exact h3_⟩, by rw [← d3_]; exact h4_⟩
    · rintro ⟨⟨h1_, h2_, h3_⟩, h4_⟩
      have h3_ := (a7_ a_.toNat (by omega)).trans h3_
      obtain ⟨⟨⟨d1_, -, d3_, -⟩, -⟩, -⟩ := g_ a_.toNat (by omega) h3_
      exact ⟨⟨h1_, h2_, h3_⟩, by rw [d3_]; exact h4_⟩
  · obtain ⟨⟨h1_, h2_, h3_⟩, h4_⟩ := k_
    obtain ⟨⟨⟨d1_, -⟩, -⟩, ⟨⟨o9_, -⟩, o1_, -⟩, -⟩ := g_ a_.toNat (by omega) h3_
    obtain ⟨ta1_, ta2_, ta3_⟩ := dtb_n J_ (by omega) h3_
    unfold spc_never at hx_
    unfold spr_never at hy_
    rw [← d1_, ← o1_] at hy_
    have z0_ : ∀ p_ : Nat, S_.2.2.1 116 0 p_ = 0 := fun p_ => by
      have q_ : 0 ≤ S_.2.2.1 116 0 p_ ∧ S_.2.2.1 116 0 p_ ≤ 0 := J_.1.2 116 0 p_
      omega
    have hx_ := bfsp_sw hx_
    refine bfsp_u (bfsp_cg (RA_ := (S_.1 3 a_.toNat 2).toNat) (RB_ := 0) (fun p_ hp_ => ?_) (fun p_ hp_ => ?_) ⟨pw_tn ta2_.1 ta2_.2, by decide⟩ (fun p_ q_ hp_ hq_ => ?_) hx_) hy_
    · have w_ := ta3_ p_ hp_
      exact ⟨w_.2.2.2, w_.2.1⟩
    · show (0 : Int) = S_.2.2.1 116 0 p_ / 65536 ∧ 0 ≤ S_.2.2.1 116 0 p_ / 65536 ∧ S_.2.2.1 116 0 p_ / 65536 < 2 ^ 0
      rw [z0_ p_]
      exact ⟨rfl, by decide, by decide⟩
    · have w_ := ta3_ p_ hp_
      show i_and (i_shr (S_.2.2.1 169 0 (4096 * a_.toNat + p_)) b_) 1 ≠ 0 ↔ i_and (i_xor (S_.2.2.1 116 0 q_) (S_.2.2.1 47 (0 + a_.toNat) p_)) (i_shl 1 b_) ≠ 0
      rw [w_.2.2.1, z0_ q_]
      exact (nv16 w_.1 (by omega)).symm
