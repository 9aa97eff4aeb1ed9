/-! what the calls that change the tape, designs and libraries leave; written by wip/p55/gen/vg/d06.py -/
theorem ly_fe {n_ : Nat} {a1_ a2_ a3_ a4_ a5_ : Int} {S_ S1_ S2_ : sm_S} (J_ : jB n_ S_) (q_ : lhq vw_211t S_ S1_) (e_ : S1_.1 10 0 1 = S_.1 10 0 1 + 20 ∧ S1_.2.2.1 98 0 = fed (S_.2.2.1 98 0) (S_.1 10 0 1).toNat a1_ a2_ a3_ a4_ a5_) (i_ : gi S2_) (f_ : ai_fr (sx_W vw_279) S1_ S2_) (p_ : S2_.1 13 0 2 = S1_.1 13 0 2 + 20 ∧ S2_.2.2.1 118 0 = fed (S1_.2.2.1 118 0) (S1_.1 13 0 2).toNat a1_ a2_ a3_ a4_ a5_) (G_ : jG S2_) (K_ : jK (n_ + 1) S2_) : jB (n_ + 1) S2_ := by
  obtain ⟨a1_, a2_, a3_, a4_, a5_, a6_, a7_, a8_, a9_⟩ := J_
  obtain ⟨q1_, q2_, q3_⟩ := q_
  have x1_ : S1_.1 13 0 2 = S_.1 13 0 2 := q2_.1 13 0 2 rfl
  have x2_ : S2_.1 10 0 1 = S1_.1 10 0 1 := f_.1 10 0 1 rfl
  refine ⟨i_, jC_fr q3_ f_ (by decide) (by decide) (by decide) (by decide) (by decide) rfl rfl rfl rfl rfl rfl, jR_fr (jR_fr a3_ q1_ q2_) i_ f_, ?_, by omega, ⟨⟨by omega, by omega⟩, K_⟩, fun j_ hj_ => ?_, fun j_ hj_ => ?_, G_⟩
  · rw [fr_arr (t := 98) (i := 0) f_ rfl, e_.2, p_.2, fr_arr (t := 118) (i := 0) q2_ rfl, x1_, ← a5_, a4_]
  · rw [f_.1 3 j_ 0 rfl, q2_.1 3 j_ 0 rfl, fr_arr (t := 153) (i := 0) f_ rfl, fr_arr (t := 153) (i := 0) q2_ rfl]; exact a7_ j_ hj_
  · rw [f_.1 5 j_ 0 rfl, q2_.1 5 j_ 0 rfl, fr_arr (t := 183) (i := 0) f_ rfl, fr_arr (t := 183) (i := 0) q2_ rfl]; exact a8_ j_ hj_
theorem ly_en {n_ : Nat} {k_ : Int} {S_ S1_ S2_ : sm_S} (J_ : jB n_ S_) (q_ : lhq vw_212t S_ S1_) (e_ : S1_.1 10 0 1 = if 0 ≤ k_ ∧ k_ ≤ S_.1 10 0 1 then k_ else S_.1 10 0 1) (i_ : gi S2_) (f_ : ai_fr (sx_W vw_280) S1_ S2_) (p_ : jR S2_ ∧ S2_.1 13 0 2 = if 0 ≤ k_ ∧ k_ ≤ S1_.1 13 0 2 then k_ else S1_.1 13 0 2) (G_ : jG S2_) (K_ : jK (n_ + 1) S2_) : jB (n_ + 1) S2_ := by
  obtain ⟨a1_, a2_, a3_, a4_, a5_, a6_, a7_, a8_, a9_⟩ := J_
  obtain ⟨q1_, q2_, q3_⟩ := q_
  have x1_ : S1_.1 13 0 2 = S_.1 13 0 2 := q2_.1 13 0 2 rfl
  have x2_ : S2_.1 10 0 1 = S1_.1 10 0 1 := f_.1 10 0 1 rfl
  have y_ := p_.2
  rw [x1_, ← a5_] at y_
  refine ⟨i_, jC_fr q3_ f_ (by decide) (by decide) (by decide) (by decide) (by decide) rfl rfl rfl rfl rfl rfl, p_.1, ?_, by rw [x2_, e_, y_], ⟨?_, K_⟩, fun j_ hj_ => ?_, fun j_ hj_ => ?_, G_⟩
  · rw [fr_arr (t := 98) (i := 0) f_ rfl, fr_arr (t := 98) (i := 0) q2_ rfl, fr_arr (t := 118) (i := 0) f_ rfl, fr_arr (t := 118) (i := 0) q2_ rfl]; exact a4_
  · rw [x2_, e_]
    split
    · omega
    · omega
  · rw [f_.1 3 j_ 0 rfl, q2_.1 3 j_ 0 rfl, fr_arr (t := 153) (i := 0) f_ rfl, fr_arr (t := 153) (i := 0) q2_ rfl]; exact a7_ j_ hj_
  · rw [f_.1 5 j_ 0 rfl, q2_.1 5 j_ 0 rfl, fr_arr (t := 183) (i := 0) f_ rfl, fr_arr (t := 183) (i := 0) q2_ rfl]; exact a8_ j_ hj_
theorem ly_de {n_ m_ : Nat} {b_ : Nat → Int} {S_ S1_ S2_ : sm_S} {u_ : Option sm_V} (J_ : jB n_ S_) (q_ : lhq vw_213 S_ S1_) (e_ : lde b_ m_ S_ S1_) (p_ : vq_363 b_ m_ S1_ u_ S2_) (G_ : jG S2_) (K_ : jK (n_ + 1) S2_) : jB (n_ + 1) S2_ := by
  obtain ⟨a1_, a2_, a3_, a4_, a5_, a6_, a7_, a8_, a9_⟩ := J_
  obtain ⟨q1_, q2_, q3_⟩ := q_
  have r_ := jR_de (jR_fr a3_ q1_ q2_) p_
  obtain ⟨v_, -, i_, f_, p_⟩ := p_
  have x1_ : S1_.1 13 0 2 = S_.1 13 0 2 := q2_.1 13 0 2 rfl
  have x2_ : S2_.1 10 0 1 = S1_.1 10 0 1 := f_.1 10 0 1 rfl
  have x3_ : ∀ j_, S1_.2.2.1 153 0 j_ = S_.2.2.1 153 0 j_ := fun j_ => congrFun (fr_arr (t := 153) (i := 0) q2_ rfl) j_
  have x4_ : ∀ j_, S2_.1 3 j_ 0 = S1_.1 3 j_ 0 := fun j_ => f_.1 3 j_ 0 rfl
  have t_ : S2_.2.2.1 98 0 = S2_.2.2.1 118 0 := by
    rw [fr_arr (t := 98) (i := 0) f_ rfl, fr_arr (t := 98) (i := 0) q2_ rfl, fr_arr (t := 118) (i := 0) f_ rfl, fr_arr (t := 118) (i := 0) q2_ rfl]; exact a4_
  have l_ : ∀ j_ : Nat, j_ < 3 → S2_.1 5 j_ 0 = S2_.2.2.1 183 0 j_ := fun j_ hj_ => by
    rw [f_.1 5 j_ 0 rfl, q2_.1 5 j_ 0 rfl, fr_arr (t := 183) (i := 0) f_ rfl, fr_arr (t := 183) (i := 0) q2_ rfl]; exact a8_ j_ hj_
  have g_ : ∀ a_, rdf a_ S1_ S2_ → ∀ j_, j_ ≠ a_ → S2_.2.2.1 153 0 j_ = S_.2.2.1 153 0 j_ := fun a_ h_ j_ hj_ => by
    rw [rdf_sl h_ hj_ 153 (by decide) (by decide) j_ (by rw [show rds 153 = 1 from rfl]; omega) (by rw [show rds 153 = 1 from rfl]; omega)]
    exact x3_ j_
  refine ⟨i_, jC_fr q3_ f_ (by decide) (by decide) (by decide) (by decide) (by decide) rfl rfl rfl rfl rfl rfl, r_, t_, ?_, ⟨?_, K_⟩, ?_, l_, G_⟩
  · rcases e_ with ⟨e1_, e2_, e3_⟩ | ⟨s_, s1_, s2_, s3_, s4_, s5_, s6_⟩
    · rcases p_ with ⟨-, p1_, p2_, p3_⟩ | ⟨-, z_, z1_, z2_, z3_, z4_, z5_, z6_⟩
      · omega
      · exfalso
        have := e1_ z_ z1_
        have := a7_ z_ z1_
        have := x3_ z_
        omega
    · rcases p_ with ⟨-, p1_, p2_, p3_⟩ | ⟨-, z_, z1_, z2_, z3_, z4_, z5_, z6_⟩
      · exfalso
        have := p1_ s_ s1_
        have := a7_ s_ s1_
        have := x3_ s_
        omega
      · omega
  · rcases e_ with ⟨e1_, e2_, e3_⟩ | ⟨s_, s1_, s2_, s3_, s4_, s5_, s6_⟩
    · omega
    · omega
  · rcases e_ with ⟨e1_, e2_, e3_⟩ | ⟨s_, s1_, s2_, s3_, s4_, s5_, s6_⟩
    · rcases p_ with ⟨-, p1_, p2_, p3_⟩ | ⟨-, z_, z1_, z2_, z3_, z4_, z5_, z6_⟩
      · intro j_ hj_
        rw [x4_, e3_, g_ 6 p3_ j_ (by omega)]
        exact a7_ j_ hj_
      · exfalso
        have := e1_ z_ z1_
        have := a7_ z_ z1_
        have := x3_ z_
        omega
    · rcases p_ with ⟨-, p1_, p2_, p3_⟩ | ⟨-, z_, z1_, z2_, z3_, z4_, z5_, z6_⟩
      · exfalso
        have := p1_ s_ s1_
        have := a7_ s_ s1_
        have := x3_ s_
        omega
      · have sz_ : s_ = z_ := by
          rcases Nat.lt_trichotomy s_ z_ with c_ | c_ | c_
          · exfalso
            have := z3_ s_ c_
            have := a7_ s_ s1_
            have := x3_ s_
            omega
          · exact c_
          · exfalso
            have := s3_ z_ c_
            have := a7_ z_ z1_
            have := x3_ z_
            omega
        subst sz_
        intro j_ hj_
        by_cases c_ : j_ = s_
        · subst c_
          rw [x4_]
          rcases s6_ with s6_ | s6_
          · rcases z6_ with z6_ | z6_
            · rw [s6_.2, z6_.2.1]
            · exact absurd s6_.1 z6_.1
          · rcases z6_ with z6_ | z6_
            · exact absurd z6_.1 s6_.1
            · rw [s6_.2, z6_.2]
        · rw [x4_, s5_ j_ c_, g_ s_ z5_ j_ c_]
          exact a7_ j_ hj_
theorem ly_li {n_ m_ : Nat} {b_ : Nat → Int} {S_ S1_ S2_ : sm_S} {u_ : Option sm_V} (J_ : jB n_ S_) (q_ : lhq vw_214 S_ S1_) (e_ : lli b_ m_ S_ S1_) (p_ : vq_367 b_ m_ S1_ u_ S2_) (G_ : jG S2_) (K_ : jK (n_ + 1) S2_) : jB (n_ + 1) S2_ := by
  obtain ⟨a1_, a2_, a3_, a4_, a5_, a6_, a7_, a8_, a9_⟩ := J_
  obtain ⟨q1_, q2_, q3_⟩ := q_
  have r_ := jR_li (jR_fr a3_ q1_ q2_) p_
  obtain ⟨v_, -, i_, f_, p_⟩ := p_
  have x1_ : S1_.1 13 0 2 = S_.1 13 0 2 := q2_.1 13 0 2 rfl
  have x2_ : S2_.1 10 0 1 = S1_.1 10 0 1 := f_.1 10 0 1 rfl
  have x3_ : ∀ j_, S1_.2.2.1 183 0 j_ = S_.2.2.1 183 0 j_ := fun j_ => congrFun (fr_arr (t := 183) (i := 0) q2_ rfl) j_
  have x4_ : ∀ j_, S2_.1 5 j_ 0 = S1_.1 5 j_ 0 := fun j_ => f_.1 5 j_ 0 rfl
  have t_ : S2_.2.2.1 98 0 = S2_.2.2.1 118 0 := by
    rw [fr_arr (t := 98) (i := 0) f_ rfl, fr_arr (t := 98) (i := 0) q2_ rfl, fr_arr (t := 118) (i := 0) f_ rfl, fr_arr (t := 118) (i := 0) q2_ rfl]; exact a4_
  have l_ : ∀ j_ : Nat, j_ < 6 → S2_.1 3 j_ 0 = S2_.2.2.1 153 0 j_ := fun j_ hj_ => by
    rw [f_.1 3 j_ 0 rfl, q2_.1 3 j_ 0 rfl, fr_arr (t := 153) (i := 0) f_ rfl, fr_arr (t := 153) (i := 0) q2_ rfl]; exact a7_ j_ hj_
  refine ⟨i_, jC_fr q3_ f_ (by decide) (by decide) (by decide) (by decide) (by decide) rfl rfl rfl rfl rfl rfl, r_, t_, ?_, ⟨?_, K_⟩, l_, ?_, G_⟩
  · rcases e_ with ⟨e1_, e2_, e3_⟩ | ⟨s_, s1_, s2_, s3_, s4_, s5_⟩
    · rcases p_ with ⟨-, p1_, p2_, p3_⟩ | ⟨-, z_, z1_, z2_, z3_, z4_, z5_⟩
      · omega
      · exfalso
        have := e1_ z_ z1_
        have := a8_ z_ z1_
        have := x3_ z_
        omega
    · rcases p_ with ⟨-, p1_, p2_, p3_⟩ | ⟨-, z_, z1_, z2_, z3_, z4_, z5_⟩
      · exfalso
        have := p1_ s_ s1_
        have := a8_ s_ s1_
        have := x3_ s_
        omega
      · omega
  · rcases e_ with ⟨e1_, e2_, e3_⟩ | ⟨s_, s1_, s2_, s3_, s4_, s5_⟩
    · omega
    · omega
  · rcases e_ with ⟨e1_, e2_, e3_⟩ | ⟨s_, s1_, s2_, s3_, s4_, s5_⟩
    · rcases p_ with ⟨-, p1_, p2_, p3_⟩ | ⟨-, z_, z1_, z2_, z3_, z4_, z5_⟩
      · intro j_ hj_
        rw [x4_, e3_, p3_, x3_]
        exact a8_ j_ hj_
      · exfalso
        have := e1_ z_ z1_
        have := a8_ z_ z1_
        have := x3_ z_
        omega
    · rcases p_ with ⟨-, p1_, p2_, p3_⟩ | ⟨-, z_, z1_, z2_, z3_, z4_, z5_⟩
      · exfalso
        have := p1_ s_ s1_
        have := a8_ s_ s1_
        have := x3_ s_
        omega
      · have sz_ : s_ = z_ := by
          rcases Nat.lt_trichotomy s_ z_ with c_ | c_ | c_
          · exfalso
            have := z3_ s_ c_
            have := a8_ s_ s1_
            have := x3_ s_
            omega
          · exact c_
          · exfalso
            have := s3_ z_ c_
            have := a8_ z_ z1_
            have := x3_ z_
            omega
        subst sz_
        intro j_ hj_
        rw [x4_]
        rcases s5_ with ⟨⟨y_, y1_⟩, s5_⟩ | ⟨⟨y_, y1_⟩, s5_⟩
        · rcases z5_ with ⟨w_, w1_, -, -, z5_⟩ | ⟨⟨w_, w1_⟩, -, -, z5_⟩
          · rw [s5_, z5_, x3_]; exact a8_ j_ hj_
          · rw [y1_] at w1_; cases w1_
        · rcases z5_ with ⟨w_, w1_, -, -, z5_⟩ | ⟨⟨w_, w1_⟩, -, -, z5_⟩
          · rw [y1_] at w1_; cases w1_
          · rw [s5_, z5_, x3_]
            split
            · rfl
            · exact a8_ j_ hj_
theorem ly_dr {n_ : Nat} {kd_ k_ : Int} {S_ S1_ S2_ : sm_S} (J_ : jB n_ S_) (q_ : lhq vw_217t S_ S1_) (e_ : ldr kd_ k_ S_ S1_) (i_ : gi S2_) (f_ : ai_fr (sx_W vw_373) S1_ S2_) (p_ : jR S2_ ∧ ((kd_ = 0 ∧ (0 ≤ k_ ∧ k_ < 6 ∧ S1_.2.2.1 153 0 k_.toNat = 1) ∧ (∀ j_, S2_.2.2.1 153 0 j_ = if j_ = k_.toNat then 0 else S1_.2.2.1 153 0 j_) ∧ ∀ j_, S2_.2.2.1 183 0 j_ = S1_.2.2.1 183 0 j_) ∨ (kd_ = 1 ∧ (0 ≤ k_ ∧ k_ < 3 ∧ S1_.2.2.1 183 0 k_.toNat = 1) ∧ (∀ j_, S2_.2.2.1 183 0 j_ = if j_ = k_.toNat then 0 else S1_.2.2.1 183 0 j_) ∧ ∀ j_, S2_.2.2.1 153 0 j_ = S1_.2.2.1 153 0 j_) ∨ ((¬ (kd_ = 0 ∧ 0 ≤ k_ ∧ k_ < 6 ∧ S1_.2.2.1 153 0 k_.toNat = 1) ∧ ¬ (kd_ = 1 ∧ 0 ≤ k_ ∧ k_ < 3 ∧ S1_.2.2.1 183 0 k_.toNat = 1)) ∧ (∀ j_, S2_.2.2.1 153 0 j_ = S1_.2.2.1 153 0 j_) ∧ ∀ j_, S2_.2.2.1 183 0 j_ = S1_.2.2.1 183 0 j_))) (G_ : jG S2_) (K_ : jK (n_ + 1) S2_) : jB (n_ + 1) S2_ := by
  obtain ⟨a1_, a2_, a3_, a4_, a5_, a6_, a7_, a8_, a9_⟩ := J_
  obtain ⟨q1_, q2_, q3_⟩ := q_
  obtain ⟨r_, p_⟩ := p_
  have x1_ : S1_.1 13 0 2 = S_.1 13 0 2 := q2_.1 13 0 2 rfl
  have x2_ : S2_.1 10 0 1 = S1_.1 10 0 1 := f_.1 10 0 1 rfl
  have x5_ : S1_.1 10 0 1 = S_.1 10 0 1 := q2_.1 10 0 1 rfl
  have x6_ : S2_.1 13 0 2 = S1_.1 13 0 2 := f_.1 13 0 2 rfl
  have x3_ : ∀ j_, S1_.2.2.1 153 0 j_ = S_.2.2.1 153 0 j_ := fun j_ => congrFun (fr_arr (t := 153) (i := 0) q2_ rfl) j_
  have x7_ : ∀ j_, S1_.2.2.1 183 0 j_ = S_.2.2.1 183 0 j_ := fun j_ => congrFun (fr_arr (t := 183) (i := 0) q2_ rfl) j_
  have x4_ : ∀ j_, S2_.1 3 j_ 0 = S1_.1 3 j_ 0 := fun j_ => f_.1 3 j_ 0 rfl
  have x8_ : ∀ j_, S2_.1 5 j_ 0 = S1_.1 5 j_ 0 := fun j_ => f_.1 5 j_ 0 rfl
  have t_ : S2_.2.2.1 98 0 = S2_.2.2.1 118 0 := by
    rw [fr_arr (t := 98) (i := 0) f_ rfl, fr_arr (t := 98) (i := 0) q2_ rfl, fr_arr (t := 118) (i := 0) f_ rfl, fr_arr (t := 118) (i := 0) q2_ rfl]; exact a4_
  rw [x3_, x7_] at p_
  have y1_ : 0 ≤ k_ → k_ < 6 → S_.1 3 k_.toNat 0 = S_.2.2.1 153 0 k_.toNat := fun c_ d_ => a7_ _ (by omega)
  have y2_ : 0 ≤ k_ → k_ < 3 → S_.1 5 k_.toNat 0 = S_.2.2.1 183 0 k_.toNat := fun c_ d_ => a8_ _ (by omega)
  refine ⟨i_, jC_fr q3_ f_ (by decide) (by decide) (by decide) (by decide) (by decide) rfl rfl rfl rfl rfl rfl, r_, t_, by omega, ⟨by omega, K_⟩, ?_, ?_, G_⟩
  · intro j_ hj_
    rw [x4_]
    have aj_ := a7_ j_ hj_
    rcases e_ with ⟨e1_, e2_, e3_, e4_⟩ | ⟨e1_, e2_, e3_, e4_⟩ | ⟨e1_, e3_, e4_⟩ <;> rcases p_ with ⟨p1_, p2_, p3_, p4_⟩ | ⟨p1_, p2_, p3_, p4_⟩ | ⟨p1_, p3_, p4_⟩
    · rw [e3_, p3_, x3_]; split; rfl; exact aj_
    · exfalso; omega
    · exfalso; have := y1_ e2_.1 e2_.2.1; omega
    · exfalso; omega
    · rw [e4_, p4_, x3_]; exact aj_
    · rw [e4_, p3_, x3_]; exact aj_
    · exfalso; have := y1_ p2_.1 p2_.2.1; omega
    · rw [e3_, p4_, x3_]; exact aj_
    · rw [e3_, p3_, x3_]; exact aj_
  · intro j_ hj_
    rw [x8_]
    have aj_ := a8_ j_ hj_
    rcases e_ with ⟨e1_, e2_, e3_, e4_⟩ | ⟨e1_, e2_, e3_, e4_⟩ | ⟨e1_, e3_, e4_⟩ <;> rcases p_ with ⟨p1_, p2_, p3_, p4_⟩ | ⟨p1_, p2_, p3_, p4_⟩ | ⟨p1_, p3_, p4_⟩
    · rw [e4_, p4_, x7_]; exact aj_
    · exfalso; omega
    · rw [e4_, p4_, x7_]; exact aj_
    · exfalso; omega
    · rw [e3_, p3_, x7_]; split; rfl; exact aj_
    · exfalso; have := y2_ e2_.1 e2_.2.1; omega
    · rw [e4_, p4_, x7_]; exact aj_
    · exfalso; have := y2_ p2_.1 p2_.2.1; omega
    · rw [e4_, p4_, x7_]; exact aj_
theorem ldr_u {kd_ k_ : Int} {S0_ S1_ : sm_S} {d_ : Nat} (h_ : ldr kd_ k_ S0_ S1_) (z_ : S1_.1 3 d_ 0 = 1) : S0_.1 3 d_ 0 = 1 := by
  rcases h_ with h_ | h_ | h_
  · rw [h_.2.2.1 d_] at z_
    split at z_
    · exact absurd z_ (by decide)
    · exact z_
  · rw [h_.2.2.2 d_] at z_; exact z_
  · rw [h_.2.1 d_] at z_; exact z_
theorem ldr_l {kd_ k_ : Int} {S0_ S1_ : sm_S} {d_ : Nat} (h_ : ldr kd_ k_ S0_ S1_) (z_ : S1_.1 5 d_ 0 = 1) : S0_.1 5 d_ 0 = 1 := by
  rcases h_ with h_ | h_ | h_
  · rw [h_.2.2.2 d_] at z_; exact z_
  · rw [h_.2.2.1 d_] at z_
    split at z_
    · exact absurd z_ (by decide)
    · exact z_
  · rw [h_.2.2 d_] at z_; exact z_
