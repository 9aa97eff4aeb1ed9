/-! the tester behind map, alter, drop, library -/
theorem mp_n {a_ b_ w_ F_ N_ : Int} {S1_ S2_ : sm_S} (P_ : (S2_.1 13 0 0 = 1 ∧ S2_.2.2.1 = S1_.2.2.1 ∧ ¬ ora_map a_ b_ S1_) ∨ (S2_.1 13 0 0 = 2 ∧ S2_.2.2.1 = S1_.2.2.1 ∧ ora_map a_ b_ S1_ ∧ ¬ ∃ c_ : Int, frr c_ S1_) ∨ (S2_.1 13 0 0 = 0 ∧ ∃ c_ : Int, (ora_map a_ b_ S1_ ∧ frr c_ S1_) ∧ ((w_ = c_ ∧ rnw9 c_ S1_ S2_) ∨ (w_ ≠ c_ ∧ rne9 S1_ S2_)) ∧ mpr F_ N_ a_ b_ c_ S1_ S2_ w_)) : (S2_.1 13 0 0 = 1 ∧ S2_.2.2.1 = S1_.2.2.1 ∧ ¬ ora_map a_ b_ S1_) ∨ (S2_.1 13 0 0 = 2 ∧ S2_.2.2.1 = S1_.2.2.1 ∧ ora_map a_ b_ S1_ ∧ ¬ ∃ c_ : Int, frr c_ S1_) ∨ (S2_.1 13 0 0 = 0 ∧ ∃ c_ : Int, (ora_map a_ b_ S1_ ∧ frr c_ S1_) ∧ mpr F_ N_ a_ b_ c_ S1_ S2_ w_) := by
  rcases P_ with h_ | h_ | ⟨h1_, c_, h2_, -, h3_⟩
  · exact Or.inl h_
  · exact Or.inr (Or.inl h_)
  · exact Or.inr (Or.inr ⟨h1_, c_, h2_, h3_⟩)
theorem al_n {a_ b_ d_ w_ : Int} {S1_ S2_ : sm_S} (P_ : (S2_.1 13 0 0 = 1 ∧ ¬ ora_alter a_ b_ d_ S1_ ∧ S2_.2.2.1 = S1_.2.2.1) ∨ (S2_.1 13 0 0 = 2 ∧ ora_alter a_ b_ d_ S1_ ∧ ¬ okr_alter a_ b_ d_ S1_ ∧ S2_.2.2.1 = S1_.2.2.1) ∨ (S2_.1 13 0 0 = 0 ∧ okr_alter a_ b_ d_ S1_ ∧ w_ = S1_.2.2.1 229 0 (150 * a_ + b_).toNat ∧ (∀ j_ : Nat, S2_.2.2.1 289 0 j_ = if j_ = a_.toNat then -1 else S1_.2.2.1 289 0 j_) ∧ (∀ j_ : Nat, S2_.2.2.1 294 0 j_ = if 1280 * a_.toNat ≤ j_ ∧ j_ < 1280 * a_.toNat + 1280 then 0 else S1_.2.2.1 294 0 j_) ∧ ∀ j_, S2_.2.2.1 229 0 j_ = if j_ = (150 * a_ + b_).toNat then d_ else S1_.2.2.1 229 0 j_)) : (S2_.1 13 0 0 = 1 ∧ ¬ ora_alter a_ b_ d_ S1_ ∧ S2_.2.2.1 229 0 = S1_.2.2.1 229 0) ∨ (S2_.1 13 0 0 = 2 ∧ ora_alter a_ b_ d_ S1_ ∧ ¬ okr_alter a_ b_ d_ S1_ ∧ S2_.2.2.1 229 0 = S1_.2.2.1 229 0) ∨ (S2_.1 13 0 0 = 0 ∧ okr_alter a_ b_ d_ S1_ ∧ w_ = S1_.2.2.1 229 0 (150 * a_ + b_).toNat ∧ ∀ j_, S2_.2.2.1 229 0 j_ = if j_ = (150 * a_ + b_).toNat then d_ else S1_.2.2.1 229 0 j_) := by
  rcases P_ with ⟨h1_, h2_, h3_⟩ | ⟨h1_, h2_, h3_, h4_⟩ | ⟨h1_, h2_, h3_, -, -, h4_⟩
  · exact Or.inl ⟨h1_, h2_, by rw [h3_]⟩
  · exact Or.inr (Or.inl ⟨h1_, h2_, h3_, by rw [h4_]⟩)
  · exact Or.inr (Or.inr ⟨h1_, h2_, h3_, h4_⟩)
/-- the reference left its arrays alone, the class everything -/
theorem jT_al {w_ : sx_Wl} {S_ S'_ : sm_S} {n_ : Nat} (T_ : jT S_) (i_ : gi S_) (r_ : jR S_) (K_ : jK0 n_ S_) (f_ : ai_fr (sx_W w_) S_ S'_) (e_ : S'_.2.2.1 = S_.2.2.1) (q_ : jtc w_ = true := by rfl) (u_ : (sx_W w_).1 2 0 = false := by rfl) (l_ : (sx_W w_).2.1 292 = false := by rfl) : jT S'_ := fun j_ hj_ z_ => by
  rw [f_.1 2 j_ 0 u_] at z_
  exact jT_one (T_ j_ hj_ z_) (cleq_fr f_ q_) (cfu_b i_ r_ K_ hj_ z_) (f_.1 2 j_ 15 (jtc_f q_ (by decide))) (f_.1 2 j_ 19 (jtc_f q_ (by decide))) (fr_arr f_ (jtc_a q_ (by decide))) (fr_arr f_ (jtc_a q_ (by decide))) (Or.inl (teq_fr f_ q_)) (by rw [e_]) (by rw [e_]) (by rw [e_]) (fr_lon f_ l_) (fun f_ _ => by rw [e_])
set_option maxHeartbeats 1000000 in
theorem pT_map {n_ : Nat} {a_ b_ v_ w_ F9_ N9_ : Int} {S_ S1_ S2_ : sm_S} (J_ : jB n_ S_) (q_ : lhq vw_230m S_ S1_) (E_ : emt9 a_ b_ S_ S1_ v_) (i_ : gi S2_) (r_ : jR S2_) (K2_ : jK0 (n_ + 1) S2_) (f_ : ai_fr (sx_W vw_419n) S1_ S2_) (wb_ : -2147483648 ≤ w_ ∧ w_ ≤ 2147483647) (P_ : (S2_.1 13 0 0 = 1 ∧ S2_.2.2.1 = S1_.2.2.1 ∧ ¬ ora_map a_ b_ S1_) ∨ (S2_.1 13 0 0 = 2 ∧ S2_.2.2.1 = S1_.2.2.1 ∧ ora_map a_ b_ S1_ ∧ ¬ ∃ c_ : Int, frr c_ S1_) ∨ (S2_.1 13 0 0 = 0 ∧ ∃ c_ : Int, (ora_map a_ b_ S1_ ∧ frr c_ S1_) ∧ ((w_ = c_ ∧ rnw9 c_ S1_ S2_) ∨ (w_ ≠ c_ ∧ rne9 S1_ S2_)) ∧ mpr F9_ N9_ a_ b_ c_ S1_ S2_ w_)) (c0_ : S2_.1 13 0 0 = v_) (o_ : v_ = 0 → S1_.2.2.2 295 0 0 = l_i2l w_) : jT S2_ := by
  have K_ := J_.2.2.2.2.2.1.2.1
  have T_ := J_.2.2.2.2.2.1.2.2.2
  have x2_ : S1_.2.2.1 222 0 = S_.2.2.1 222 0 := fr_arr q_.2.1 rfl
  have g9_ : S1_.2.2.1 289 0 = S_.2.2.1 289 0 := fr_arr q_.2.1 rfl
  have g4_ : S1_.2.2.1 294 0 = S_.2.2.1 294 0 := fr_arr q_.2.1 rfl
  have h0_ : S2_.2.2.1 290 0 = S_.2.2.1 290 0 := (fr_arr f_ rfl).trans (fr_arr q_.2.1 rfl)
  have h1_ : S2_.2.2.1 291 0 = S_.2.2.1 291 0 := (fr_arr f_ rfl).trans (fr_arr q_.2.1 rfl)
  have h2_ : S2_.2.2.2 292 0 = S_.2.2.2 292 0 := (fr_lon f_ rfl).trans (fr_lon q_.2.1 rfl)
  rcases E_ with ⟨v0_, c_, F_, x_, fc_, mc_, ox_, mt_, mu_⟩ | ⟨vn_, e_⟩
  · have cd_ := mc_.2.1
    have oth_ : ∀ j_ : Nat, j_ < 4 → j_ ≠ c_ → S_.1 2 j_ 0 = 1 → S2_.2.2.1 289 0 j_ = S_.2.2.1 289 0 j_ → (∀ f_ : Nat, f_ < 1280 → S2_.2.2.1 294 0 (1280 * j_ + f_) = S_.2.2.1 294 0 (1280 * j_ + f_)) → tkp j_ S2_ ∧ stq9 j_ S2_ ∧ lsc j_ S2_ := fun j_ hj_ nj_ u_ r9_ r4_ => by
      have e_ := (cd_ 2 rfl j_ (by rw [show cof 2 = 0 from rfl]; omega)).1
      refine jT_one (T_ j_ hj_ u_) (cleq_tr (cleq_cd cd_ nj_) (cleq_fr f_ rfl)) (cfu_b J_.1 J_.2.2.1 K_ hj_ u_) ((f_.1 2 j_ 15 rfl).trans (e_ 15)) ((f_.1 2 j_ 19 rfl).trans (e_ 19)) ((fr_arr f_ rfl).trans (cd_ 40 rfl _ (by rw [show cof 40 = 0 from rfl]; omega)).2) ((fr_arr f_ rfl).trans (cd_ 41 rfl _ (by rw [show cof 41 = 0 from rfl]; omega)).2) ?_ r9_ h0_ h1_ h2_ r4_
      rcases mu_ with ⟨u0_, u1_, u2_, u3_, u4_, u5_⟩ | ⟨-, u1_, u2_⟩
      · rcases mt_ with ⟨-, -, m3_, m4_⟩ | ⟨⟨-, m2_, -⟩, -⟩
        · exact Or.inl (teq_tr ⟨⟨m3_, m4_, u1_, u2_⟩, u3_, u4_, u5_⟩ (teq_fr f_ rfl))
        · exact Or.inr ⟨c_, fun z_ => nj_ z_.symm, (f_.2.1 9 0 0 rfl).trans m2_⟩
      · exact Or.inr ⟨c_, fun z_ => nj_ z_.symm, (f_.2.1 9 0 0 rfl).trans u1_⟩
    intro j_ hj_ z_
    rcases P_ with ⟨p1_, -⟩ | ⟨p1_, -⟩ | ⟨p1_, d_, ⟨-, fr_⟩, nw_, -⟩
    · omega
    · omega
    · have dc_ : d_ = (c_ : Int) := by
        obtain ⟨k1_, k2_, k3_⟩ := fc_
        obtain ⟨k4_, k5_, k6_, k7_⟩ := fr_
        rw [x2_] at k6_
        rcases Int.lt_trichotomy d_ (c_ : Int) with y_ | y_ | y_
        · have a1_ := k3_ d_.toNat (by omega)
          have a2_ := K_.2.1 d_.toNat (by omega)
          omega
        · exact y_
        · have a1_ := k7_ c_ y_
          rw [x2_] at a1_
          have a2_ := K_.2.1 c_ k1_
          omega
      have tn_ : d_.toNat = c_ := by omega
      have u1_ : S1_.1 2 j_ 0 = 1 := (f_.1 2 j_ 0 rfl).symm.trans z_
      by_cases y_ : j_ = c_
      · subst y_
        obtain ⟨-, -, x0_, -, al_⟩ := mc_
        have xc_ : x_ = (j_ : Int) := by
          rcases al_ with ⟨-, -, a_⟩ | ⟨-, a_, -⟩
          · omega
          · exact a_
        have ww_ : w_ = (j_ : Int) := by
          have a_ := (ox_.symm.trans (o_ v0_))
          rw [l_i2l_s wb_.1 wb_.2, l_i2l_s (by omega) (by omega)] at a_
          omega
        rcases nw_ with ⟨-, n1_, n2_, n3_⟩ | ⟨nn_, -⟩
        · rcases mu_ with ⟨u0_, -⟩ | ⟨⟨t1_, t2_⟩, -⟩
          · omega
          · exact jT_new (tok_eq t1_ (cleq_fr f_ rfl) (teq_fr f_ rfl)) ((f_.1 2 j_ 15 rfl).trans t2_) (cfu_b i_ r_ K2_ hj_ z_) ((n2_ j_).trans (if_pos tn_.symm)) (fun f9_ hf_ => (n3_ _).trans (if_pos (by omega)))
        · exact absurd (ww_.trans dc_.symm) nn_
      · have u2_ : S_.1 2 j_ 0 = 1 := ((cd_ 2 rfl j_ (by rw [show cof 2 = 0 from rfl]; omega)).1 0).symm.trans u1_
        rcases nw_ with ⟨-, n1_, n2_, n3_⟩ | ⟨-, n1_⟩
        · exact oth_ j_ hj_ y_ u2_ (((n2_ j_).trans (if_neg (by omega))).trans (congrFun g9_ _)) (fun f9_ hf_ => ((n3_ _).trans (if_neg (by omega))).trans (congrFun g4_ _))
        · exact oth_ j_ hj_ y_ u2_ (congrFun ((n1_ 289 rfl).trans g9_) _) (fun f9_ hf_ => congrFun ((n1_ 294 rfl).trans g4_) _)
  · have ar_ : S2_.2.2.1 = S1_.2.2.1 := by
      rcases P_ with ⟨-, p_, -⟩ | ⟨-, p_, -⟩ | ⟨p1_, -⟩
      · exact p_
      · exact p_
      · omega
    subst e_
    exact jT_al T_ J_.1 J_.2.2.1 K_ f_ ar_
theorem pT_alter {n_ : Nat} {a_ b_ d_ v_ w_ : Int} {S_ S1_ S2_ : sm_S} (J_ : jB n_ S_) (q_ : lhq vw_234m S_ S1_) (E_ : eat9 a_.toNat S_ S1_ v_) (i_ : gi S2_) (r_ : jR S2_) (K2_ : jK0 n_ S2_) (f_ : ai_fr (sx_W vw_428n) S1_ S2_) (P_ : (S2_.1 13 0 0 = 1 ∧ ¬ ora_alter a_ b_ d_ S1_ ∧ S2_.2.2.1 = S1_.2.2.1) ∨ (S2_.1 13 0 0 = 2 ∧ ora_alter a_ b_ d_ S1_ ∧ ¬ okr_alter a_ b_ d_ S1_ ∧ S2_.2.2.1 = S1_.2.2.1) ∨ (S2_.1 13 0 0 = 0 ∧ okr_alter a_ b_ d_ S1_ ∧ w_ = S1_.2.2.1 229 0 (150 * a_ + b_).toNat ∧ (∀ j_ : Nat, S2_.2.2.1 289 0 j_ = if j_ = a_.toNat then -1 else S1_.2.2.1 289 0 j_) ∧ (∀ j_ : Nat, S2_.2.2.1 294 0 j_ = if 1280 * a_.toNat ≤ j_ ∧ j_ < 1280 * a_.toNat + 1280 then 0 else S1_.2.2.1 294 0 j_) ∧ ∀ j_, S2_.2.2.1 229 0 j_ = if j_ = (150 * a_ + b_).toNat then d_ else S1_.2.2.1 229 0 j_)) (c0_ : S2_.1 13 0 0 = v_) : jT S2_ := by
  have K_ := J_.2.2.2.2.2.1.2.1
  have T_ := J_.2.2.2.2.2.1.2.2.2
  have g9_ : S1_.2.2.1 289 0 = S_.2.2.1 289 0 := fr_arr q_.2.1 rfl
  have g4_ : S1_.2.2.1 294 0 = S_.2.2.1 294 0 := fr_arr q_.2.1 rfl
  have h0_ : S2_.2.2.1 290 0 = S_.2.2.1 290 0 := (fr_arr f_ rfl).trans (fr_arr q_.2.1 rfl)
  have h1_ : S2_.2.2.1 291 0 = S_.2.2.1 291 0 := (fr_arr f_ rfl).trans (fr_arr q_.2.1 rfl)
  have h2_ : S2_.2.2.2 292 0 = S_.2.2.2 292 0 := (fr_lon f_ rfl).trans (fr_lon q_.2.1 rfl)
  rcases E_ with ⟨v0_, ⟨t1_, t2_⟩, t3_, cd_⟩ | ⟨vn_, e_⟩
  · intro j_ hj_ z_
    have u2_ : S_.1 2 j_ 0 = 1 := ((f_.1 2 j_ 0 rfl).trans (q_.2.1.1 2 j_ 0 rfl)).symm.trans z_
    rcases P_ with ⟨p1_, -⟩ | ⟨p1_, -⟩ | ⟨p1_, -, -, n2_, n3_, -⟩
    · omega
    · omega
    · by_cases y_ : j_ = a_.toNat
      · subst y_
        exact jT_new (tok_eq t1_ (cleq_fr f_ rfl) (teq_fr f_ rfl)) ((f_.1 2 _ 15 rfl).trans t2_) (cfu_b i_ r_ K2_ hj_ z_) ((n2_ _).trans (if_pos rfl)) (fun f9_ hf_ => (n3_ _).trans (if_pos (by omega)))
      · have e_ := (cd_ 2 rfl j_ (by rw [show cof 2 = 0 from rfl]; omega)).1
        exact jT_one (T_ j_ hj_ u2_) (cleq_tr (cleq_cd cd_ y_) (cleq_fr f_ rfl)) (cfu_b J_.1 J_.2.2.1 K_ hj_ u2_) ((f_.1 2 j_ 15 rfl).trans (e_ 15)) ((f_.1 2 j_ 19 rfl).trans (e_ 19)) ((fr_arr f_ rfl).trans (cd_ 40 rfl _ (by rw [show cof 40 = 0 from rfl]; omega)).2) ((fr_arr f_ rfl).trans (cd_ 41 rfl _ (by rw [show cof 41 = 0 from rfl]; omega)).2) (Or.inr ⟨a_.toNat, fun z_ => y_ z_.symm, (f_.2.1 9 0 0 rfl).trans t3_⟩) (((n2_ j_).trans (if_neg y_)).trans (congrFun g9_ _)) h0_ h1_ h2_ (fun f9_ hf_ => ((n3_ _).trans (if_neg (by omega))).trans (congrFun g4_ _))
  · have ar_ : S2_.2.2.1 = S1_.2.2.1 := by
      rcases P_ with ⟨-, -, p_⟩ | ⟨-, -, -, p_⟩ | ⟨p1_, -⟩
      · exact p_
      · exact p_
      · omega
    subst e_
    exact jT_al T_ J_.1 J_.2.2.1 K_ f_ ar_
theorem pT_drop {n_ : Nat} {a_ b_ v_ : Int} {S_ S1_ S2_ : sm_S} (J_ : jB n_ S_) (q_ : lhq vw_217n S_ S1_) (E_ : ldn a_ b_ S_ S1_ v_) (f_ : ai_fr (sx_W vw_373n) S1_ S2_) : jT S2_ := by
  have T_ := J_.2.2.2.2.2.1.2.2.2
  refine jT_dn (jT_dn T_ q_.2.1 (fun c_ _ z_ => ?_)) f_ (fun c_ _ z_ => (f_.1 2 c_ 0 rfl).symm.trans z_)
  rcases E_ with ⟨-, -, -, -, e5_⟩ | ⟨-, -, e3_⟩ | ⟨-, -, -, e4_⟩
  · rw [e5_] at z_
    by_cases y_ : a_ = 2 ∧ c_ = b_.toNat
    · rw [if_pos y_] at z_
      exact absurd z_ (by decide)
    · rw [if_neg y_] at z_
      exact z_
  · rw [← e3_]
    exact z_
  · rw [← e4_]
    exact z_
theorem jT_li {n_ m_ : Nat} {v_ : Int} {b_ : Nat → Int} {w_ : sx_Wl} {S_ S1_ S2_ : sm_S} (J_ : jB n_ S_) (q_ : ai_fr (sx_W (wo9 vw_214)) S_ S1_) (E_ : lliv b_ m_ S_ S1_ v_) (f_ : ai_fr (sx_W w_) S1_ S2_) (p_ : jtt w_ = true) (a_ : (sx_W w_).1 2 0 = false) : jT S2_ := by
  have K_ := J_.2.2.2.2.2.1.2.1
  have T_ := J_.2.2.2.2.2.1.2.2.2
  have il_ : ∀ i_ : Nat, 3 ≤ i_ → i_ < 7 → ∀ t_, t_ < 59 → 55 ≤ t_ → S1_.2.2.1 t_ (0 + i_) = S_.2.2.1 t_ (0 + i_) := fun i_ h1_ h2_ => by
    rcases E_ with ⟨e1_, e2_, e3_, e4_⟩ | ⟨e1_, s_, s1_, s2_, s3_, s0_, s4_⟩
    · exact (e3_ i_ (by omega)).2
    · exact (s0_ i_ (by omega)).2
  refine jT_dn (S_ := S1_) (fun k_ hk_ z_ => ?_) f_ (fun k_ _ z_ => (f_.1 2 k_ 0 a_).symm.trans z_) p_
  rw [q_.1 2 k_ 0 rfl] at z_
  exact jT_one (T_ k_ hk_ z_) ⟨⟨q_.1 2 k_ 1 rfl, q_.1 2 k_ 2 rfl, q_.1 2 k_ 3 rfl, q_.1 2 k_ 8 rfl⟩, ta35 (fr_arr q_ rfl) (fr_arr q_ rfl) (fr_arr q_ rfl) (fr_arr q_ rfl), ta55 (il_ (3 + k_) (by omega) (by omega) 55 (by decide) (by decide)) (il_ (3 + k_) (by omega) (by omega) 56 (by decide) (by decide))⟩ (cfu_b J_.1 J_.2.2.1 K_ hk_ z_) (q_.1 2 k_ 15 rfl) (q_.1 2 k_ 19 rfl) (fr_arr q_ rfl) (fr_arr q_ rfl) (Or.inl ⟨⟨q_.2.1 9 0 0 rfl, q_.1 9 0 1 rfl, q_.1 9 0 2 rfl, q_.1 9 0 3 rfl⟩, fr_lon (t_ := 92) (i_ := 0) q_ rfl, fr_lon (t_ := 95) (i_ := 0) q_ rfl, fr_arr (t := 96) (i := 0) q_ rfl⟩) (congrFun (fr_arr (t := 289) (i := 0) q_ rfl) _) (fr_arr q_ rfl) (fr_arr q_ rfl) (fr_lon q_ rfl) (fun f9_ _ => congrFun (fr_arr (t := 294) (i := 0) q_ rfl) _)
theorem pP_map {n_ : Nat} {S_ S1_ S2_ : sm_S} (J_ : jB n_ S_) (E_ : emp9 S_ S1_) (f_ : ai_fr (sx_W vw_419n) S1_ S2_) (s_ : jsq S2_) : jP (n_ + 1) S2_ := by
  have PJ_ := J_.2.2.2.2.2.1.2.2.1
  have e19_ : ∀ c_, S2_.1 2 c_ 19 = S1_.1 2 c_ 19 := fun c_ => f_.1 2 c_ 19 rfl
  have e0_ : ∀ c_, S2_.1 2 c_ 0 = S1_.1 2 c_ 0 := fun c_ => f_.1 2 c_ 0 rfl
  rcases E_ with ⟨c_, cd_, mp_⟩ | e_
  · have s19_ : ∀ j_, j_ ≠ c_ → S1_.1 2 j_ 19 = S_.1 2 j_ 19 := fun j_ hj_ => (cd_ 2 rfl j_ (by rw [show cof 2 = 0 from rfl]; omega)).1 19
    have b19_ := PJ_.1.1
    have bc_ : S1_.1 2 c_ 19 = S_.1 2 c_ 19 ∨ S1_.1 2 c_ 19 = S_.1 2 c_ 19 + 1 := by
      rcases mp_ with ⟨-, h_, -⟩ | ⟨-, h_⟩
      · exact h_
      · exact Or.inr h_
    have ts_ : tsa S1_ := by
      rcases mp_ with ⟨m1_, m2_, m3_, m4_⟩ | ⟨m1_, m2_⟩
      · intro j_ hj_
        rw [m3_] at hj_
        have x_ := PJ_.1.2 j_ hj_
        rw [m4_]
        by_cases y_ : j_ = c_
        · rw [y_] at x_ ⊢
          omega
        · rw [s19_ j_ y_]
          exact x_
      · exact tsa_of m1_.2.1 m1_.2.2
    have kt_ : ∀ j_ : Nat, j_ < 4 → S1_.1 2 j_ 0 = 1 → kctb j_ S1_ := fun j_ hj_ z_ => by
      by_cases y_ : j_ = c_
      · rcases mp_ with ⟨m1_, -⟩ | ⟨m1_, -⟩
        · rw [y_, m1_] at z_
          exact absurd z_ (by decide)
        · rw [y_]
          exact m1_.1
      · have z2_ : S_.1 2 j_ 0 = 1 := by
          rw [← (cd_ 2 rfl j_ (by rw [show cof 2 = 0 from rfl]; omega)).1 0]
          exact z_
        exact kctb_cd (PJ_.2 j_ hj_ z2_).1 cd_ y_
    refine ⟨⟨fun j_ => ?_, tsa_fr ts_ f_⟩, fun j_ hj_ z_ => ⟨kctb_fr (kt_ j_ hj_ ((e0_ j_).symm.trans z_)) f_, s_ j_ hj_ z_⟩⟩
    rw [e19_]
    have x_ := b19_ j_
    by_cases y_ : j_ = c_
    · rw [y_] at x_ ⊢
      omega
    · rw [s19_ j_ y_]
      omega
  · subst e_
    refine ⟨⟨fun j_ => ?_, tsa_fr PJ_.1.2 f_⟩, fun j_ hj_ z_ => ⟨kctb_fr (PJ_.2 j_ hj_ ((e0_ j_).symm.trans z_)).1 f_, s_ j_ hj_ z_⟩⟩
    rw [e19_]
    have x_ := PJ_.1.1 j_
    omega
theorem pP_alter {n_ : Nat} {a_ : Int} {S_ S1_ S2_ : sm_S} (J_ : jB n_ S_) (q_ : lhq vw_234m S_ S1_) (E_ : eap9 a_.toNat S_ S1_) (f_ : ai_fr (sx_W vw_428n) S1_ S2_) : jP (n_ + 1) S2_ := by
  have PJ_ := J_.2.2.2.2.2.1.2.2.1
  have e19_ : ∀ c_, S2_.1 2 c_ 19 = S1_.1 2 c_ 19 := fun c_ => f_.1 2 c_ 19 rfl
  have e0_ : ∀ c_, S2_.1 2 c_ 0 = S_.1 2 c_ 0 := fun c_ => (f_.1 2 c_ 0 rfl).trans (q_.2.1.1 2 c_ 0 rfl)
  have e5_ : ∀ c_, S2_.1 2 c_ 5 = S_.1 2 c_ 5 := fun c_ => (f_.1 2 c_ 5 rfl).trans (q_.2.1.1 2 c_ 5 rfl)
  have x7_ : S2_.2.2.1 227 0 = S_.2.2.1 227 0 := (fr_arr f_ rfl).trans (fr_arr q_.2.1 rfl)
  rcases E_ with ⟨tf_, st_, cd_⟩ | e_
  · have s19_ : ∀ j_, j_ ≠ a_.toNat → S1_.1 2 j_ 19 = S_.1 2 j_ 19 := fun j_ hj_ => (cd_ 2 rfl j_ (by rw [show cof 2 = 0 from rfl]; omega)).1 19
    refine ⟨⟨fun j_ => ?_, tsa_fr (tsa_of tf_.2.1 tf_.2.2) f_⟩, fun j_ hj_ z_ => ⟨kctb_fr ?_ f_, ?_⟩⟩
    · rw [e19_]
      have x_ := PJ_.1.1 j_
      by_cases y_ : j_ = a_.toNat
      · rw [y_] at x_ ⊢
        omega
      · rw [s19_ j_ y_]
        omega
    · by_cases y_ : j_ = a_.toNat
      · rw [y_]
        exact tf_.1
      · exact kctb_cd (PJ_.2 j_ hj_ ((e0_ j_).symm.trans z_)).1 cd_ y_
    · rw [e5_, x7_]
      exact (PJ_.2 j_ hj_ ((e0_ j_).symm.trans z_)).2
  · subst e_
    refine ⟨⟨fun j_ => ?_, tsa_fr PJ_.1.2 f_⟩, fun j_ hj_ z_ => ⟨kctb_fr (PJ_.2 j_ hj_ ((e0_ j_).symm.trans z_)).1 f_, ?_⟩⟩
    · rw [e19_]
      have x_ := PJ_.1.1 j_
      omega
    · rw [e5_, x7_]
      exact (PJ_.2 j_ hj_ ((e0_ j_).symm.trans z_)).2
theorem pP_drop {n_ : Nat} {a_ b_ v_ : Int} {S_ S1_ S2_ : sm_S} (J_ : jB n_ S_) (q_ : lhq vw_217n S_ S1_) (E_ : ldn a_ b_ S_ S1_ v_) (f_ : ai_fr (sx_W vw_373n) S1_ S2_) : jP n_ S2_ := by
  have PJ_ := J_.2.2.2.2.2.1.2.2.1
  refine jP_dn (jP_dn PJ_ q_.2.1 (fun c_ _ z_ => ?_)) f_ (fun c_ _ z_ => (f_.1 2 c_ 0 rfl).symm.trans z_)
  rcases E_ with ⟨-, -, -, -, e5_⟩ | ⟨-, -, e3_⟩ | ⟨-, -, -, e4_⟩
  · rw [e5_] at z_
    by_cases y_ : a_ = 2 ∧ c_ = b_.toNat
    · rw [if_pos y_] at z_
      exact absurd z_ (by decide)
    · rw [if_neg y_] at z_
      exact z_
  · rw [← e3_]
    exact z_
  · rw [← e4_]
    exact z_
theorem jK_li {n_ m_ : Nat} {v_ : Int} {b_ : Nat → Int} {w_ : sx_Wl} {S_ S1_ S2_ : sm_S} (J_ : jB n_ S_) (q_ : ai_fr (sx_W (wo9 vw_214)) S_ S1_) (E_ : lliv b_ m_ S_ S1_ v_) (f_ : ai_fr (sx_W w_) S1_ S2_) (p_ : jkw w_ = true := by rfl) (a_ : (sx_W w_).1 2 0 = false := by rfl) (c_ : (sx_W w_).2.1 222 = false := by rfl) : jK n_ S2_ := by
  refine ⟨jK0_li J_ q_ E_ f_ (jkq_0 (jkwp_q (jkw_p p_))) a_ c_, ?_, jT_li J_ q_ E_ f_ (jkw_t p_) a_⟩
  have PJ_ := J_.2.2.2.2.2.1.2.2.1
  have il_ : ∀ i_ : Nat, 3 ≤ i_ → i_ < 7 → ∀ t_, t_ < 59 → 55 ≤ t_ → S1_.2.2.1 t_ (0 + i_) = S_.2.2.1 t_ (0 + i_) := fun i_ h1_ h2_ => by
    rcases E_ with ⟨e1_, e2_, e3_, e4_⟩ | ⟨e1_, s_, s1_, s2_, s3_, s0_, s4_⟩
    · exact (e3_ i_ (by omega)).2
    · exact (s0_ i_ (by omega)).2
  have m2_ : ∀ k_, k_ < 9 → (sx_W (wo9 vw_214)).1 2 k_ = false := by decide
  refine jP_dn (S_ := S1_) ⟨⟨fun k_ => by rw [q_.1 2 k_ 19 rfl]; exact PJ_.1.1 k_, tsa_fr PJ_.1.2 q_⟩, fun k_ hk_ z_ => ?_⟩ f_ (fun k_ _ z_ => (f_.1 2 k_ 0 a_).symm.trans z_) (jkw_p p_)
  rw [q_.1 2 k_ 0 rfl] at z_
  have x_ := PJ_.2 k_ hk_ z_
  refine ⟨kctb_eq x_.1 (fun i_ hi_ => q_.1 2 k_ i_ (m2_ i_ hi_)) (fun t_ x1_ x2_ => ?_) (fun t_ x1_ x2_ => il_ (3 + k_) (by omega) (by omega) t_ x1_ x2_), ?_⟩
  · have y_ : t_ = 34 ∨ t_ = 35 ∨ t_ = 36 ∨ t_ = 37 ∨ t_ = 38 := by omega
    rcases y_ with rfl | rfl | rfl | rfl | rfl <;> exact fr_arr q_ rfl
  · rw [q_.1 2 k_ 5 rfl, fr_arr (t := 227) (i := 0) q_ rfl]
    exact x_.2
/-- the states behind run and reset -/
theorem pP_st {w1_ w2_ : sx_Wl} {n_ : Nat} {S_ S1_ S2_ : sm_S} (J_ : jB n_ S_) (g_ : ai_fr (sx_W w1_) S_ S1_) (f_ : ai_fr (sx_W w2_) S1_ S2_) (s_ : jsq S2_) (z1_ : jkw0 w1_ = true := by rfl) (z2_ : jkw0 w2_ = true := by rfl) (a1_ : (sx_W w1_).2.1 34 = false := by rfl) (a2_ : (sx_W w2_).2.1 34 = false := by rfl) (b1_ : (sx_W w1_).1 2 19 = false := by rfl) (b2_ : (sx_W w2_).1 2 19 = false := by rfl) (c1_ : (sx_W w1_).1 2 0 = false := by rfl) (c2_ : (sx_W w2_).1 2 0 = false := by rfl) (d1_ : jtw w1_ = true := by rfl) (d2_ : jtw w2_ = true := by rfl) (u1_ : (sx_W w1_).2.1 222 = false := by rfl) (u2_ : (sx_W w2_).2.1 222 = false := by rfl) (t1_ : jtt w1_ = true := by rfl) (t2_ : jtt w2_ = true := by rfl) : jK n_ S2_ := by
  have PJ_ := J_.2.2.2.2.2.1.2.2.1
  refine ⟨jK0_fr (jK0_fr J_.2.2.2.2.2.1.2.1 g_ z1_ c1_ u1_) f_ z2_ c2_ u2_, ⟨⟨fun c_ => ?_, tsa_fr (tsa_fr PJ_.1.2 g_ (nb9 (Bool.and_eq_true_iff.mp d1_).2) (nb9 (Bool.and_eq_true_iff.mp d1_).1) b1_) f_ (nb9 (Bool.and_eq_true_iff.mp d2_).2) (nb9 (Bool.and_eq_true_iff.mp d2_).1) b2_⟩, fun c_ hc_ z_ => ⟨?_, s_ c_ hc_ z_⟩⟩, jT_dn (jT_dn J_.2.2.2.2.2.1.2.2.2 g_ (fun c_ _ z_ => (g_.1 2 c_ 0 c1_).symm.trans z_) t1_) f_ (fun c_ _ z_ => (f_.1 2 c_ 0 c2_).symm.trans z_) t2_⟩
  · rw [f_.1 2 c_ 19 b2_, g_.1 2 c_ 19 b1_]
    exact PJ_.1.1 c_
  · rw [f_.1 2 c_ 0 c2_, g_.1 2 c_ 0 c1_] at z_
    exact kctb_q (kctb_q (PJ_.2 c_ hc_ z_).1 g_ z1_ a1_) f_ z2_ a2_
set_option maxHeartbeats 2000000 in
theorem k_run {n_ : Nat} {a_ b_ v_ w_ : Int} {S_ S1_ S2_ : sm_S} (J_ : jB n_ S_) (q_ : lhq vw_235t S_ S1_) (r_ : jR S1_) (E_ : (v_ = 0 ∧ okc_run a_ b_ S_ ∧ S1_.2.2.2 295 0 0 = l_i2l (vac_run a_ b_ S_) ∧ (S1_.1 2 a_.toNat 5 = nwc_run a_ b_ S_ ∧ ∀ j_, j_ ≠ a_.toNat → S1_.1 2 j_ 5 = S_.1 2 j_ 5)) ∨ (v_ = 1 ∧ ¬ oka_run a_ b_ S_ ∧ (∀ j_, S1_.1 2 j_ 5 = S_.1 2 j_ 5)) ∨ (v_ = 2 ∧ oka_run a_ b_ S_ ∧ ¬ okc_run a_ b_ S_ ∧ (∀ j_, S1_.1 2 j_ 5 = S_.1 2 j_ 5))) (f_ : ai_fr (sx_W vw_433t) S1_ S2_) (P_ : (S2_.1 13 0 0 = 1 ∧ ¬ ora_run a_ b_ S1_ ∧ (∀ j_, S2_.2.2.1 227 0 j_ = S1_.2.2.1 227 0 j_)) ∨ (S2_.1 13 0 0 = 2 ∧ ora_run a_ b_ S1_ ∧ ¬ okr_run a_ b_ S1_ ∧ (∀ j_, S2_.2.2.1 227 0 j_ = S1_.2.2.1 227 0 j_)) ∨ (S2_.1 13 0 0 = 0 ∧ okr_run a_ b_ S1_ ∧ rruq a_ b_ S1_ w_ (S2_.2.2.1 227 0 a_.toNat) ∧ ∀ j_, j_ ≠ a_.toNat → S2_.2.2.1 227 0 j_ = S1_.2.2.1 227 0 j_)) : S2_.1 13 0 0 = v_ ∧ (v_ = 0 → S1_.2.2.2 295 0 0 = l_i2l w_) ∧ jsq S2_ := by
  have K_ := J_.2.2.2.2.2.1.2.1
  have PJ_ := J_.2.2.2.2.2.1.2.2.1
  have b2_ : S1_.2.2.1 222 0 = S_.2.2.1 222 0 := fr_arr q_.2.1 rfl
  have b3_ : S1_.2.2.1 223 0 = S_.2.2.1 223 0 := fr_arr q_.2.1 rfl
  have b7_ : S1_.2.2.1 227 0 = S_.2.2.1 227 0 := fr_arr q_.2.1 rfl
  have x0_ : ∀ c_, S2_.1 2 c_ 0 = S_.1 2 c_ 0 := fun c_ => (f_.1 2 c_ 0 rfl).trans (q_.2.1.1 2 c_ 0 rfl)
  have x5_ : ∀ c_, S2_.1 2 c_ 5 = S1_.1 2 c_ 5 := fun c_ => f_.1 2 c_ 5 rfl
  have sm_ : (∀ j_, S1_.1 2 j_ 5 = S_.1 2 j_ 5) → (∀ j_, S2_.2.2.1 227 0 j_ = S1_.2.2.1 227 0 j_) → jsq S2_ := fun e1_ e2_ c_ hc_ z_ => by
    rw [x0_] at z_
    rw [x5_, e1_, e2_, b7_]
    exact (PJ_.2 c_ hc_ z_).2
  by_cases h_ : oka_run a_ b_ S_
  · obtain ⟨h1_, h2_, h3_⟩ := id h_
    have q9_ := K_.2.2 a_.toNat (by omega) h3_
    have p9_ := PJ_.2 a_.toNat (by omega) h3_
    have cu_ := p9_.2
    have d1_ := q9_.1.1
    have ea_ : ((a_.toNat : Nat) : Int) = a_ := by omega
    have or_ : ora_run a_ b_ S1_ := ⟨h1_, h2_, by rw [b2_, ← K_.2.1 a_.toNat (by omega)]; exact h3_⟩
    have kr_ : okc_run a_ b_ S_ ↔ okr_run a_ b_ S1_ := by
      unfold okc_run okr_run
      rw [b3_, ← d1_]
      exact ⟨fun z_ => ⟨or_, z_.2⟩, fun z_ => ⟨h_, z_.2⟩⟩
    rcases E_ with ⟨e1_, e2_, e3_, e4_, e5_⟩ | ⟨e1_, e2_, e3_⟩ | ⟨e1_, e2_, e3_, e4_⟩
    · rcases P_ with ⟨p1_, p2_, p3_⟩ | ⟨p1_, p2_, p3_, p4_⟩ | ⟨p1_, p2_, ⟨u_, p3_, p4_, p5_⟩, p6_⟩
      · exact absurd or_ p2_
      · exact absurd (kr_.mp e2_) p3_
      · have ok_ := J_.2.1.2.1 a_.toNat (by omega) h3_
        have c1_ := ok_.1.1
        have c5_ := ok_.2.2.1
        have i9_ := e2_.2
        have g1_ : 0 ≤ S_.1 2 a_.toNat 1 := (J_.1.1 2 a_.toNat 1 rfl).1
        have g2_ : 0 ≤ S_.1 2 a_.toNat 2 := (J_.1.1 2 a_.toNat 2 rfl).1
        have g8_ : 0 ≤ S_.1 2 a_.toNat 8 := (J_.1.1 2 a_.toNat 8 rfl).1
        have g3_ : 0 ≤ S_.1 2 a_.toNat 3 := (J_.1.1 2 a_.toNat 3 rfl).1
        have t9_ := pat_c (s_ := S_.1 2 a_.toNat 5) (i_ := b_) (R_ := (S_.1 2 a_.toNat 2).toNat) (I_ := (S_.1 2 a_.toNat 1).toNat) c5_ i9_ (by omega)
        rw [show (((S_.1 2 a_.toNat 1).toNat : Nat) : Int) = S_.1 2 a_.toNat 1 by omega] at t9_
        have px_ : prunq a_ b_ S1_ = pxr a_ b_ S_ := by
          unfold prunq pxr
          rw [b7_, b3_, ← cu_, ← d1_]
        have lt_ : (pxr a_ b_ S_ : Int) < 2 ^ (S_.1 2 a_.toNat 1 + S_.1 2 a_.toNat 2).toNat := by
          unfold pxr
          rw [show (S_.1 2 a_.toNat 1 + S_.1 2 a_.toNat 2).toNat = (S_.1 2 a_.toNat 2).toNat + (S_.1 2 a_.toNat 1).toNat by omega]
          omega
        have ck_ : chk a_.toNat S_ S1_ := by
          unfold chk
          rw [b3_, fr_arr (t := 224) (i := 0) q_.2.1 rfl, fr_arr (t := 225) (i := 0) q_.2.1 rfl, fr_arr (t := 226) (i := 0) q_.2.1 rfl, fr_arr (t := 228) (i := 0) q_.2.1 rfl, fr_arr (t := 229) (i := 0) q_.2.1 rfl, fr_arr (t := 230) (i := 0) q_.2.1 rfl, fr_arr (t := 231) (i := 0) q_.2.1 rfl, fr_arr (t := 232) (i := 0) q_.2.1 rfl, fr_arr (t := 233) (i := 0) q_.2.1 rfl, fr_arr (t := 234) (i := 0) q_.2.1 rfl, fr_arr (t := 235) (i := 0) q_.2.1 rfl, fr_arr (t := 236) (i := 0) q_.2.1 rfl, fr_arr (t := 237) (i := 0) q_.2.1 rfl]
          exact q9_
        have rk_ := r_.2 a_ h1_ h2_ or_.2.2
        rw [px_] at p3_
        have R_ := run_e (c_ := a_.toNat) (S_ := S_) (R_ := S1_) (u_ := u_) q_.1 ck_ (by rw [ea_]; exact rk_.2.2.2.1) (by rw [ea_]; exact rk_.2.2.2.2.1) ⟨g1_, g2_, g8_, g3_⟩ p9_.1 lt_ (by rw [ea_]; exact p3_)
        rw [ea_] at R_
        refine ⟨p1_.trans e1_.symm, fun _ => ?_, fun c_ hc_ z_ => ?_⟩
        · rw [e3_, p4_]
          unfold vac_run
          rw [R_.1]
        · rw [x0_] at z_
          rw [x5_]
          by_cases y_ : c_ = a_.toNat
          · rw [y_, e4_, p5_]
            unfold nwc_run
            exact R_.2
          · rw [e5_ c_ y_, p6_ c_ y_, b7_]
            exact (PJ_.2 c_ hc_ z_).2
    · exact absurd h_ e2_
    · rcases P_ with ⟨p1_, p2_, p3_⟩ | ⟨p1_, p2_, p3_, p4_⟩ | ⟨p1_, p2_, p3_, p4_⟩
      · exact absurd or_ p2_
      · exact ⟨p1_.trans e1_.symm, fun z_ => absurd (e1_.symm.trans z_) (by decide), sm_ e4_ p4_⟩
      · exact absurd (kr_.mpr p2_) e3_
  · have nr_ : ¬ ora_run a_ b_ S1_ := fun z_ => h_ ⟨z_.1, z_.2.1, by
      have y_ := z_.2.2
      rw [b2_] at y_
      exact (K_.2.1 a_.toNat (by have x1_ := z_.1; have x2_ := z_.2.1; omega)).trans y_⟩
    rcases E_ with ⟨e1_, e2_, -⟩ | ⟨e1_, e2_, e3_⟩ | ⟨e1_, e2_, -⟩
    · exact absurd e2_.1 h_
    · rcases P_ with ⟨p1_, p2_, p3_⟩ | ⟨p1_, p2_, -⟩ | ⟨p1_, p2_, -⟩
      · exact ⟨p1_.trans e1_.symm, fun z_ => absurd (e1_.symm.trans z_) (by decide), sm_ e3_ p3_⟩
      · exact absurd p2_ nr_
      · exact absurd p2_.1 nr_
    · exact absurd e2_ h_
theorem k_reset {n_ : Nat} {a_ v_ w_ : Int} {S_ S1_ S2_ : sm_S} (J_ : jB n_ S_) (q_ : lhq vw_236t S_ S1_) (r_ : jR S1_) (E_ : (v_ = 0 ∧ okc_reset a_ S_ ∧ S1_.2.2.2 295 0 0 = l_i2l (vac_reset a_ S_) ∧ (S1_.1 2 a_.toNat 5 = nwc_reset a_ S_ ∧ ∀ j_, j_ ≠ a_.toNat → S1_.1 2 j_ 5 = S_.1 2 j_ 5)) ∨ (v_ = 1 ∧ ¬ okc_reset a_ S_ ∧ (∀ j_, S1_.1 2 j_ 5 = S_.1 2 j_ 5))) (f_ : ai_fr (sx_W vw_434t) S1_ S2_) (P_ : (S2_.1 13 0 0 = 1 ∧ ¬ okr_reset a_ S1_ ∧ (∀ j_, S2_.2.2.1 227 0 j_ = S1_.2.2.1 227 0 j_)) ∨ (S2_.1 13 0 0 = 0 ∧ okr_reset a_ S1_ ∧ w_ = S1_.2.2.1 227 0 a_.toNat ∧ (S2_.2.2.1 227 0 a_.toNat = S1_.2.2.1 226 0 a_.toNat ∧ ∀ j_, j_ ≠ a_.toNat → S2_.2.2.1 227 0 j_ = S1_.2.2.1 227 0 j_))) : S2_.1 13 0 0 = v_ ∧ (v_ = 0 → S1_.2.2.2 295 0 0 = l_i2l w_) ∧ jsq S2_ := by
  have K_ := J_.2.2.2.2.2.1.2.1
  have PJ_ := J_.2.2.2.2.2.1.2.2.1
  have b2_ : S1_.2.2.1 222 0 = S_.2.2.1 222 0 := fr_arr q_.2.1 rfl
  have b6_ : S1_.2.2.1 226 0 = S_.2.2.1 226 0 := fr_arr q_.2.1 rfl
  have b7_ : S1_.2.2.1 227 0 = S_.2.2.1 227 0 := fr_arr q_.2.1 rfl
  have x0_ : ∀ c_, S2_.1 2 c_ 0 = S_.1 2 c_ 0 := fun c_ => (f_.1 2 c_ 0 rfl).trans (q_.2.1.1 2 c_ 0 rfl)
  have x5_ : ∀ c_, S2_.1 2 c_ 5 = S1_.1 2 c_ 5 := fun c_ => f_.1 2 c_ 5 rfl
  have iff_ : okc_reset a_ S_ ↔ okr_reset a_ S1_ := by
    unfold okc_reset okr_reset
    rw [b2_]
    constructor
    · rintro ⟨h1_, h2_, h3_⟩
      exact ⟨h1_, h2_, by rw [← K_.2.1 a_.toNat (by omega)]; exact h3_⟩
    · rintro ⟨h1_, h2_, h3_⟩
      exact ⟨h1_, h2_, (K_.2.1 a_.toNat (by omega)).trans h3_⟩
  rcases E_ with ⟨e1_, e2_, e3_, e4_, e5_⟩ | ⟨e1_, e2_, e3_⟩
  · rcases P_ with ⟨p1_, p2_, p3_⟩ | ⟨p1_, p2_, p3_, p4_, p5_⟩
    · exact absurd (iff_.mp e2_) p2_
    · obtain ⟨h1_, h2_, h3_⟩ := id e2_
      have q9_ := K_.2.2 a_.toNat (by omega) h3_
      have p9_ := PJ_.2 a_.toNat (by omega) h3_
      refine ⟨p1_.trans e1_.symm, fun _ => ?_, fun c_ hc_ z_ => ?_⟩
      · rw [e3_, p3_, b7_]
        unfold vac_reset
        rw [p9_.2]
      · rw [x0_] at z_
        rw [x5_]
        by_cases y_ : c_ = a_.toNat
        · rw [y_, e4_, p4_, b6_]
          exact q9_.1.2.2.2.1
        · rw [e5_ c_ y_, p5_ c_ y_, b7_]
          exact (PJ_.2 c_ hc_ z_).2
  · rcases P_ with ⟨p1_, p2_, p3_⟩ | ⟨p1_, p2_, -⟩
    · refine ⟨p1_.trans e1_.symm, fun z_ => absurd (e1_.symm.trans z_) (by decide), fun c_ hc_ z_ => ?_⟩
      rw [x0_] at z_
      rw [x5_, e3_, p3_, b7_]
      exact (PJ_.2 c_ hc_ z_).2
    · exact absurd (iff_.mpr p2_) e2_
theorem lh_557k {sc_ : Nat × (Nat → Int)} (kk_ : Int) (ip_ : Int) (S0_ : sm_S) (hI_ : gi S0_) (hJ_ : jC S0_) : sm_T (mt_P sc_) 3 557 (0, [some (.inr (.inr (some (12, 0)))), some (.inl kk_), some (.inl ip_), some (.inr (.inr (some (295, 0)))), none], [], S0_) (fun r_ => ∃ v_ S1_ k8_, r_ = (.inl (some (.inl v_)), S1_, k8_) ∧ k8_ ≤ 2 ∧ lhq vw_235t S0_ S1_ ∧ ((v_ = 0 ∧ okc_run kk_ ip_ S0_ ∧ S1_.2.2.2 295 0 0 = l_i2l (vac_run kk_ ip_ S0_) ∧ (S1_.1 2 kk_.toNat 5 = nwc_run kk_ ip_ S0_ ∧ ∀ j_, j_ ≠ kk_.toNat → S1_.1 2 j_ 5 = S0_.1 2 j_ 5)) ∨ (v_ = 1 ∧ ¬ oka_run kk_ ip_ S0_ ∧ (∀ j_, S1_.1 2 j_ 5 = S0_.1 2 j_ 5)) ∨ (v_ = 2 ∧ oka_run kk_ ip_ S0_ ∧ ¬ okc_run kk_ ip_ S0_ ∧ (∀ j_, S1_.1 2 j_ 5 = S0_.1 2 j_ 5)))) := by
  refine sm_T_go 5 (c1 := (5, [some (.inr (.inr (some (12, 0)))), some (.inl kk_), some (.inl ip_), some (.inr (.inr (some (295, 0)))), none], [.inl ip_, .inl kk_, .inr (.inr (some (12, 0))), .inl 0, .inr (.inr (some (295, 0)))], S0_)) rfl ?_
  refine sm_T_call rfl rfl (vc_235t kk_ ip_ S0_ hI_ hJ_) (fun u_ S1_ k1_ qz9_ => ?_) (fun ex_ S1_ k1_ qz9_ => ?_)
  · rcases qz9_ with ⟨u2_, S2_, ez9_, qz9_⟩ | ⟨ex2_, S2_, ez9_, mz9_, qz9_⟩
    · cases ez9_
      obtain ⟨v_, rfl, iz9_, fz9_, n9_, q1_, q2_, d9_⟩ := qz9_
      have jz9_ := d9_
      refine sm_T_go 4 (c1 := (22, [some (.inr (.inr (some (12, 0)))), some (.inl kk_), some (.inl ip_), some (.inr (.inr (some (295, 0)))), none], [.inl 0], _)) rfl ?_
      exact sm_T_ri rfl ⟨_, _, _, rfl, Nat.le_of_ble_eq_true rfl, lhq_o iz9_ fz9_ jz9_ rfl rfl, Or.inl ⟨rfl, q1_, (rd_ll.trans (if_pos ⟨rfl, rfl, rfl⟩)).trans (congrArg l_i2l q2_), n9_⟩⟩
    · cases ez9_
  · rcases qz9_ with ⟨u2_, S2_, ez9_, qz9_⟩ | ⟨ex2_, S2_, ez9_, mz9_, qz9_⟩
    · cases ez9_
    · cases ez9_
      obtain ⟨iz9_, fz9_, rfl, q1_⟩ := qz9_
      simp only [List.mem_cons, List.not_mem_nil, or_false] at mz9_
      rcases mz9_ with rfl | rfl
      · refine ⟨_, _, _, _, _, rfl, Nat.le_of_ble_eq_true rfl, ?_⟩
        refine sm_T_go 1 (c1 := (_, _, [.inl _], _)) rfl ?_
        exact sm_T_ri rfl ⟨_, _, _, rfl, Nat.le_of_ble_eq_true rfl, lhq_x iz9_ fz9_ hJ_ rfl, Or.inr (Or.inl ⟨rfl, (q1_.resolve_right (fun z_ => absurd z_.1 (by decide))).2, fun _ => rfl⟩)⟩
      · refine ⟨_, _, _, _, _, rfl, Nat.le_of_ble_eq_true rfl, ?_⟩
        refine sm_T_go 1 (c1 := (_, _, [.inl _], _)) rfl ?_
        exact sm_T_ri rfl ⟨_, _, _, rfl, Nat.le_of_ble_eq_true rfl, lhq_x iz9_ fz9_ hJ_ rfl, Or.inr (Or.inr ⟨rfl, (q1_.resolve_left (fun z_ => absurd z_.1 (by decide))).2.1, (q1_.resolve_left (fun z_ => absurd z_.1 (by decide))).2.2, fun _ => rfl⟩)⟩
theorem lh_558k {sc_ : Nat × (Nat → Int)} (kk_ : Int) (S0_ : sm_S) (hI_ : gi S0_) (hJ_ : jC S0_) : sm_T (mt_P sc_) 3 558 (0, [some (.inr (.inr (some (12, 0)))), some (.inl kk_), some (.inr (.inr (some (295, 0)))), none], [], S0_) (fun r_ => ∃ v_ S1_ k8_, r_ = (.inl (some (.inl v_)), S1_, k8_) ∧ k8_ ≤ 2 ∧ lhq vw_236t S0_ S1_ ∧ ((v_ = 0 ∧ okc_reset kk_ S0_ ∧ S1_.2.2.2 295 0 0 = l_i2l (vac_reset kk_ S0_) ∧ (S1_.1 2 kk_.toNat 5 = nwc_reset kk_ S0_ ∧ ∀ j_, j_ ≠ kk_.toNat → S1_.1 2 j_ 5 = S0_.1 2 j_ 5)) ∨ (v_ = 1 ∧ ¬ okc_reset kk_ S0_ ∧ (∀ j_, S1_.1 2 j_ 5 = S0_.1 2 j_ 5)))) := by
  refine sm_T_go 4 (c1 := (4, [some (.inr (.inr (some (12, 0)))), some (.inl kk_), some (.inr (.inr (some (295, 0)))), none], [.inl kk_, .inr (.inr (some (12, 0))), .inl 0, .inr (.inr (some (295, 0)))], S0_)) rfl ?_
  refine sm_T_call rfl rfl (vc_236t kk_ S0_ hI_ hJ_) (fun u_ S1_ k1_ qz9_ => ?_) (fun ex_ S1_ k1_ qz9_ => ?_)
  · rcases qz9_ with ⟨u2_, S2_, ez9_, qz9_⟩ | ⟨ex2_, S2_, ez9_, mz9_, qz9_⟩
    · cases ez9_
      obtain ⟨v_, rfl, iz9_, fz9_, n9_, q1_, q2_, d9_⟩ := qz9_
      have jz9_ := d9_
      refine sm_T_go 4 (c1 := (16, [some (.inr (.inr (some (12, 0)))), some (.inl kk_), some (.inr (.inr (some (295, 0)))), none], [.inl 0], _)) rfl ?_
      exact sm_T_ri rfl ⟨_, _, _, rfl, Nat.le_of_ble_eq_true rfl, lhq_o iz9_ fz9_ jz9_ rfl rfl, Or.inl ⟨rfl, q1_, (rd_ll.trans (if_pos ⟨rfl, rfl, rfl⟩)).trans (congrArg l_i2l q2_), n9_⟩⟩
    · cases ez9_
  · rcases qz9_ with ⟨u2_, S2_, ez9_, qz9_⟩ | ⟨ex2_, S2_, ez9_, mz9_, qz9_⟩
    · cases ez9_
    · cases ez9_
      obtain ⟨iz9_, fz9_, rfl, q1_⟩ := qz9_
      simp only [List.mem_cons, List.not_mem_nil, or_false] at mz9_
      subst mz9_
      refine ⟨_, _, _, _, _, rfl, Nat.le_of_ble_eq_true rfl, ?_⟩
      refine sm_T_go 1 (c1 := (_, _, [.inl _], _)) rfl ?_
      exact sm_T_ri rfl ⟨_, _, _, rfl, Nat.le_of_ble_eq_true rfl, lhq_x iz9_ fz9_ hJ_ rfl, Or.inr ⟨rfl, q1_, fun _ => rfl⟩⟩
theorem jX_run {n_ : Nat} {S_ S1_ S2_ : sm_S} (h_ : jB n_ S_) (q_ : lhq vw_235t S_ S1_) (i_ : gi S2_) (f_ : ai_fr (sx_W vw_433t) S1_ S2_) (r_ : jR S2_) (K_ : jK n_ S2_) : jB n_ S2_ := by
  obtain ⟨a1_, a2_, a3_, a4_, a5_, a6_, a7_, a8_, a9_⟩ := h_
  obtain ⟨i1_, f1_, j1_⟩ := q_
  refine ⟨i_, jC_fr j1_ f_ (by decide) (by decide) (by decide) (by decide) (by decide) rfl rfl rfl rfl rfl rfl, r_, ?_, ?_, ⟨?_, K_⟩, fun k_ hk_ => ?_, fun k_ hk_ => ?_, jG_fr (jG_fr a9_ f1_) f_⟩
  · rw [fr_arr (t := 98) (i := 0) f_ rfl, fr_arr (t := 98) (i := 0) f1_ rfl, fr_arr (t := 118) (i := 0) f_ rfl, fr_arr (t := 118) (i := 0) f1_ rfl]; exact a4_
  · rw [f_.1 10 0 1 rfl, f1_.1 10 0 1 rfl, f_.1 13 0 2 rfl, f1_.1 13 0 2 rfl]; exact a5_
  · rw [f_.1 10 0 1 rfl, f1_.1 10 0 1 rfl]
    exact a6_.1
  · rw [f_.1 3 k_ 0 rfl, f1_.1 3 k_ 0 rfl, fr_arr (t := 153) (i := 0) f_ rfl, fr_arr (t := 153) (i := 0) f1_ rfl]; exact a7_ k_ hk_
  · rw [f_.1 5 k_ 0 rfl, f1_.1 5 k_ 0 rfl, fr_arr (t := 183) (i := 0) f_ rfl, fr_arr (t := 183) (i := 0) f1_ rfl]; exact a8_ k_ hk_
theorem jX_reset {n_ : Nat} {S_ S1_ S2_ : sm_S} (h_ : jB n_ S_) (q_ : lhq vw_236t S_ S1_) (i_ : gi S2_) (f_ : ai_fr (sx_W vw_434t) S1_ S2_) (r_ : jR S2_) (K_ : jK n_ S2_) : jB n_ S2_ := by
  obtain ⟨a1_, a2_, a3_, a4_, a5_, a6_, a7_, a8_, a9_⟩ := h_
  obtain ⟨i1_, f1_, j1_⟩ := q_
  refine ⟨i_, jC_fr j1_ f_ (by decide) (by decide) (by decide) (by decide) (by decide) rfl rfl rfl rfl rfl rfl, r_, ?_, ?_, ⟨?_, K_⟩, fun k_ hk_ => ?_, fun k_ hk_ => ?_, jG_fr (jG_fr a9_ f1_) f_⟩
  · rw [fr_arr (t := 98) (i := 0) f_ rfl, fr_arr (t := 98) (i := 0) f1_ rfl, fr_arr (t := 118) (i := 0) f_ rfl, fr_arr (t := 118) (i := 0) f1_ rfl]; exact a4_
  · rw [f_.1 10 0 1 rfl, f1_.1 10 0 1 rfl, f_.1 13 0 2 rfl, f1_.1 13 0 2 rfl]; exact a5_
  · rw [f_.1 10 0 1 rfl, f1_.1 10 0 1 rfl]
    exact a6_.1
  · rw [f_.1 3 k_ 0 rfl, f1_.1 3 k_ 0 rfl, fr_arr (t := 153) (i := 0) f_ rfl, fr_arr (t := 153) (i := 0) f1_ rfl]; exact a7_ k_ hk_
  · rw [f_.1 5 k_ 0 rfl, f1_.1 5 k_ 0 rfl, fr_arr (t := 183) (i := 0) f_ rfl, fr_arr (t := 183) (i := 0) f1_ rfl]; exact a8_ k_ hk_
