/-! map and drop: both sides together; written by wip/ids/lawgen.py -/
theorem rfv_g {S_ : sm_S} {l_ K_ : Nat} {L_ : pL} {a_ : Int} (h_ : lcr l_ K_ L_ S_) (ha_ : a_ = (l_ : Int)) : ∀ k_ : Nat, k_ ≤ K_ → rfv S_.2.2.1 a_ k_ = fiv L_ k_
  | 0, _ => rfl
  | k_ + 1, hk_ => by
    have ih_ := rfv_g h_ ha_ k_ (by omega)
    have b_ := fiv_b (L_ := L_) k_
    have q_ := h_.2 k_ (by omega)
    rw [rfv_s, fiv_s, ih_, show (12 * a_ + (k_ : Int)).toNat = 12 * l_ + k_ by omega, q_.1, q_.2.1, q_.2.2.1]
    by_cases c_ : fiv L_ k_ = -1
    · simp only [c_, true_or]
    · have m_ := (h_.2 (fiv L_ k_).toNat (by omega)).2.2.1
      rw [show (12 * a_ + fiv L_ k_).toNat = 12 * l_ + (fiv L_ k_).toNat by omega, m_]
/-- the swept graph, for the class and for the reference -/
theorem dsw_c {n_ : Nat} {a_ : Int} {S_ : sm_S} (J_ : jB n_ S_) : imq (0 ≤ a_ ∧ a_ < 6 ∧ S_.1 3 a_.toNat 0 = 1) (swd (1 + S_.1 3 a_.toNat 1 + S_.1 3 a_.toNat 2).toNat (S_.1 3 a_.toNat 4).toNat (S_.2.2.1 42 (0 + a_.toNat)) (S_.2.2.1 43 (0 + a_.toNat)) (S_.2.2.1 44 (0 + a_.toNat))) := fun h_ => (J_.2.2.2.2.2.2.2.2.2.1 a_.toNat (by omega) h_.2.2).2.2.1.2
theorem dsw_d {a_ : Int} {S_ : sm_S} (h0_ : 0 ≤ a_) (h_ : dge a_.toNat S_) : swd (S_.2.2.1 160 0 a_.toNat).toNat (S_.2.2.1 159 0 a_.toNat).toNat (mql a_ S_) (mqh a_ S_) (mqs a_ S_) := by
  obtain ⟨⟨⟨d1_, d2_, d3_, d4_, d5_⟩, d6_⟩, -, ⟨w_, s_⟩, -⟩ := h_
  unfold dsv at s_
  rw [← d5_, d4_] at s_
  exact swd_ce (fun n_ x_ y_ => by
    have q_ := d6_ n_ (by omega) (by omega)
    exact ⟨q_.1.symm, q_.2.symm⟩) (fun m_ y_ => (w_ m_ (by omega)).symm) s_
theorem dsw_r {n_ : Nat} {a_ : Int} {S_ S1_ : sm_S} (J_ : jB n_ S_) (G_ : jG S1_) (q_ : lhq vw_230m S_ S1_) : imq (0 ≤ a_ ∧ a_ < 6 ∧ S1_.2.2.1 153 0 a_.toNat = 1) (swd (S1_.2.2.1 160 0 a_.toNat).toNat (S1_.2.2.1 159 0 a_.toNat).toNat (mql a_ S1_) (mqh a_ S1_) (mqs a_ S1_)) := fun h_ => by
  have u_ : S1_.1 3 a_.toNat 0 = 1 := by
    rw [q_.2.1.1 3 a_.toNat 0 rfl, J_.2.2.2.2.2.2.1 a_.toNat (by omega)]
    have z_ := h_.2.2
    rw [fr_arr (t := 153) (i := 0) q_.2.1 rfl] at z_
    exact z_
  exact dsw_d h_.1 (G_.2.1 a_.toNat (by omega) u_)
theorem mp_rd {n_ : Nat} {S_ S1_ : sm_S} (K_ : jK0 n_ S_) (q_ : lhq vw_230m S_ S1_) : (0 ≤ S1_.1 13 0 127 ∧ S1_.1 13 0 127 ≤ 65000 * (n_ : Int)) ∧ ∀ x_ : Nat, -(S1_.1 13 0 127) ≤ S1_.2.2.1 213 0 x_ ∧ S1_.2.2.1 213 0 x_ ≤ S1_.1 13 0 127 := by
  rw [q_.2.1.1 13 0 127 rfl, fr_arr (t := 213) (i := 0) q_.2.1 rfl]
  exact K_.1
/-- designs alike, from one state -/
theorem dlk_of {a_ : Int} {F_ : Nat} {S_ R_ : sm_S} {w_ : sx_Wl} (h0_ : 0 ≤ a_ ∧ a_ < 6) (hj_ : jC S_) (hu_ : S_.1 3 a_.toNat 0 = 1) (h_ : dge a_.toNat R_) (f_ : ai_fr (sx_W w_) S_ R_) (eF_ : (F_ : Int) = 1 + S_.1 3 a_.toNat 1 + S_.1 3 a_.toNat 2) (p1_ : (sx_W w_).1 3 1 = false := by rfl) (p2_ : (sx_W w_).1 3 2 = false := by rfl) (p3_ : (sx_W w_).1 3 3 = false := by rfl) (p4_ : (sx_W w_).1 3 4 = false := by rfl) (b2_ : (sx_W w_).2.1 42 = false := by rfl) (b3_ : (sx_W w_).2.1 43 = false := by rfl) (b4_ : (sx_W w_).2.1 44 = false := by rfl) (b5_ : (sx_W w_).2.1 45 = false := by rfl) (b6_ : (sx_W w_).2.1 46 = false := by rfl) : dlk a_.toNat F_ (R_.2.2.1 159 0 a_.toNat) S_ R_ := by
  obtain ⟨⟨⟨d1_, d2_, d3_, d4_, d5_⟩, d6_⟩, ⟨⟨o9_, o8_⟩, o1_, o2_, o3_⟩, ⟨w9_, s_⟩, -⟩ := h_
  obtain ⟨F9_, hg_, hr_, hs_, -⟩ := hj_.1 a_.toNat (by omega) hu_
  unfold dgw0 at w9_
  rw [f_.1 3 a_.toNat 1 p1_] at d1_ d5_
  rw [f_.1 3 a_.toNat 2 p2_] at d2_ d5_ o8_ o3_
  rw [f_.1 3 a_.toNat 3 p3_] at d3_ o9_ o2_
  rw [f_.1 3 a_.toNat 4 p4_] at d4_ d6_ w9_
  rw [fr_arr (t := 42) (i := 0 + a_.toNat) f_ b2_, fr_arr (t := 43) (i := 0 + a_.toNat) f_ b3_] at d6_
  rw [fr_arr (t := 44) (i := 0 + a_.toNat) f_ b4_] at w9_
  rw [fr_arr (t := 45) (i := 0 + a_.toNat) f_ b5_] at o2_
  rw [fr_arr (t := 46) (i := 0 + a_.toNat) f_ b6_] at o3_
  have g1_ := hg_.1.1
  have g2_ := hg_.1.2.1
  have g3_ := hg_.2.1
  have r1_ := hr_.1
  have e9_ : F9_ = F_ := by omega
  subst e9_
  have ea_ : ((a_.toNat : Nat) : Int) = a_ := by omega
  have K_ : (S_.1 3 a_.toNat 3 + S_.1 3 a_.toNat 2).toNat = mqk ((a_.toNat : Nat) : Int) R_ := by
    unfold mqk
    rw [Int.toNat_natCast, ← d3_, ← d2_]
    omega
  refine ⟨⟨d4_, by omega, by omega, by omega⟩, fun n_ x_ y_ => hg_.2.2 n_ x_ (by omega), fun m_ y_ => hs_.2 m_ (by omega), fun n_ x_ y_ => ?_, fun m_ y_ => ?_, K_, fun k_ hk_ => ?_⟩
  · have q_ := d6_ n_ (by omega) (by omega)
    unfold mql mqh
    rw [Int.toNat_natCast]
    exact ⟨q_.1.symm, q_.2.symm⟩
  · unfold mqs
    rw [Int.toNat_natCast]
    exact (w9_ m_ (by omega)).symm
  · rw [← K_] at hk_
    unfold mqr rto rtv
    rw [Int.toNat_natCast, ← d3_]
    by_cases c_ : k_ < (S_.1 3 a_.toNat 3).toNat
    · rw [if_pos c_, if_pos (by omega), Int.toNat_natCast]
      have b_ := hr_.2.1 k_ (by omega)
      exact ⟨(o2_ k_ (by omega)).symm, b_.1, by omega⟩
    · rw [if_neg c_, if_neg (by omega), show ((k_ : Int) - S_.1 3 a_.toNat 3).toNat = k_ - (S_.1 3 a_.toNat 3).toNat by omega]
      have b_ := hr_.2.2 (k_ - (S_.1 3 a_.toNat 3).toNat) (by omega)
      exact ⟨(o3_ (k_ - (S_.1 3 a_.toNat 3).toNat) (by omega)).symm, b_.1, by omega⟩
/-- libraries alike, from one state -/
theorem llk_of {l_ : Nat} {S_ R_ : sm_S} {w_ : sx_Wl} (h_ : lge l_ R_) (hI_ : gi R_) (f_ : ai_fr (sx_W w_) S_ R_) (e6_ : R_.1 13 0 106 = (l_ : Int)) (e7_ : R_.1 13 0 107 = rfv R_.2.2.1 (l_ : Int) (R_.2.2.1 184 0 l_).toNat) (e8_ : R_.1 13 0 108 = if R_.1 13 0 107 = -1 then 1000000000 else R_.2.2.1 187 0 (12 * (l_ : Int) + R_.1 13 0 107).toNat) (p1_ : (sx_W w_).1 5 1 = false := by rfl) (p2_ : (sx_W w_).1 5 2 = false := by rfl) (b5_ : (sx_W w_).2.1 55 = false := by rfl) (b6_ : (sx_W w_).2.1 56 = false := by rfl) (b7_ : (sx_W w_).2.1 57 = false := by rfl) (b8_ : (sx_W w_).2.1 58 = false := by rfl) : llk l_ S_ R_ ∧ (∀ cell_ : Nat, (cell_ : Int) < S_.1 5 l_ 1 → S_.2.2.1 58 (0 + l_) cell_ = R_.2.2.1 188 0 (12 * R_.1 13 0 106 + (cell_ : Int)).toNat) ∧ R_.1 13 0 107 < S_.1 5 l_ 1 := by
  obtain ⟨K_, L_, k_, ⟨p_, pp_⟩, iv_, ⟨r_, rr_⟩⟩ := h_
  rw [f_.1 5 l_ 1 p1_] at p_
  rw [f_.1 5 l_ 2 p2_] at iv_
  rw [fr_arr (t := 55) (i := 0 + l_) f_ b5_, fr_arr (t := 56) (i := 0 + l_) f_ b6_, fr_arr (t := 57) (i := 0 + l_) f_ b7_, fr_arr (t := 58) (i := 0 + l_) f_ b8_] at pp_
  have v7_ : R_.1 13 0 107 = fiv L_ K_ := by
    rw [e7_, r_, Int.toNat_natCast]
    exact rfv_g ⟨r_, rr_⟩ rfl K_ (Nat.le_refl _)
  have fb_ := fiv_b (L_ := L_) K_
  have ix_ : ∀ cell_ : Nat, (12 * R_.1 13 0 106 + (cell_ : Int)).toNat = 12 * l_ + cell_ := fun cell_ => by
    rw [e6_]
    omega
  have cb_ : ∀ cell_ : Nat, cell_ < K_ → 0 ≤ S_.2.2.1 57 (0 + l_) cell_ ∧ S_.2.2.1 57 (0 + l_) cell_ ≤ 1000 := fun cell_ hc_ => by
    rw [(pp_ cell_ hc_).2.2.1, ← (rr_ cell_ hc_).2.2.1]
    exact hI_.2 187 0 _
  refine ⟨⟨⟨?_, by omega, by omega⟩, fun cell_ hc_ => ?_, iv_.trans v7_.symm, ?_, ?_⟩, fun cell_ hc_ => ?_, by omega⟩
  · rw [e6_, Int.toNat_natCast, p_, r_]
  · have a_ := pp_ cell_ (by omega)
    have b_ := rr_ cell_ (by omega)
    have c_ := cb_ cell_ (by omega)
    rw [ix_, a_.1, a_.2.1, b_.1, b_.2.1, b_.2.2.1]
    refine ⟨rfl, rfl, a_.2.2.1, c_.1, c_.2⟩
  · by_cases c_ : S_.1 5 l_ 2 = -1
    · exact Or.inl ⟨c_, by rw [e8_, if_pos (by omega)]⟩
    · have q_ : fiv L_ K_ ≠ -1 := by omega
      have a_ := pp_ (fiv L_ K_).toNat (by omega)
      have b_ := rr_ (fiv L_ K_).toNat (by omega)
      have d_ := cb_ (fiv L_ K_).toNat (by omega)
      have e_ : R_.1 13 0 108 = S_.2.2.1 57 (0 + l_) (S_.1 5 l_ 2).toNat := by
        rw [e8_, if_neg (by omega), v7_, iv_, show (12 * (l_ : Int) + fiv L_ K_).toNat = 12 * l_ + (fiv L_ K_).toNat by omega, b_.2.2.1, a_.2.2.1]
      refine Or.inr ⟨c_, e_.symm, ?_, ?_⟩
      · rw [e_, iv_]
        exact d_.1
      · rw [e_, iv_]
        exact d_.2
  · have z_ := rfv_b (A_ := R_.2.2.1) (a_ := (l_ : Int)) (R_.2.2.1 184 0 l_).toNat
    rw [← e7_] at z_
    rcases z_ with z_ | z_
    · exact Or.inl z_
    · refine Or.inr ⟨z_.1, ?_⟩
      rw [e6_]
      exact z_.2.2
  · rw [ix_, (pp_ cell_ (by omega)).2.2.2, (rr_ cell_ (by omega)).2.2.2]
set_option maxHeartbeats 2000000 in
theorem k_map {n_ : Nat} {a_ b_ v_ w_ : Int} {S_ S1_ S2_ : sm_S} (J_ : jB n_ S_) (q_ : lhq vw_230m S_ S1_) (l9_ : lbs S_ S1_) (E_ : emc a_ b_ S_ S1_ v_) (i_ : gi S2_) (f_ : ai_fr (sx_W vw_419n) S1_ S2_) (G_ : jG S2_) (rd_ : (0 ≤ S2_.1 13 0 127 ∧ S2_.1 13 0 127 ≤ S1_.1 13 0 127 + 65000) ∧ ∀ x_ : Nat, -(S2_.1 13 0 127) ≤ S2_.2.2.1 213 0 x_ ∧ S2_.2.2.1 213 0 x_ ≤ S2_.1 13 0 127) (P_ : (S2_.1 13 0 0 = 1 ∧ S2_.2.2.1 = S1_.2.2.1 ∧ ¬ ora_map a_ b_ S1_) ∨ (S2_.1 13 0 0 = 2 ∧ S2_.2.2.1 = S1_.2.2.1 ∧ ora_map a_ b_ S1_ ∧ ¬ ∃ c_ : Int, frr c_ S1_) ∨ (S2_.1 13 0 0 = 0 ∧ ∃ c_ : Int, (ora_map a_ b_ S1_ ∧ frr c_ S1_) ∧ mpr (S1_.2.2.1 160 0 a_.toNat) (S1_.2.2.1 159 0 a_.toNat) a_ b_ c_ S1_ S2_ w_)) : S2_.1 13 0 0 = v_ ∧ (v_ = 0 → S1_.2.2.2 295 0 0 = l_i2l w_) ∧ jK0 (n_ + 1) S2_ ∧ jsq S2_ := by
  have K_ := J_.2.2.2.2.2.1.2.1
  have PJ_ := J_.2.2.2.2.2.1.2.2.1
  have a7_ := J_.2.2.2.2.2.2.1
  have a8_ := J_.2.2.2.2.2.2.2.1
  have x3_ : S1_.2.2.1 153 0 = S_.2.2.1 153 0 := fr_arr q_.2.1 rfl
  have x8_ : S1_.2.2.1 183 0 = S_.2.2.1 183 0 := fr_arr q_.2.1 rfl
  have x2_ : S1_.2.2.1 222 0 = S_.2.2.1 222 0 := fr_arr q_.2.1 rfl
  have m2_ : ∀ k_, k_ < 9 → (sx_W vw_419n).1 2 k_ = false := by decide
  have c2_ : ∀ j_ k_, k_ < 9 → S2_.1 2 j_ k_ = S1_.1 2 j_ k_ := fun j_ k_ hk_ => f_.1 2 j_ k_ (m2_ k_ hk_)
  have kr_ : jkr (n_ + 1) S2_ := by
    have z_ := q_.2.1.1 13 0 127 rfl
    have y_ := K_.1.1
    exact ⟨⟨rd_.1.1, by omega⟩, rd_.2⟩
  have okk_ : oka_map a_ b_ S_ ↔ ora_map a_ b_ S1_ := by
    unfold oka_map ora_map
    rw [x3_, x8_]
    constructor
    · rintro ⟨⟨h1_, h2_, h3_⟩, h4_, h5_, h6_⟩
      exact ⟨⟨h1_, h2_, by rw [← a7_ a_.toNat (by omega)]; exact h3_⟩, h4_, h5_, by rw [← a8_ b_.toNat (by omega)]; exact h6_⟩
    · rintro ⟨⟨h1_, h2_, h3_⟩, h4_, h5_, h6_⟩
      exact ⟨⟨h1_, h2_, (a7_ a_.toNat (by omega)).trans h3_⟩, h4_, h5_, (a8_ b_.toNat (by omega)).trans h6_⟩
  have sm_ : S1_ = S_ → S2_.2.2.1 = S1_.2.2.1 → jK0 (n_ + 1) S2_ ∧ jsq S2_ := fun e1_ e2_ => by
    have e3_ : S2_.2.2.1 = S_.2.2.1 := by rw [e2_, e1_]
    have e4_ : ∀ c_ k_, k_ < 9 → S2_.1 2 c_ k_ = S_.1 2 c_ k_ := fun c_ k_ hk_ => by
      rw [← e1_]
      exact c2_ c_ k_ hk_
    refine ⟨⟨kr_, fun c_ hc_ => by rw [e4_ c_ 0 (by decide), e3_]; exact K_.2.1 c_ hc_, fun c_ hc_ z_ => ?_⟩, fun c_ hc_ z_ => by (rw [e4_ c_ 0 (by decide)] at z_; rw [e4_ c_ 5 (by decide), e3_]; exact (PJ_.2 c_ hc_ z_).2)⟩
    rw [e4_ c_ 0 (by decide)] at z_
    exact chq_eq (K_.2.2 c_ hc_ z_) (e4_ c_) (by rw [f_.1 5 (3 + c_) 1 rfl, e1_]) (fun t_ _ _ => by rw [e3_]) (fun t_ _ _ => by rw [e3_]) J_.1 (fun t_ _ j_ _ _ => by rw [e3_])
  have fcu_ : ∀ (c_ : Nat) (c'_ : Int), fch c_ S_ → frr c'_ S1_ → c'_ = (c_ : Int) := fun c_ c'_ h_ g_ => by
    have g1_ := g_.1
    have g2_ := g_.2.1
    have g3_ := g_.2.2.1
    rw [x2_, ← K_.2.1 c'_.toNat (by omega)] at g3_
    rcases Int.lt_trichotomy c'_ (c_ : Int) with z_ | z_ | z_
    · exfalso
      have y_ := h_.2.2 c'_.toNat (by omega)
      omega
    · exact z_
    · exfalso
      have y_ := g_.2.2.2 c_ (by omega)
      rw [x2_, ← K_.2.1 c_ h_.1] at y_
      have w9_ := h_.2.1
      omega
  rcases E_ with ⟨e1_, e2_, c_, F_, x_, e3_, e4_, e5_⟩ | ⟨e1_, e2_, e3_⟩ | ⟨e1_, e2_, e3_, e4_⟩
  · rcases P_ with ⟨p1_, p2_, p3_⟩ | ⟨p1_, p2_, p3_, p4_⟩ | ⟨p1_, c'_, ⟨p2_, p3_⟩, p4_⟩
    · exact absurd (okk_.mp e2_) p3_
    · exfalso
      apply p4_
      refine ⟨(c_ : Int), by omega, by have := e3_.1; omega, ?_, fun j_ hj_ => ?_⟩
      · rw [x2_, Int.toNat_natCast, ← K_.2.1 c_ e3_.1]
        exact e3_.2.1
      · have := e3_.1
        rw [x2_, ← K_.2.1 j_ (by omega)]
        exact e3_.2.2 j_ (by omega)
    · have ec_ := fcu_ c_ c'_ e3_ p3_
      rw [ec_] at p4_
      obtain ⟨⟨h1_, h2_, h3_⟩, h4_, h5_, h6_⟩ := id e2_
      have u1_ : S1_.1 3 a_.toNat 0 = 1 := by rw [q_.2.1.1 3 a_.toNat 0 rfl]; exact h3_
      have u2_ : S2_.1 3 a_.toNat 0 = 1 := by rw [f_.1 3 a_.toNat 0 rfl]; exact u1_
      have v2_ : S2_.1 5 b_.toNat 0 = 1 := by
        rw [f_.1 5 b_.toNat 0 rfl, (l9_ b_.toNat (by omega)).1 0]
        exact h6_
      have ge_ := G_.2.1 a_.toNat (by omega) u2_
      have le_ := G_.2.2 b_.toNat (by omega) v2_
      have eF_ := e4_.1.1
      have dl_ := dlk_of ⟨h1_, h2_⟩ q_.2.2 u1_ ge_ f_ eF_
      obtain ⟨⟨⟨d1_, d2_, d3_, d4_, d5_⟩, d6_⟩, ⟨-, o1_, -⟩, -⟩ := ge_
      have ea_ : ((a_.toNat : Nat) : Int) = a_ := by omega
      have eb_ : ((b_.toNat : Nat) : Int) = b_ := by omega
      have y160_ : S1_.2.2.1 160 0 a_.toNat = (F_ : Int) := by
        rw [f_.1 3 a_.toNat 1 rfl, f_.1 3 a_.toNat 2 rfl, fr_arr (t := 160) (i := 0) f_ rfl] at d5_
        rw [d5_, eF_]
      have y159_ : S1_.2.2.1 159 0 a_.toNat = S2_.2.2.1 159 0 a_.toNat := by rw [fr_arr (t := 159) (i := 0) f_ rfl]
      rw [y160_, y159_] at p4_
      have l1_ := p4_.2.1.1
      have l2_ := p4_.2.1.2.1
      have l3_ := p4_.2.1.2.2
      obtain ⟨lk_, l58_, l7_⟩ := llk_of le_ i_ f_ (by rw [eb_]; exact l1_) (by rw [eb_]; exact l2_) (by rw [eb_]; exact l3_)
      have R_ := map_e i_ q_.1 dl_ lk_ l58_ l7_ e4_ (by
        rw [ea_, eb_]
        exact p4_) ⟨by rw [← d1_, f_.1 3 a_.toNat 1 rfl], by rw [← d2_, f_.1 3 a_.toNat 2 rfl], by rw [← d3_, f_.1 3 a_.toNat 3 rfl], by rw [← o1_, f_.1 3 a_.toNat 5 rfl]⟩
      have cd_ := e4_.2.1
      have rc_ := p4_.2.2.1.1
      rw [Int.toNat_natCast] at rc_
      have oth_ : ∀ j_ : Nat, j_ ≠ c_ → (∀ k_, k_ < 9 → S2_.1 2 j_ k_ = S_.1 2 j_ k_) ∧ S2_.1 5 (3 + j_) 1 = S_.1 5 (3 + j_) 1 ∧ (∀ t_, t_ < 39 → 35 ≤ t_ → S2_.2.2.1 t_ (0 + j_) = S_.2.2.1 t_ (0 + j_)) ∧ ∀ t_, t_ < 59 → 55 ≤ t_ → S2_.2.2.1 t_ (0 + (3 + j_)) = S_.2.2.1 t_ (0 + (3 + j_)) := fun j_ hj_ => by
        refine ⟨fun k_ hk_ => (c2_ j_ k_ hk_).trans ((cd_ 2 rfl j_ (by rw [show cof 2 = 0 from rfl]; omega)).1 k_), (f_.1 5 (3 + j_) 1 rfl).trans ((cd_ 5 rfl (3 + j_) (by rw [show cof 5 = 3 from rfl]; omega)).1 1), fun t_ x1_ x2_ => ?_, fun t_ x1_ x2_ => ?_⟩
        · have y_ : t_ = 35 ∨ t_ = 36 ∨ t_ = 37 ∨ t_ = 38 := by omega
          rcases y_ with rfl | rfl | rfl | rfl
          · exact (fr_arr f_ rfl).trans (cd_ 35 rfl _ (by rw [show cof 35 = 0 from rfl]; omega)).2
          · exact (fr_arr f_ rfl).trans (cd_ 36 rfl _ (by rw [show cof 36 = 0 from rfl]; omega)).2
          · exact (fr_arr f_ rfl).trans (cd_ 37 rfl _ (by rw [show cof 37 = 0 from rfl]; omega)).2
          · exact (fr_arr f_ rfl).trans (cd_ 38 rfl _ (by rw [show cof 38 = 0 from rfl]; omega)).2
        · have y_ : t_ = 55 ∨ t_ = 56 ∨ t_ = 57 ∨ t_ = 58 := by omega
          rcases y_ with rfl | rfl | rfl | rfl
          · exact (fr_arr f_ rfl).trans (cd_ 55 rfl _ (by rw [show cof 55 = 3 from rfl]; omega)).2
          · exact (fr_arr f_ rfl).trans (cd_ 56 rfl _ (by rw [show cof 56 = 3 from rfl]; omega)).2
          · exact (fr_arr f_ rfl).trans (cd_ 57 rfl _ (by rw [show cof 57 = 3 from rfl]; omega)).2
          · exact (fr_arr f_ rfl).trans (cd_ 58 rfl _ (by rw [show cof 58 = 3 from rfl]; omega)).2
      have rot_ : ∀ j_ : Nat, j_ ≠ c_ → ∀ t_, rct t_ = true → ∀ i_, rcs t_ * j_ ≤ i_ → i_ < rcs t_ * j_ + rcs t_ → S2_.2.2.1 t_ 0 i_ = S_.2.2.1 t_ 0 i_ := fun j_ hj_ t_ ht_ i_ x1_ x2_ => by
        rw [rc_ t_ ht_ i_ (by
          rcases Nat.lt_or_gt_of_ne hj_ with y_ | y_
          · left
            have z_ : rcs t_ * (j_ + 1) ≤ rcs t_ * c_ := Nat.mul_le_mul_left _ y_
            rw [Nat.mul_add, Nat.mul_one] at z_
            omega
          · right
            have z_ : rcs t_ * (c_ + 1) ≤ rcs t_ * j_ := Nat.mul_le_mul_left _ y_
            rw [Nat.mul_add, Nat.mul_one] at z_
            omega)]
        exact congrFun (fr_arr q_.2.1 (rwf_0 (show rwf (wo9 vw_230m) = true from rfl) ht_)) i_
      have vw_ : x_ = w_ := by
        rcases R_ with R_ | R_
        · exact R_.1
        · rw [R_.1, R_.2.1]
      refine ⟨p1_.trans e1_.symm, fun _ => by rw [e5_, vw_], ⟨kr_, fun j_ hj_ => ?_, fun j_ hj_ z_ => ?_⟩, fun j_ hj_ z_ => ?_⟩
      · by_cases y_ : j_ = c_
        · rw [y_, c2_ c_ 0 (by decide)]
          rcases R_ with R_ | R_
          · rw [R_.2.2.1, R_.2.2.2]
          · rw [R_.2.2.1, R_.2.2.2.1]
        · rw [(oth_ j_ y_).1 0 (by decide), rot_ j_ y_ 222 rfl j_ (by rw [show rcs 222 = 1 from rfl]; omega) (by rw [show rcs 222 = 1 from rfl]; omega)]
          exact K_.2.1 j_ hj_
      · by_cases y_ : j_ = c_
        · rw [y_, c2_ c_ 0 (by decide)] at z_
          rcases R_ with R_ | R_
          · have := R_.2.2.1
            omega
          · have k9_ := R_.2.2.2.2.1
            rw [y_]
            unfold chq
            unfold chk at k9_ ⊢
            rw [c2_ c_ 1 (by decide), c2_ c_ 2 (by decide), c2_ c_ 3 (by decide), c2_ c_ 4 (by decide), c2_ c_ 8 (by decide), f_.1 5 (3 + c_) 1 rfl, fr_arr (t := 35) (i := 0 + c_) f_ rfl, fr_arr (t := 36) (i := 0 + c_) f_ rfl, fr_arr (t := 37) (i := 0 + c_) f_ rfl, fr_arr (t := 38) (i := 0 + c_) f_ rfl, fr_arr (t := 55) (i := 0 + (3 + c_)) f_ rfl, fr_arr (t := 56) (i := 0 + (3 + c_)) f_ rfl, fr_arr (t := 57) (i := 0 + (3 + c_)) f_ rfl, fr_arr (t := 58) (i := 0 + (3 + c_)) f_ rfl]
            exact k9_
        · have o_ := oth_ j_ y_
          rw [o_.1 0 (by decide)] at z_
          exact chq_eq (K_.2.2 j_ hj_ z_) o_.1 o_.2.1 o_.2.2.1 o_.2.2.2 J_.1 (rot_ j_ y_)
      · by_cases y_ : j_ = c_
        · rw [y_, c2_ c_ 0 (by decide)] at z_
          rcases R_ with R_ | R_
          · have := R_.2.2.1
            omega
          · rw [y_, c2_ c_ 5 (by decide)]
            exact R_.2.2.2.2.2
        · have o_ := oth_ j_ y_
          rw [o_.1 0 (by decide)] at z_
          rw [o_.1 5 (by decide), rot_ j_ y_ 227 rfl j_ (by rw [show rcs 227 = 1 from rfl]; omega) (by rw [show rcs 227 = 1 from rfl]; omega)]
          exact (PJ_.2 j_ hj_ z_).2
  · rcases P_ with ⟨p1_, p2_, p3_⟩ | ⟨p1_, p2_, p3_, p4_⟩ | ⟨p1_, c'_, ⟨p2_, p3_⟩, p4_⟩
    · exact ⟨p1_.trans e1_.symm, fun z_ => absurd (e1_.symm.trans z_) (by decide), sm_ e3_ p2_⟩
    · exact absurd (okk_.mpr p3_) e2_
    · exact absurd (okk_.mpr p2_) e2_
  · rcases P_ with ⟨p1_, p2_, p3_⟩ | ⟨p1_, p2_, p3_, p4_⟩ | ⟨p1_, c'_, ⟨p2_, p3_⟩, p4_⟩
    · exact absurd (okk_.mp e2_) p3_
    · exact ⟨p1_.trans e1_.symm, fun z_ => absurd (e1_.symm.trans z_) (by decide), sm_ e4_ p2_⟩
    · exfalso
      apply e3_
      have g1_ := p3_.1
      have g2_ := p3_.2.1
      refine ⟨c'_.toNat, by omega, ?_, fun j_ hj_ => ?_⟩
      · rw [K_.2.1 c'_.toNat (by omega), ← x2_]
        exact p3_.2.2.1
      · rw [K_.2.1 j_ (by omega), ← x2_]
        exact p3_.2.2.2 j_ (by omega)
set_option maxHeartbeats 2000000 in
theorem k_drop {n_ : Nat} {a_ b_ v_ : Int} {S_ S1_ S2_ : sm_S} (J_ : jB n_ S_) (q_ : lhq vw_217n S_ S1_) (E_ : ldn a_ b_ S_ S1_ v_) (f_ : ai_fr (sx_W vw_373n) S1_ S2_) (P_ : (S2_.1 13 0 0 = 1 ∧ ¬ (0 ≤ a_ ∧ a_ ≤ 2) ∧ S2_.2.2.1 = S1_.2.2.1) ∨ (S2_.1 13 0 0 = 2 ∧ (0 ≤ a_ ∧ a_ ≤ 2) ∧ ¬ okr_drop a_ b_ S1_ ∧ S2_.2.2.1 = S1_.2.2.1) ∨ (S2_.1 13 0 0 = 0 ∧ okr_drop a_ b_ S1_ ∧ drr a_ b_ S1_ S2_)) : ldr a_ b_ S_ S1_ ∧ ((a_ = 0 ∧ (0 ≤ b_ ∧ b_ < 6 ∧ S1_.2.2.1 153 0 b_.toNat = 1) ∧ (∀ j_, S2_.2.2.1 153 0 j_ = if j_ = b_.toNat then 0 else S1_.2.2.1 153 0 j_) ∧ ∀ j_, S2_.2.2.1 183 0 j_ = S1_.2.2.1 183 0 j_) ∨ (a_ = 1 ∧ (0 ≤ b_ ∧ b_ < 3 ∧ S1_.2.2.1 183 0 b_.toNat = 1) ∧ (∀ j_, S2_.2.2.1 183 0 j_ = if j_ = b_.toNat then 0 else S1_.2.2.1 183 0 j_) ∧ ∀ j_, S2_.2.2.1 153 0 j_ = S1_.2.2.1 153 0 j_) ∨ ((¬ (a_ = 0 ∧ 0 ≤ b_ ∧ b_ < 6 ∧ S1_.2.2.1 153 0 b_.toNat = 1) ∧ ¬ (a_ = 1 ∧ 0 ≤ b_ ∧ b_ < 3 ∧ S1_.2.2.1 183 0 b_.toNat = 1)) ∧ (∀ j_, S2_.2.2.1 153 0 j_ = S1_.2.2.1 153 0 j_) ∧ ∀ j_, S2_.2.2.1 183 0 j_ = S1_.2.2.1 183 0 j_)) ∧ jK0 n_ S2_ ∧ S2_.1 13 0 0 = v_ := by
  have K_ := J_.2.2.2.2.2.1.2.1
  have a7_ := J_.2.2.2.2.2.2.1
  have a8_ := J_.2.2.2.2.2.2.2.1
  have x3_ : S1_.2.2.1 153 0 = S_.2.2.1 153 0 := fr_arr q_.2.1 rfl
  have x8_ : S1_.2.2.1 183 0 = S_.2.2.1 183 0 := fr_arr q_.2.1 rfl
  have x2_ : S1_.2.2.1 222 0 = S_.2.2.1 222 0 := fr_arr q_.2.1 rfl
  have u2_ : ∀ j_, S2_.1 2 j_ 0 = S1_.1 2 j_ 0 := fun j_ => f_.1 2 j_ 0 rfl
  have okk_ : okc_drop a_ b_ S_ ↔ okr_drop a_ b_ S1_ := by
    unfold okc_drop okr_drop
    rw [x3_, x8_, x2_]
    constructor
    · rintro (⟨h0_, h1_, h2_, h3_⟩ | ⟨h0_, h1_, h2_, h3_⟩ | ⟨h0_, h1_, h2_, h3_⟩)
      · exact Or.inl ⟨h0_, h1_, h2_, by rw [← a7_ b_.toNat (by omega)]; exact h3_⟩
      · exact Or.inr (Or.inl ⟨h0_, h1_, h2_, by rw [← a8_ b_.toNat (by omega)]; exact h3_⟩)
      · exact Or.inr (Or.inr ⟨h0_, h1_, h2_, by rw [← K_.2.1 b_.toNat (by omega)]; exact h3_⟩)
    · rintro (⟨h0_, h1_, h2_, h3_⟩ | ⟨h0_, h1_, h2_, h3_⟩ | ⟨h0_, h1_, h2_, h3_⟩)
      · exact Or.inl ⟨h0_, h1_, h2_, (a7_ b_.toNat (by omega)).trans h3_⟩
      · exact Or.inr (Or.inl ⟨h0_, h1_, h2_, (a8_ b_.toNat (by omega)).trans h3_⟩)
      · exact Or.inr (Or.inr ⟨h0_, h1_, h2_, (K_.2.1 b_.toNat (by omega)).trans h3_⟩)
  have gK_ : jK0 n_ S1_ → (∀ c_ : Nat, c_ < 4 → S2_.1 2 c_ 0 = S2_.2.2.1 222 0 c_) → jK0 n_ S2_ := fun k_ h_ => jK0_dn k_ f_ h_ (fun c_ _ z_ => (u2_ c_).symm.trans z_)
  have same_ : S1_ = S_ → S2_.2.2.1 = S1_.2.2.1 → ¬ okc_drop a_ b_ S_ → ldr a_ b_ S_ S1_ ∧ ((a_ = 0 ∧ (0 ≤ b_ ∧ b_ < 6 ∧ S1_.2.2.1 153 0 b_.toNat = 1) ∧ (∀ j_, S2_.2.2.1 153 0 j_ = if j_ = b_.toNat then 0 else S1_.2.2.1 153 0 j_) ∧ ∀ j_, S2_.2.2.1 183 0 j_ = S1_.2.2.1 183 0 j_) ∨ (a_ = 1 ∧ (0 ≤ b_ ∧ b_ < 3 ∧ S1_.2.2.1 183 0 b_.toNat = 1) ∧ (∀ j_, S2_.2.2.1 183 0 j_ = if j_ = b_.toNat then 0 else S1_.2.2.1 183 0 j_) ∧ ∀ j_, S2_.2.2.1 153 0 j_ = S1_.2.2.1 153 0 j_) ∨ ((¬ (a_ = 0 ∧ 0 ≤ b_ ∧ b_ < 6 ∧ S1_.2.2.1 153 0 b_.toNat = 1) ∧ ¬ (a_ = 1 ∧ 0 ≤ b_ ∧ b_ < 3 ∧ S1_.2.2.1 183 0 b_.toNat = 1)) ∧ (∀ j_, S2_.2.2.1 153 0 j_ = S1_.2.2.1 153 0 j_) ∧ ∀ j_, S2_.2.2.1 183 0 j_ = S1_.2.2.1 183 0 j_)) ∧ jK0 n_ S2_ := fun e1_ e2_ no_ => by
    refine ⟨Or.inr (Or.inr ⟨⟨fun z_ => no_ (Or.inl z_), fun z_ => no_ (Or.inr (Or.inl z_))⟩, fun j_ => by rw [e1_], fun j_ => by rw [e1_]⟩), Or.inr (Or.inr ⟨⟨fun z_ => no_ (okk_.mpr (Or.inl z_)), fun z_ => no_ (okk_.mpr (Or.inr (Or.inl z_)))⟩, fun j_ => by rw [e2_], fun j_ => by rw [e2_]⟩), ?_⟩
    refine gK_ (by rw [e1_]; exact K_) (fun c_ hc_ => ?_)
    rw [u2_, e2_, e1_]
    exact K_.2.1 c_ hc_
  have nok_ : ¬ (0 ≤ a_ ∧ a_ ≤ 2) → ¬ okc_drop a_ b_ S_ := fun h_ z_ => by
    unfold okc_drop at z_
    omega
  rcases E_ with ⟨e1_, e2_, e3_, e4_, e5_⟩ | ⟨e1_, e2_, e3_⟩ | ⟨e1_, e2_, e3_, e4_⟩
  · rcases P_ with ⟨p1_, p2_, p3_⟩ | ⟨p1_, p2_, p3_, p4_⟩ | ⟨p1_, p2_, p3_, p4_, p5_⟩
    · exact absurd e2_ (nok_ p2_)
    · exact absurd (okk_.mp e2_) p3_
    · have K1_ : jK0 n_ S2_ := by
        have k0_ : ∀ c_ : Nat, c_ < 4 → S2_.1 2 c_ 0 = S2_.2.2.1 222 0 c_ := fun c_ hc_ => by
          rw [u2_, e5_, p5_, x2_]
          by_cases z_ : a_ = 2 ∧ c_ = b_.toNat
          · rw [if_pos z_, if_pos z_]
          · rw [if_neg z_, if_neg z_]
            exact K_.2.1 c_ hc_
        have m1_ : ∀ c_ : Nat, S1_.1 2 c_ 0 = 1 → S_.1 2 c_ 0 = 1 := fun c_ z_ => by
          rw [e5_] at z_
          by_cases y_ : a_ = 2 ∧ c_ = b_.toNat
          · rw [if_pos y_] at z_
            exact absurd z_ (by decide)
          · rw [if_neg y_] at z_
            exact z_
        refine ⟨jkr_fr (jkr_fr K_.1 q_.2.1 rfl) f_ rfl, k0_, fun c_ hc_ z_ => chq_fr (chq_fr (K_.2.2 c_ hc_ (m1_ c_ ((u2_ c_).symm.trans z_))) q_.2.1 rfl) f_ rfl⟩
      rcases id e2_ with ⟨h0_, h1_, h2_, h3_⟩ | ⟨h0_, h1_, h2_, h3_⟩ | ⟨h0_, h1_, h2_, h3_⟩
      · refine ⟨Or.inl ⟨h0_, ⟨h1_, h2_, h3_⟩, fun j_ => ?_, fun j_ => ?_⟩, Or.inl ⟨h0_, ⟨h1_, h2_, ?_⟩, fun j_ => ?_, fun j_ => ?_⟩, K1_, p1_.trans e1_.symm⟩
        · rw [e3_]
          by_cases z_ : j_ = b_.toNat
          · rw [if_pos ⟨h0_, z_⟩, if_pos z_]
          · rw [if_neg (fun y_ => z_ y_.2), if_neg z_]
        · rw [e4_, if_neg (by omega)]
        · rw [x3_, ← a7_ b_.toNat (by omega)]
          exact h3_
        · rw [p3_]
          by_cases z_ : j_ = b_.toNat
          · rw [if_pos ⟨h0_, z_⟩, if_pos z_]
          · rw [if_neg (fun y_ => z_ y_.2), if_neg z_]
        · rw [p4_, if_neg (by omega)]
      · refine ⟨Or.inr (Or.inl ⟨h0_, ⟨h1_, h2_, h3_⟩, fun j_ => ?_, fun j_ => ?_⟩), Or.inr (Or.inl ⟨h0_, ⟨h1_, h2_, ?_⟩, fun j_ => ?_, fun j_ => ?_⟩), K1_, p1_.trans e1_.symm⟩
        · rw [e4_]
          by_cases z_ : j_ = b_.toNat
          · rw [if_pos ⟨h0_, z_⟩, if_pos z_]
          · rw [if_neg (fun y_ => z_ y_.2), if_neg z_]
        · rw [e3_, if_neg (by omega)]
        · rw [x8_, ← a8_ b_.toNat (by omega)]
          exact h3_
        · rw [p4_]
          by_cases z_ : j_ = b_.toNat
          · rw [if_pos ⟨h0_, z_⟩, if_pos z_]
          · rw [if_neg (fun y_ => z_ y_.2), if_neg z_]
        · rw [p3_, if_neg (by omega)]
      · refine ⟨Or.inr (Or.inr ⟨⟨by omega, by omega⟩, fun j_ => ?_, fun j_ => ?_⟩), Or.inr (Or.inr ⟨⟨by omega, by omega⟩, fun j_ => ?_, fun j_ => ?_⟩), K1_, p1_.trans e1_.symm⟩
        · rw [e3_, if_neg (by omega)]
        · rw [e4_, if_neg (by omega)]
        · rw [p3_, if_neg (by omega)]
        · rw [p4_, if_neg (by omega)]
  · rcases P_ with ⟨p1_, p2_, p3_⟩ | ⟨p1_, p2_, p3_, p4_⟩ | ⟨p1_, p2_, p3_⟩
    · have s_ := same_ e3_ p3_ (nok_ e2_)
      exact ⟨s_.1, s_.2.1, s_.2.2, p1_.trans e1_.symm⟩
    · exact absurd p2_ e2_
    · exact absurd (okk_.mpr p2_) (nok_ e2_)
  · rcases P_ with ⟨p1_, p2_, p3_⟩ | ⟨p1_, p2_, p3_, p4_⟩ | ⟨p1_, p2_, p3_⟩
    · exact absurd e2_ p2_
    · have s_ := same_ e4_ p4_ e3_
      exact ⟨s_.1, s_.2.1, s_.2.2, p1_.trans e1_.symm⟩
    · exact absurd (okk_.mpr p2_) e3_
/-- a library is told: the chips stay -/
theorem jK0_li {n_ m_ : Nat} {v_ : Int} {b_ : Nat → Int} {w_ : sx_Wl} {S_ S1_ S2_ : sm_S} (J_ : jB n_ S_) (q_ : ai_fr (sx_W (wo9 vw_214)) S_ S1_) (E_ : lliv b_ m_ S_ S1_ v_) (f_ : ai_fr (sx_W w_) S1_ S2_) (p_ : jkw0 w_ = true := by rfl) (a_ : (sx_W w_).1 2 0 = false := by rfl) (c_ : (sx_W w_).2.1 222 = false := by rfl) : jK0 n_ S2_ := by
  have K_ := J_.2.2.2.2.2.1.2.1
  have il_ : ∀ i_ : Nat, 3 ≤ i_ → i_ < 7 → (∀ k_, k_ < 3 → S1_.1 5 i_ k_ = S_.1 5 i_ k_) ∧ ∀ t_, t_ < 59 → 55 ≤ t_ → S1_.2.2.1 t_ (0 + i_) = S_.2.2.1 t_ (0 + i_) := fun i_ h1_ h2_ => by
    rcases E_ with ⟨e1_, e2_, e3_, e4_⟩ | ⟨e1_, s_, s1_, s2_, s3_, s0_, s4_⟩
    · exact e3_ i_ (by omega)
    · exact s0_ i_ (by omega)
  have m2_ : ∀ k_, k_ < 9 → (sx_W (wo9 vw_214)).1 2 k_ = false := by decide
  have rw_ : rwf (wo9 vw_214) = true := rfl
  have K1_ : jK0 n_ S1_ := by
    refine ⟨⟨?_, ?_⟩, fun j_ hj_ => ?_, fun j_ hj_ z_ => ?_⟩
    · rw [q_.1 13 0 127 rfl]
      exact K_.1.1
    · rw [q_.1 13 0 127 rfl, fr_arr (t := 213) (i := 0) q_ rfl]
      exact K_.1.2
    · rw [q_.1 2 j_ 0 rfl, fr_arr (t := 222) (i := 0) q_ rfl]
      exact K_.2.1 j_ hj_
    · rw [q_.1 2 j_ 0 rfl] at z_
      have i9_ := il_ (3 + j_) (by omega) (by omega)
      exact chq_eq (K_.2.2 j_ hj_ z_) (fun k_ hk_ => q_.1 2 j_ k_ (m2_ k_ hk_)) (i9_.1 1 (by decide)) (fun t_ x1_ x2_ => by
        have y_ : t_ = 35 ∨ t_ = 36 ∨ t_ = 37 ∨ t_ = 38 := by omega
        rcases y_ with rfl | rfl | rfl | rfl <;> exact fr_arr q_ rfl) (fun t_ x1_ x2_ => i9_.2 t_ x1_ x2_) J_.1 (fun t_ ht_ x_ _ _ => congrFun (fr_arr q_ (rwf_0 rw_ ht_)) x_)
  exact jK0_fr K1_ f_ p_ a_ c_
theorem alw_0 {t_ : Nat} (h_ : rct t_ = true) (n_ : t_ ≠ 229) : (sx_W vw_428n).2.1 t_ = false := by
  have a_ : t_ ≠ 289 ∧ t_ ≠ 294 := ⟨fun e_ => by rw [e_] at h_; exact absurd h_ (by decide), fun e_ => by rw [e_] at h_; exact absurd h_ (by decide)⟩
  show (decide (229 = t_) || (decide (289 = t_) || (decide (294 = t_) || false))) = false
  rw [decide_eq_false (fun e_ => n_ e_.symm), decide_eq_false (fun e_ => a_.1 e_.symm), decide_eq_false (fun e_ => a_.2 e_.symm)]
  rfl
set_option maxHeartbeats 2000000 in
theorem k_alter {n_ : Nat} {a_ b_ d_ v_ w_ : Int} {S_ S1_ S2_ : sm_S} (J_ : jB n_ S_) (q_ : lhq vw_234m S_ S1_) (E_ : eal a_ b_ d_ S_ S1_ v_) (f_ : ai_fr (sx_W vw_428n) S1_ S2_) (P_ : (S2_.1 13 0 0 = 1 ∧ ¬ ora_alter a_ b_ d_ S1_ ∧ S2_.2.2.1 229 0 = S1_.2.2.1 229 0) ∨ (S2_.1 13 0 0 = 2 ∧ ora_alter a_ b_ d_ S1_ ∧ ¬ okr_alter a_ b_ d_ S1_ ∧ S2_.2.2.1 229 0 = S1_.2.2.1 229 0) ∨ (S2_.1 13 0 0 = 0 ∧ okr_alter a_ b_ d_ S1_ ∧ w_ = S1_.2.2.1 229 0 (150 * a_ + b_).toNat ∧ ∀ j_, S2_.2.2.1 229 0 j_ = if j_ = (150 * a_ + b_).toNat then d_ else S1_.2.2.1 229 0 j_)) : S2_.1 13 0 0 = v_ ∧ (v_ = 0 → S1_.2.2.2 295 0 0 = l_i2l w_) ∧ jK0 n_ S2_ := by
  have K_ := J_.2.2.2.2.2.1.2.1
  have x222_ : S1_.2.2.1 222 0 = S_.2.2.1 222 0 := fr_arr q_.2.1 rfl
  have x228_ : S1_.2.2.1 228 0 = S_.2.2.1 228 0 := fr_arr q_.2.1 rfl
  have x229_ : S1_.2.2.1 229 0 = S_.2.2.1 229 0 := fr_arr q_.2.1 rfl
  have x233_ : S1_.2.2.1 233 0 = S_.2.2.1 233 0 := fr_arr q_.2.1 rfl
  have x234_ : S1_.2.2.1 234 0 = S_.2.2.1 234 0 := fr_arr q_.2.1 rfl
  have ok1_ : oka_alter a_ b_ d_ S_ ↔ ora_alter a_ b_ d_ S1_ := by
    unfold oka_alter ora_alter
    rw [x222_, x228_, x233_]
    constructor
    · rintro ⟨⟨h1_, h2_, h3_⟩, h4_, h5_⟩
      obtain ⟨⟨-, -, -, -, c8_⟩, ⟨g1_, -⟩, -⟩ := K_.2.2 a_.toNat (by omega) h3_
      exact ⟨⟨h1_, h2_, by rw [← K_.2.1 a_.toNat (by omega)]; exact h3_⟩, by omega, by omega⟩
    · rintro ⟨⟨h1_, h2_, h3_⟩, h4_, h5_⟩
      have h3_ := (K_.2.1 a_.toNat (by omega)).trans h3_
      obtain ⟨⟨-, -, -, -, c8_⟩, ⟨g1_, -⟩, -⟩ := K_.2.2 a_.toNat (by omega) h3_
      exact ⟨⟨h1_, h2_, h3_⟩, by omega, by omega⟩
  have ok2_ : oka_alter a_ b_ d_ S_ → (okc_alter a_ b_ d_ S_ ↔ okr_alter a_ b_ d_ S1_) := fun o_ => by
    have r_ := ok1_.mp o_
    obtain ⟨⟨h1_, h2_, h3_⟩, h4_, h5_⟩ := id o_
    obtain ⟨-, ⟨g1_, g2_, g3_⟩, g4_, -⟩ := K_.2.2 a_.toNat (by omega) h3_
    have q4_ := (g4_ b_.toNat (by omega)).1
    have e1_ := (g3_ d_.toNat (by omega)).1
    have e2_ := (g3_ (S_.2.2.1 35 (0 + a_.toNat) b_.toNat).toNat (by omega)).1
    unfold okc_alter okr_alter
    rw [x229_, x234_, show (12 * a_ + d_).toNat = 12 * a_.toNat + d_.toNat by omega, show (150 * a_ + b_).toNat = 150 * a_.toNat + b_.toNat by omega, ← q4_.2.2, show (12 * a_ + S_.2.2.1 35 (0 + a_.toNat) b_.toNat).toNat = 12 * a_.toNat + (S_.2.2.1 35 (0 + a_.toNat) b_.toNat).toNat by omega, ← e1_, ← e2_]
    exact ⟨fun z_ => ⟨r_, z_.2⟩, fun z_ => ⟨o_, z_.2⟩⟩
  have m1_ : ∀ k_, k_ < 9 → (sx_W (wo9 vw_234m)).1 2 k_ = false := by decide
  have m2_ : ∀ k_, k_ < 9 → (sx_W vw_428n).1 2 k_ = false := by decide
  have c2_ : ∀ j_ k_, k_ < 9 → S2_.1 2 j_ k_ = S_.1 2 j_ k_ := fun j_ k_ hk_ => (f_.1 2 j_ k_ (m2_ k_ hk_)).trans (q_.2.1.1 2 j_ k_ (m1_ k_ hk_))
  have l5_ : ∀ j_, S2_.1 5 (3 + j_) 1 = S_.1 5 (3 + j_) 1 := fun j_ => (f_.1 5 (3 + j_) 1 rfl).trans (q_.2.1.1 5 (3 + j_) 1 rfl)
  have b5_ : ∀ j_ t_, t_ < 59 → 55 ≤ t_ → S2_.2.2.1 t_ (0 + (3 + j_)) = S_.2.2.1 t_ (0 + (3 + j_)) := fun j_ t_ x1_ x2_ => by
    have y_ : t_ = 55 ∨ t_ = 56 ∨ t_ = 57 ∨ t_ = 58 := by omega
    rcases y_ with rfl | rfl | rfl | rfl <;> exact (fr_arr f_ rfl).trans (fr_arr q_.2.1 rfl)
  have a6_ : ∀ j_ t_, t_ < 39 → 36 ≤ t_ → S2_.2.2.1 t_ (0 + j_) = S_.2.2.1 t_ (0 + j_) := fun j_ t_ x1_ x2_ => by
    have y_ : t_ = 36 ∨ t_ = 37 ∨ t_ = 38 := by omega
    rcases y_ with rfl | rfl | rfl <;> exact (fr_arr f_ rfl).trans (fr_arr q_.2.1 rfl)
  have rw_ : rwf (wo9 vw_234m) = true := rfl
  have ro_ : ∀ t_, rct t_ = true → t_ ≠ 229 → ∀ j_, S2_.2.2.1 t_ 0 j_ = S_.2.2.1 t_ 0 j_ := fun t_ ht_ hn_ j_ => (congrFun (fr_arr f_ (alw_0 ht_ hn_)) j_).trans (congrFun (fr_arr q_.2.1 (rwf_0 rw_ ht_)) j_)
  have kr_ : jkr n_ S2_ := by
    unfold jkr
    rw [f_.1 13 0 127 rfl, q_.2.1.1 13 0 127 rfl, fr_arr (t := 213) (i := 0) f_ rfl, fr_arr (t := 213) (i := 0) q_.2.1 rfl]
    exact K_.1
  have fl_ : ∀ j_ : Nat, j_ < 4 → S2_.1 2 j_ 0 = S2_.2.2.1 222 0 j_ := fun j_ hj_ => by
    rw [c2_ j_ 0 (by decide), ro_ 222 rfl (by decide)]
    exact K_.2.1 j_ hj_
  have sm_ : S1_ = S_ → S2_.2.2.1 229 0 = S1_.2.2.1 229 0 → jK0 n_ S2_ := fun e1_ e2_ => by
    refine ⟨kr_, fl_, fun j_ hj_ z_ => ?_⟩
    rw [c2_ j_ 0 (by decide)] at z_
    exact chq_eq (K_.2.2 j_ hj_ z_) (c2_ j_) (l5_ j_) (fun t_ x1_ x2_ => by
      by_cases y_ : t_ = 35
      · rw [y_]
        refine (fr_arr f_ rfl).trans ?_
        rw [e1_]
      · exact a6_ j_ t_ x1_ (by omega)) (b5_ j_) J_.1 (fun t_ ht_ x_ _ _ => by
      by_cases y_ : t_ = 229
      · rw [y_, e2_, x229_]
      · exact ro_ t_ ht_ y_ x_)
  rcases E_ with ⟨e1_, e2_, e3_, e4_, e5_⟩ | ⟨e1_, e2_, e3_⟩ | ⟨e1_, e2_, e3_, e4_⟩
  · rcases P_ with ⟨p1_, p2_, p3_⟩ | ⟨p1_, p2_, p3_, p4_⟩ | ⟨p1_, p2_, p3_, p4_⟩
    · exact absurd (ok1_.mp e2_.1) p2_
    · exact absurd ((ok2_ e2_.1).mp e2_) p3_
    · obtain ⟨⟨⟨h1_, h2_, h3_⟩, h4_, h5_⟩, h6_⟩ := id e2_
      have q9_ := K_.2.2 a_.toNat (by omega) h3_
      have gA_ := (q9_.2.2.1 b_.toNat (by omega)).1
      have c8_ : S_.1 2 a_.toNat 8 ≤ 150 := (J_.1.1 2 a_.toNat 8 rfl).2
      have ix_ : (150 * a_ + b_).toNat = 150 * a_.toNat + b_.toNat := by omega
      rw [ix_] at p3_ p4_
      have r35_ : ∀ j_, S2_.2.2.1 35 (0 + a_.toNat) j_ = if j_ = b_.toNat then d_ else S_.2.2.1 35 (0 + a_.toNat) j_ := fun j_ => by
        rw [fr_arr (t := 35) (i := 0 + a_.toNat) f_ rfl]
        exact e5_ j_
      refine ⟨p1_.trans e1_.symm, fun _ => ?_, kr_, fl_, fun j_ hj_ z_ => ?_⟩
      · rw [e3_, p3_, x229_, gA_.2.2]
      · rw [c2_ j_ 0 (by decide)] at z_
        by_cases ja_ : j_ = a_.toNat
        · rw [ja_]
          obtain ⟨⟨f1_, f2_, f3_, f4_, f8_⟩, ⟨g1_, g2_, g3_⟩, g4_, g5_, g6_⟩ := q9_
          refine ⟨⟨?_, ?_, ?_, ?_, ?_⟩, ⟨?_, ?_, fun k_ hk_ => ?_⟩, fun g_ hg_ => ?_, fun k_ hk_ => ?_, fun k_ hk_ => ?_⟩
          · rw [c2_ _ 1 (by decide), ro_ 223 rfl (by decide)]; exact f1_
          · rw [c2_ _ 2 (by decide), ro_ 224 rfl (by decide)]; exact f2_
          · rw [c2_ _ 3 (by decide), ro_ 225 rfl (by decide)]; exact f3_
          · rw [c2_ _ 4 (by decide), ro_ 226 rfl (by decide)]; exact f4_
          · rw [c2_ _ 8 (by decide), ro_ 228 rfl (by decide)]; exact f8_
          · rw [l5_, ro_ 233 rfl (by decide)]; exact g1_
          · rw [l5_]; exact g2_
          · rw [l5_] at hk_
            rw [b5_ _ 55 (by decide) (by decide), b5_ _ 56 (by decide) (by decide), b5_ _ 57 (by decide) (by decide), b5_ _ 58 (by decide) (by decide), ro_ 234 rfl (by decide), ro_ 235 rfl (by decide), ro_ 236 rfl (by decide), ro_ 237 rfl (by decide)]
            exact g3_ k_ hk_
          · rw [c2_ _ 8 (by decide)] at hg_
            have o_ := g4_ g_ hg_
            rw [l5_, r35_, p4_, x229_]
            by_cases gb_ : g_ = b_.toNat
            · rw [if_pos gb_, if_pos (by omega)]
              refine ⟨⟨by omega, by omega, rfl⟩, fun k_ hk_ => ?_⟩
              rw [ro_ 230 rfl (by decide), b5_ _ 55 (by decide) (by decide), a6_ _ 36 (by decide) (by decide), h6_]
              rw [gb_] at o_ ⊢
              exact o_.2 k_ hk_
            · rw [if_neg gb_, if_neg (by omega)]
              refine ⟨o_.1, fun k_ hk_ => ?_⟩
              rw [ro_ 230 rfl (by decide), b5_ _ 55 (by decide) (by decide), a6_ _ 36 (by decide) (by decide)]
              exact o_.2 k_ hk_
          · rw [c2_ _ 3 (by decide)] at hk_
            rw [a6_ _ 37 (by decide) (by decide), ro_ 231 rfl (by decide)]
            exact g5_ k_ hk_
          · rw [c2_ _ 2 (by decide)] at hk_
            rw [a6_ _ 38 (by decide) (by decide), ro_ 232 rfl (by decide)]
            exact g6_ k_ hk_
        · refine chq_eq (K_.2.2 j_ hj_ z_) (c2_ j_) (l5_ j_) (fun t_ x1_ x2_ => ?_) (b5_ j_) J_.1 (fun t_ ht_ x_ y1_ y2_ => ?_)
          · by_cases y_ : t_ = 35
            · rw [y_]
              exact (fr_arr f_ rfl).trans (e4_ 35 rfl (0 + j_) (by rw [show cof 35 = 0 from rfl]; omega)).2
            · exact a6_ j_ t_ x1_ (by omega)
          · by_cases y_ : t_ = 229
            · rw [y_, show rcs 229 = 150 from rfl] at y1_ y2_
              rw [y_, p4_, if_neg (by omega), x229_]
            · exact ro_ t_ ht_ y_ x_
  · rcases P_ with ⟨p1_, p2_, p3_⟩ | ⟨p1_, p2_, p3_, p4_⟩ | ⟨p1_, p2_, p3_, p4_⟩
    · exact ⟨p1_.trans e1_.symm, fun z_ => absurd (e1_.symm.trans z_) (by decide), sm_ e3_ p3_⟩
    · exact absurd (ok1_.mpr p2_) e2_
    · exact absurd (ok1_.mpr p2_.1) e2_
  · rcases P_ with ⟨p1_, p2_, p3_⟩ | ⟨p1_, p2_, p3_, p4_⟩ | ⟨p1_, p2_, p3_, p4_⟩
    · exact absurd (ok1_.mp e2_) p2_
    · exact ⟨p1_.trans e1_.symm, fun z_ => absurd (e1_.symm.trans z_) (by decide), sm_ e4_ p4_⟩
    · exact absurd ((ok2_ e2_).mpr p2_) e3_
theorem jM_B {n_ : Nat} {S_ S1_ S2_ : sm_S} (h_ : jB n_ S_) (q_ : lhq vw_230m S_ S1_) (l9_ : lbs S_ S1_) (i_ : gi S2_) (f_ : ai_fr (sx_W vw_419n) S1_ S2_) (r_ : jR S2_) (G_ : jG S2_) (K_ : jK (n_ + 1) S2_) : jB (n_ + 1) S2_ := by
  obtain ⟨a1_, a2_, a3_, a4_, a5_, a6_, a7_, a8_, a9_⟩ := h_
  obtain ⟨i1_, f1_, j1_⟩ := q_
  refine ⟨i_, jC_fr j1_ f_ (by decide) (by decide) (by decide) (by decide) (by decide) rfl rfl rfl rfl rfl rfl, r_, ?_, ?_, ⟨?_, K_⟩, fun k_ hk_ => ?_, fun k_ hk_ => ?_, G_⟩
  · rw [fr_arr (t := 98) (i := 0) f_ rfl, fr_arr (t := 98) (i := 0) f1_ rfl, fr_arr (t := 118) (i := 0) f_ rfl, fr_arr (t := 118) (i := 0) f1_ rfl]; exact a4_
  · rw [f_.1 10 0 1 rfl, f1_.1 10 0 1 rfl, f_.1 13 0 2 rfl, f1_.1 13 0 2 rfl]; exact a5_
  · rw [f_.1 10 0 1 rfl, f1_.1 10 0 1 rfl]
    exact ⟨a6_.1.1, by have z_ := a6_.1.2; omega⟩
  · rw [f_.1 3 k_ 0 rfl, f1_.1 3 k_ 0 rfl, fr_arr (t := 153) (i := 0) f_ rfl, fr_arr (t := 153) (i := 0) f1_ rfl]; exact a7_ k_ hk_
  · rw [f_.1 5 k_ 0 rfl, (l9_ k_ hk_).1 0, fr_arr (t := 183) (i := 0) f_ rfl, fr_arr (t := 183) (i := 0) f1_ rfl]; exact a8_ k_ hk_
theorem jA_B {n_ : Nat} {S_ S1_ S2_ : sm_S} (h_ : jB n_ S_) (q_ : lhq vw_234m S_ S1_) (i_ : gi S2_) (f_ : ai_fr (sx_W vw_428n) S1_ S2_) (r_ : jR S2_) (K_ : jK (n_ + 1) S2_) : jB (n_ + 1) S2_ := by
  obtain ⟨a1_, a2_, a3_, a4_, a5_, a6_, a7_, a8_, a9_⟩ := h_
  obtain ⟨i1_, f1_, j1_⟩ := q_
  refine ⟨i_, jC_fr j1_ f_ (by decide) (by decide) (by decide) (by decide) (by decide) rfl rfl rfl rfl rfl rfl, r_, ?_, ?_, ⟨?_, K_⟩, fun k_ hk_ => ?_, fun k_ hk_ => ?_, jG_fr (jG_fr a9_ f1_) f_⟩
  · rw [fr_arr (t := 98) (i := 0) f_ rfl, fr_arr (t := 98) (i := 0) f1_ rfl, fr_arr (t := 118) (i := 0) f_ rfl, fr_arr (t := 118) (i := 0) f1_ rfl]; exact a4_
  · rw [f_.1 10 0 1 rfl, f1_.1 10 0 1 rfl, f_.1 13 0 2 rfl, f1_.1 13 0 2 rfl]; exact a5_
  · rw [f_.1 10 0 1 rfl, f1_.1 10 0 1 rfl]
    exact ⟨a6_.1.1, by have z_ := a6_.1.2; omega⟩
  · rw [f_.1 3 k_ 0 rfl, f1_.1 3 k_ 0 rfl, fr_arr (t := 153) (i := 0) f_ rfl, fr_arr (t := 153) (i := 0) f1_ rfl]; exact a7_ k_ hk_
  · rw [f_.1 5 k_ 0 rfl, f1_.1 5 k_ 0 rfl, fr_arr (t := 183) (i := 0) f_ rfl, fr_arr (t := 183) (i := 0) f1_ rfl]; exact a8_ k_ hk_
