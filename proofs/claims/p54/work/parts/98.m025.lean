/-! 99.zr9 -/
section
/-! the reference: boxes drawn; written by wip/p55/gen/vg -/

/-! the_ reference: boxes drawn -/
def sn9 (g_ : Nat → Nat) : Nat → Nat
  | 0 => 0
  | n_ + 1 => sn9 g_ n_ + g_ n_
theorem sn9_s (g_ : Nat → Nat) (n_ : Nat) : sn9 g_ (n_ + 1) = sn9 g_ n_ + g_ n_ := rfl
theorem sn9_m (g_ : Nat → Nat) {n_ : Nat} : ∀ {m_ : Nat}, n_ ≤ m_ → sn9 g_ n_ ≤ sn9 g_ m_
  | 0, h_ => by rw [show n_ = 0 by omega]; exact Nat.le_refl _
  | m_ + 1, h_ => by
    by_cases z_ : n_ ≤ m_
    · have := sn9_m g_ z_
      rw [sn9_s]
      omega
    · rw [show n_ = m_ + 1 by omega]; exact Nat.le_refl _
theorem sn9_b {g_ : Nat → Nat} {M_ : Nat} (h_ : ∀ k_, g_ k_ ≤ M_) : ∀ n_, sn9 g_ n_ ≤ n_ * M_
  | 0 => Nat.zero_le _
  | n_ + 1 => by
    have q_ := sn9_b h_ n_
    have z_ := h_ n_
    rw [sn9_s, Nat.succ_mul]
    omega
theorem cn1_m (f_ : Nat → Int) {n_ : Nat} : ∀ {m_ : Nat}, n_ ≤ m_ → cn1 f_ n_ ≤ cn1 f_ m_
  | 0, h_ => by rw [show n_ = 0 by omega]; exact Nat.le_refl _
  | m_ + 1, h_ => by
    by_cases z_ : n_ ≤ m_
    · have := cn1_m f_ z_
      rw [cn1_s]
      omega
    · rw [show n_ = m_ + 1 by omega]; exact Nat.le_refl _
/-- pieces that begin or end -/
def lr9 (S_ : sm_S) (net_ : Int) (y_ x_ : Nat) : Int := if nta S_ ((y_ : Int) * S_.1 13 0 174 + x_) = net_ ∧ S_.2.2.1 253 0 (4712 * S_.1 13 0 177 + ((y_ : Int) * S_.1 13 0 174 + x_)).toNat = 0 then 1 else 0
def lc9 (S_ : sm_S) (net_ : Int) (x_ y_ : Nat) : Int := if nta S_ (S_.1 13 0 174 * S_.1 13 0 175 + ((y_ : Int) * S_.1 13 0 174 + x_)) = net_ ∧ S_.2.2.1 254 0 (4712 * S_.1 13 0 177 + (S_.1 13 0 174 * S_.1 13 0 175 + ((y_ : Int) * S_.1 13 0 174 + x_))).toNat = 0 then 1 else 0
def lv9 (S_ : sm_S) (net_ : Int) (p_ : Nat) : Int := if nta S_ p_ = net_ ∧ S_.2.2.1 255 0 (4712 * S_.1 13 0 177 + p_).toNat ≠ 0 then 1 else 0
def lrc (S_ : sm_S) (net_ : Int) : Nat := sn9 (fun y_ => cn1 (lr9 S_ net_ y_) (S_.1 13 0 174).toNat) (S_.1 13 0 175).toNat
def lcc (S_ : sm_S) (net_ : Int) : Nat := sn9 (fun x_ => cn1 (lc9 S_ net_ x_) (S_.1 13 0 175).toNat) (S_.1 13 0 174).toNat
def lvc (S_ : sm_S) (net_ : Int) : Nat := cn1 (lv9 S_ net_) (S_.1 13 0 174 * S_.1 13 0 175).toNat
def ltn (S_ : sm_S) (n_ : Nat) : Nat := lrc S_ n_ + lcc S_ n_ + lvc S_ n_
def ltt (S_ : sm_S) (N_ : Nat) : Nat := sn9 (ltn S_) N_
theorem ltn_fr {w_ : sx_Wl} {S_ S'_ : sm_S} (g_ : ai_fr (sx_W w_) S_ S'_) (h1_ : (sx_W w_).1 13 174 = false := by rfl) (h2_ : (sx_W w_).1 13 175 = false := by rfl) (h3_ : (sx_W w_).1 13 177 = false := by rfl) (a1_ : (sx_W w_).2.1 252 = false := by rfl) (a2_ : (sx_W w_).2.1 253 = false := by rfl) (a3_ : (sx_W w_).2.1 254 = false := by rfl) (a4_ : (sx_W w_).2.1 255 = false := by rfl) : lrc S'_ = lrc S_ ∧ lcc S'_ = lcc S_ ∧ lvc S'_ = lvc S_ ∧ ltn S'_ = ltn S_ := by
  have e1_ : lrc S'_ = lrc S_ := by
    funext n_
    unfold lrc lr9
    rw [g_.1 13 0 174 h1_, g_.1 13 0 175 h2_, g_.1 13 0 177 h3_, nta_fr g_ h3_ a1_, fr_arr g_ a2_]
  have e2_ : lcc S'_ = lcc S_ := by
    funext n_
    unfold lcc lc9
    rw [g_.1 13 0 174 h1_, g_.1 13 0 175 h2_, g_.1 13 0 177 h3_, nta_fr g_ h3_ a1_, fr_arr g_ a3_]
  have e3_ : lvc S'_ = lvc S_ := by
    funext n_
    unfold lvc lv9
    rw [g_.1 13 0 174 h1_, g_.1 13 0 175 h2_, g_.1 13 0 177 h3_, nta_fr g_ h3_ a1_, fr_arr g_ a4_]
  refine ⟨e1_, e2_, e3_, ?_⟩
  funext n_
  unfold ltn
  rw [e1_, e2_, e3_]
theorem ltt_b {S_ : sm_S} (h_ : grd S_) {N_ : Nat} (hN_ : N_ ≤ 168) : ltt S_ N_ ≤ 2000000 := by
  obtain ⟨g1_, g2_, g3_, g4_, g5_⟩ := h_
  have m_ := grd_m ⟨g1_, g2_, g3_, g4_, g5_⟩
  have b_ : ∀ n_, ltn S_ n_ ≤ 2356 + 2356 + 2356 := by
    intro n_
    have c1_ : lrc S_ n_ ≤ (S_.1 13 0 175).toNat * 62 := sn9_b (fun y_ => by have := cn1_le (lr9 S_ n_ y_) (S_.1 13 0 174).toNat; omega) _
    have c2_ : lcc S_ n_ ≤ (S_.1 13 0 174).toNat * 38 := sn9_b (fun x_ => by have := cn1_le (lc9 S_ n_ x_) (S_.1 13 0 175).toNat; omega) _
    have c3_ : lvc S_ n_ ≤ (S_.1 13 0 174 * S_.1 13 0 175).toNat := cn1_le _ _
    unfold ltn
    omega
  have c_ := sn9_b b_ N_
  unfold ltt
  omega
theorem pt_r {W_ H_ x_ y_ : Int} (hx_ : 0 ≤ x_ ∧ x_ < W_) (hy_ : 0 ≤ y_ ∧ y_ < H_) : 0 ≤ y_ * W_ + x_ ∧ y_ * W_ + x_ < W_ * H_ := by
  have c_ : 0 ≤ y_ * W_ := Int.mul_nonneg hy_.1 (by omega)
  have d_ : (y_ + 1) * W_ ≤ H_ * W_ := Int.mul_le_mul_of_nonneg_right (by omega) (by omega)
  rw [Int.add_mul, Int.one_mul, Int.mul_comm H_] at d_
  omega
def lim9 (S_ : sm_S) : Int := if S_.1 13 0 189 = 0 then 2000 else 2000000
theorem lim9_b (S_ : sm_S) : 2000 ≤ lim9 S_ ∧ lim9 S_ ≤ 2000000 := by
  unfold lim9
  split <;> omega
/-! M_.lay -/
def vw_469 : sx_Wl := ([(13, 188)], [265], [])
def vq_469 (la_ : Int) (x0_ : Int) (y0_ : Int) (x1_ : Int) (y1_ : Int) (S0_ : sm_S) (u_ : Option sm_V) (S1_ : sm_S) : Prop := u_ = none ∧ gi S1_ ∧ ai_fr (sx_W vw_469) S0_ S1_ ∧ (S1_.1 13 0 188 = S0_.1 13 0 188 + 1)
set_option maxHeartbeats 400000 in
set_option maxRecDepth 20000 in
theorem vc_469 {sc_ : Nat × (Nat → Int)} (la_ : Int) (x0_ : Int) (y0_ : Int) (x1_ : Int) (y1_ : Int) (S0_ : sm_S) (hI_ : gi S0_) (hla_ : -1000 ≤ la_ ∧ la_ ≤ 1000) (hx0_ : -1000 ≤ x0_ ∧ x0_ ≤ 1000) (hy0_ : -1000 ≤ y0_ ∧ y0_ ≤ 1000) (hx1_ : -1000 ≤ x1_ ∧ x1_ ≤ 1000) (hy1_ : -1000 ≤ y1_ ∧ y1_ ≤ 1000) (hd_ : (S0_.1 13 0 188) < lim9 S0_) : sm_T (mt_P sc_) 0 469 (0, [some (.inr (.inr (some (13, 0)))), some (.inl la_), some (.inl x0_), some (.inl y0_), some (.inl x1_), some (.inl y1_), none], [], S0_) (fun ro9_ => ∃ u_ S1_, ro9_ = (.inl u_, S1_, 0) ∧ vq_469 la_ x0_ y0_ x1_ y1_ S0_ u_ S1_) := by
  have hF_ : ai_fr (sx_W vw_469) S0_ S0_ := ai_fr_rf
  have l9_ := lim9_b S0_
  have bx1_ : 0 ≤ S0_.1 13 0 189 ∧ S0_.1 13 0 189 ≤ 1 := hI_.1 13 0 189 rfl
  refine sm_T_go 2 (c1 := (4, [some (.inr (.inr (some (13, 0)))), some (.inl la_), some (.inl x0_), some (.inl y0_), some (.inl x1_), some (.inl y1_), none], [.inl (S0_.1 13 0 189)], S0_)) rfl ?_
  refine sm_T_b0 (a := 1) (z := 70) rfl (fun cx2_ => ?_) (fun cx2_ => ?_)
  · have cx2_ : (S0_.1 13 0 189) ≠ 0 := of_decide_eq_true cx2_
    have bx3_ : 0 ≤ S0_.1 13 0 188 ∧ S0_.1 13 0 188 ≤ 2000000 := hI_.1 13 0 188 rfl
    refine sm_T_go 4 (c1 := (80, [some (.inr (.inr (some (13, 0)))), some (.inl la_), some (.inl x0_), some (.inl y0_), some (.inl x1_), some (.inl y1_), none], [.inl 1, .inl (S0_.1 13 0 188), .inr (.inr (some (13, 0)))], S0_)) rfl ?_
    refine sm_T_bin (w := (S0_.1 13 0 188) + 1) rfl (bi_add (by omega) (by omega) (by omega)) ?_ -- pc_ 80
    have hIx4_ : gi (sm_pI S0_ 13 0 188 ((S0_.1 13 0 188) + 1)) := gi_pI hI_ (show 0 ≤ (S0_.1 13 0 188) + 1 ∧ (S0_.1 13 0 188) + 1 ≤ 2000000 from ⟨by omega, by omega⟩)
    have hFx5_ : ai_fr (sx_W vw_469) S0_ (sm_pI S0_ 13 0 188 ((S0_.1 13 0 188) + 1)) := ai_fr_tr hF_ (ai_fr_pI rfl)
    refine sm_T_go 1 (c1 := (84, [some (.inr (.inr (some (13, 0)))), some (.inl la_), some (.inl x0_), some (.inl y0_), some (.inl x1_), some (.inl y1_), none], [], sm_pI S0_ 13 0 188 ((S0_.1 13 0 188) + 1))) rfl ?_
    refine sm_T_rv rfl ⟨_, _, rfl, rfl, hIx4_, hFx5_, ?_⟩
    rw [rf_eq]
  · have cx2_ : ¬ ((S0_.1 13 0 189) ≠ 0) := of_decide_eq_false cx2_
    have l8_ : lim9 S0_ = 2000 := by (unfold lim9; rw [if_pos (by omega)])
    have bx6_ : 0 ≤ S0_.1 13 0 177 ∧ S0_.1 13 0 177 ≤ 3 := hI_.1 13 0 177 rfl
    refine sm_T_go 4 (c1 := (15, [some (.inr (.inr (some (13, 0)))), some (.inl la_), some (.inl x0_), some (.inl y0_), some (.inl x1_), some (.inl y1_), none], [.inl (S0_.1 13 0 177), .inl 2000, .inl 5], S0_)) rfl ?_
    refine sm_T_bin (w := 2000 * (S0_.1 13 0 177)) rfl (bi_mul (by omega) (by omega) (by omega)) ?_ -- pc_ 15
    have bx7_ : 0 ≤ S0_.1 13 0 188 ∧ S0_.1 13 0 188 ≤ 2000000 := hI_.1 13 0 188 rfl
    refine sm_T_go 2 (c1 := (20, [some (.inr (.inr (some (13, 0)))), some (.inl la_), some (.inl x0_), some (.inl y0_), some (.inl x1_), some (.inl y1_), none], [.inl (S0_.1 13 0 188), .inl (2000 * (S0_.1 13 0 177)), .inl 5], S0_)) rfl ?_
    refine sm_T_bin (w := 2000 * (S0_.1 13 0 177) + (S0_.1 13 0 188)) rfl (bi_add (by omega) (by omega) (by omega)) ?_ -- pc_ 20
    refine sm_T_bin (w := 10000 * (S0_.1 13 0 177) + 5 * (S0_.1 13 0 188)) rfl (bi_mul (by omega) (by omega) (by omega)) ?_ -- pc_ 21
    refine sm_T_go 5 (c1 := (31, [some (.inr (.inr (some (13, 0)))), some (.inl la_), some (.inl x0_), some (.inl y0_), some (.inl x1_), some (.inl y1_), some (.inl (10000 * (S0_.1 13 0 177) + 5 * (S0_.1 13 0 188)))], [.inl la_, .inl (10000 * (S0_.1 13 0 177) + 5 * (S0_.1 13 0 188)), .inr (.inr (some (265, 0)))], S0_)) rfl ?_
    refine sm_T_iast (n := 40000) rfl rfl (by omega) (by omega) ?_
    have hIx8_ : gi (sm_aI S0_ 265 0 (10000 * (S0_.1 13 0 177) + 5 * (S0_.1 13 0 188)).toNat la_) := gi_aI hI_ (show (-1000) ≤ la_ ∧ la_ ≤ 1000 from ⟨by omega, by omega⟩)
    have hFx9_ : ai_fr (sx_W vw_469) S0_ (sm_aI S0_ 265 0 (10000 * (S0_.1 13 0 177) + 5 * (S0_.1 13 0 188)).toNat la_) := ai_fr_tr hF_ (ai_fr_aI rfl)
    refine sm_T_go 4 (c1 := (39, [some (.inr (.inr (some (13, 0)))), some (.inl la_), some (.inl x0_), some (.inl y0_), some (.inl x1_), some (.inl y1_), some (.inl (10000 * (S0_.1 13 0 177) + 5 * (S0_.1 13 0 188)))], [.inl 1, .inl (10000 * (S0_.1 13 0 177) + 5 * (S0_.1 13 0 188)), .inr (.inr (some (265, 0)))], sm_aI S0_ 265 0 (10000 * (S0_.1 13 0 177) + 5 * (S0_.1 13 0 188)).toNat la_)) rfl ?_
    refine sm_T_bin (w := 10000 * (S0_.1 13 0 177) + 5 * (S0_.1 13 0 188) + 1) rfl (bi_add (by omega) (by omega) (by omega)) ?_ -- pc_ 39
    refine sm_T_go 1 (c1 := (41, [some (.inr (.inr (some (13, 0)))), some (.inl la_), some (.inl x0_), some (.inl y0_), some (.inl x1_), some (.inl y1_), some (.inl (10000 * (S0_.1 13 0 177) + 5 * (S0_.1 13 0 188)))], [.inl x0_, .inl (10000 * (S0_.1 13 0 177) + 5 * (S0_.1 13 0 188) + 1), .inr (.inr (some (265, 0)))], sm_aI S0_ 265 0 (10000 * (S0_.1 13 0 177) + 5 * (S0_.1 13 0 188)).toNat la_)) rfl ?_
    refine sm_T_iast (n := 40000) rfl rfl (by omega) (by omega) ?_
    have hIx10_ : gi (sm_aI (sm_aI S0_ 265 0 (10000 * (S0_.1 13 0 177) + 5 * (S0_.1 13 0 188)).toNat la_) 265 0 (10000 * (S0_.1 13 0 177) + 5 * (S0_.1 13 0 188) + 1).toNat x0_) := gi_aI hIx8_ (show (-1000) ≤ x0_ ∧ x0_ ≤ 1000 from ⟨by omega, by omega⟩)
    have hFx11_ : ai_fr (sx_W vw_469) S0_ (sm_aI (sm_aI S0_ 265 0 (10000 * (S0_.1 13 0 177) + 5 * (S0_.1 13 0 188)).toNat la_) 265 0 (10000 * (S0_.1 13 0 177) + 5 * (S0_.1 13 0 188) + 1).toNat x0_) := ai_fr_tr hFx9_ (ai_fr_aI rfl)
    refine sm_T_go 4 (c1 := (49, [some (.inr (.inr (some (13, 0)))), some (.inl la_), some (.inl x0_), some (.inl y0_), some (.inl x1_), some (.inl y1_), some (.inl (10000 * (S0_.1 13 0 177) + 5 * (S0_.1 13 0 188)))], [.inl 2, .inl (10000 * (S0_.1 13 0 177) + 5 * (S0_.1 13 0 188)), .inr (.inr (some (265, 0)))], sm_aI (sm_aI S0_ 265 0 (10000 * (S0_.1 13 0 177) + 5 * (S0_.1 13 0 188)).toNat la_) 265 0 (10000 * (S0_.1 13 0 177) + 5 * (S0_.1 13 0 188) + 1).toNat x0_)) rfl ?_
    refine sm_T_bin (w := 10000 * (S0_.1 13 0 177) + 5 * (S0_.1 13 0 188) + 2) rfl (bi_add (by omega) (by omega) (by omega)) ?_ -- pc_ 49
    refine sm_T_go 1 (c1 := (51, [some (.inr (.inr (some (13, 0)))), some (.inl la_), some (.inl x0_), some (.inl y0_), some (.inl x1_), some (.inl y1_), some (.inl (10000 * (S0_.1 13 0 177) + 5 * (S0_.1 13 0 188)))], [.inl y0_, .inl (10000 * (S0_.1 13 0 177) + 5 * (S0_.1 13 0 188) + 2), .inr (.inr (some (265, 0)))], sm_aI (sm_aI S0_ 265 0 (10000 * (S0_.1 13 0 177) + 5 * (S0_.1 13 0 188)).toNat la_) 265 0 (10000 * (S0_.1 13 0 177) + 5 * (S0_.1 13 0 188) + 1).toNat x0_)) rfl ?_
    refine sm_T_iast (n := 40000) rfl rfl (by omega) (by omega) ?_
    have hIx12_ : gi (sm_aI (sm_aI (sm_aI S0_ 265 0 (10000 * (S0_.1 13 0 177) + 5 * (S0_.1 13 0 188)).toNat la_) 265 0 (10000 * (S0_.1 13 0 177) + 5 * (S0_.1 13 0 188) + 1).toNat x0_) 265 0 (10000 * (S0_.1 13 0 177) + 5 * (S0_.1 13 0 188) + 2).toNat y0_) := gi_aI hIx10_ (show (-1000) ≤ y0_ ∧ y0_ ≤ 1000 from ⟨by omega, by omega⟩)
    have hFx13_ : ai_fr (sx_W vw_469) S0_ (sm_aI (sm_aI (sm_aI S0_ 265 0 (10000 * (S0_.1 13 0 177) + 5 * (S0_.1 13 0 188)).toNat la_) 265 0 (10000 * (S0_.1 13 0 177) + 5 * (S0_.1 13 0 188) + 1).toNat x0_) 265 0 (10000 * (S0_.1 13 0 177) + 5 * (S0_.1 13 0 188) + 2).toNat y0_) := ai_fr_tr hFx11_ (ai_fr_aI rfl)
    refine sm_T_go 4 (c1 := (59, [some (.inr (.inr (some (13, 0)))), some (.inl la_), some (.inl x0_), some (.inl y0_), some (.inl x1_), some (.inl y1_), some (.inl (10000 * (S0_.1 13 0 177) + 5 * (S0_.1 13 0 188)))], [.inl 3, .inl (10000 * (S0_.1 13 0 177) + 5 * (S0_.1 13 0 188)), .inr (.inr (some (265, 0)))], sm_aI (sm_aI (sm_aI S0_ 265 0 (10000 * (S0_.1 13 0 177) + 5 * (S0_.1 13 0 188)).toNat la_) 265 0 (10000 * (S0_.1 13 0 177) + 5 * (S0_.1 13 0 188) + 1).toNat x0_) 265 0 (10000 * (S0_.1 13 0 177) + 5 * (S0_.1 13 0 188) + 2).toNat y0_)) rfl ?_
    refine sm_T_bin (w := 10000 * (S0_.1 13 0 177) + 5 * (S0_.1 13 0 188) + 3) rfl (bi_add (by omega) (by omega) (by omega)) ?_ -- pc_ 59
    refine sm_T_go 1 (c1 := (62, [some (.inr (.inr (some (13, 0)))), some (.inl la_), some (.inl x0_), some (.inl y0_), some (.inl x1_), some (.inl y1_), some (.inl (10000 * (S0_.1 13 0 177) + 5 * (S0_.1 13 0 188)))], [.inl x1_, .inl (10000 * (S0_.1 13 0 177) + 5 * (S0_.1 13 0 188) + 3), .inr (.inr (some (265, 0)))], sm_aI (sm_aI (sm_aI S0_ 265 0 (10000 * (S0_.1 13 0 177) + 5 * (S0_.1 13 0 188)).toNat la_) 265 0 (10000 * (S0_.1 13 0 177) + 5 * (S0_.1 13 0 188) + 1).toNat x0_) 265 0 (10000 * (S0_.1 13 0 177) + 5 * (S0_.1 13 0 188) + 2).toNat y0_)) rfl ?_
    refine sm_T_iast (n := 40000) rfl rfl (by omega) (by omega) ?_
    have hIx14_ : gi (sm_aI (sm_aI (sm_aI (sm_aI S0_ 265 0 (10000 * (S0_.1 13 0 177) + 5 * (S0_.1 13 0 188)).toNat la_) 265 0 (10000 * (S0_.1 13 0 177) + 5 * (S0_.1 13 0 188) + 1).toNat x0_) 265 0 (10000 * (S0_.1 13 0 177) + 5 * (S0_.1 13 0 188) + 2).toNat y0_) 265 0 (10000 * (S0_.1 13 0 177) + 5 * (S0_.1 13 0 188) + 3).toNat x1_) := gi_aI hIx12_ (show (-1000) ≤ x1_ ∧ x1_ ≤ 1000 from ⟨by omega, by omega⟩)
    have hFx15_ : ai_fr (sx_W vw_469) S0_ (sm_aI (sm_aI (sm_aI (sm_aI S0_ 265 0 (10000 * (S0_.1 13 0 177) + 5 * (S0_.1 13 0 188)).toNat la_) 265 0 (10000 * (S0_.1 13 0 177) + 5 * (S0_.1 13 0 188) + 1).toNat x0_) 265 0 (10000 * (S0_.1 13 0 177) + 5 * (S0_.1 13 0 188) + 2).toNat y0_) 265 0 (10000 * (S0_.1 13 0 177) + 5 * (S0_.1 13 0 188) + 3).toNat x1_) := ai_fr_tr hFx13_ (ai_fr_aI rfl)
    refine sm_T_go 4 (c1 := (70, [some (.inr (.inr (some (13, 0)))), some (.inl la_), some (.inl x0_), some (.inl y0_), some (.inl x1_), some (.inl y1_), some (.inl (10000 * (S0_.1 13 0 177) + 5 * (S0_.1 13 0 188)))], [.inl 4, .inl (10000 * (S0_.1 13 0 177) + 5 * (S0_.1 13 0 188)), .inr (.inr (some (265, 0)))], sm_aI (sm_aI (sm_aI (sm_aI S0_ 265 0 (10000 * (S0_.1 13 0 177) + 5 * (S0_.1 13 0 188)).toNat la_) 265 0 (10000 * (S0_.1 13 0 177) + 5 * (S0_.1 13 0 188) + 1).toNat x0_) 265 0 (10000 * (S0_.1 13 0 177) + 5 * (S0_.1 13 0 188) + 2).toNat y0_) 265 0 (10000 * (S0_.1 13 0 177) + 5 * (S0_.1 13 0 188) + 3).toNat x1_)) rfl ?_
    refine sm_T_bin (w := 10000 * (S0_.1 13 0 177) + 5 * (S0_.1 13 0 188) + 4) rfl (bi_add (by omega) (by omega) (by omega)) ?_ -- pc_ 70
    refine sm_T_go 1 (c1 := (73, [some (.inr (.inr (some (13, 0)))), some (.inl la_), some (.inl x0_), some (.inl y0_), some (.inl x1_), some (.inl y1_), some (.inl (10000 * (S0_.1 13 0 177) + 5 * (S0_.1 13 0 188)))], [.inl y1_, .inl (10000 * (S0_.1 13 0 177) + 5 * (S0_.1 13 0 188) + 4), .inr (.inr (some (265, 0)))], sm_aI (sm_aI (sm_aI (sm_aI S0_ 265 0 (10000 * (S0_.1 13 0 177) + 5 * (S0_.1 13 0 188)).toNat la_) 265 0 (10000 * (S0_.1 13 0 177) + 5 * (S0_.1 13 0 188) + 1).toNat x0_) 265 0 (10000 * (S0_.1 13 0 177) + 5 * (S0_.1 13 0 188) + 2).toNat y0_) 265 0 (10000 * (S0_.1 13 0 177) + 5 * (S0_.1 13 0 188) + 3).toNat x1_)) rfl ?_
    refine sm_T_iast (n := 40000) rfl rfl (by omega) (by omega) ?_
    have hIx16_ : gi (sm_aI (sm_aI (sm_aI (sm_aI (sm_aI S0_ 265 0 (10000 * (S0_.1 13 0 177) + 5 * (S0_.1 13 0 188)).toNat la_) 265 0 (10000 * (S0_.1 13 0 177) + 5 * (S0_.1 13 0 188) + 1).toNat x0_) 265 0 (10000 * (S0_.1 13 0 177) + 5 * (S0_.1 13 0 188) + 2).toNat y0_) 265 0 (10000 * (S0_.1 13 0 177) + 5 * (S0_.1 13 0 188) + 3).toNat x1_) 265 0 (10000 * (S0_.1 13 0 177) + 5 * (S0_.1 13 0 188) + 4).toNat y1_) := gi_aI hIx14_ (show (-1000) ≤ y1_ ∧ y1_ ≤ 1000 from ⟨by omega, by omega⟩)
    have hFx17_ : ai_fr (sx_W vw_469) S0_ (sm_aI (sm_aI (sm_aI (sm_aI (sm_aI S0_ 265 0 (10000 * (S0_.1 13 0 177) + 5 * (S0_.1 13 0 188)).toNat la_) 265 0 (10000 * (S0_.1 13 0 177) + 5 * (S0_.1 13 0 188) + 1).toNat x0_) 265 0 (10000 * (S0_.1 13 0 177) + 5 * (S0_.1 13 0 188) + 2).toNat y0_) 265 0 (10000 * (S0_.1 13 0 177) + 5 * (S0_.1 13 0 188) + 3).toNat x1_) 265 0 (10000 * (S0_.1 13 0 177) + 5 * (S0_.1 13 0 188) + 4).toNat y1_) := ai_fr_tr hFx15_ (ai_fr_aI rfl)
    refine sm_T_go 4 (c1 := (80, [some (.inr (.inr (some (13, 0)))), some (.inl la_), some (.inl x0_), some (.inl y0_), some (.inl x1_), some (.inl y1_), some (.inl (10000 * (S0_.1 13 0 177) + 5 * (S0_.1 13 0 188)))], [.inl 1, .inl (S0_.1 13 0 188), .inr (.inr (some (13, 0)))], sm_aI (sm_aI (sm_aI (sm_aI (sm_aI S0_ 265 0 (10000 * (S0_.1 13 0 177) + 5 * (S0_.1 13 0 188)).toNat la_) 265 0 (10000 * (S0_.1 13 0 177) + 5 * (S0_.1 13 0 188) + 1).toNat x0_) 265 0 (10000 * (S0_.1 13 0 177) + 5 * (S0_.1 13 0 188) + 2).toNat y0_) 265 0 (10000 * (S0_.1 13 0 177) + 5 * (S0_.1 13 0 188) + 3).toNat x1_) 265 0 (10000 * (S0_.1 13 0 177) + 5 * (S0_.1 13 0 188) + 4).toNat y1_)) rfl ?_
    refine sm_T_bin (w := (S0_.1 13 0 188) + 1) rfl (bi_add (by omega) (by omega) (by omega)) ?_ -- pc_ 80
    have hIx18_ : gi (sm_pI (sm_aI (sm_aI (sm_aI (sm_aI (sm_aI S0_ 265 0 (10000 * (S0_.1 13 0 177) + 5 * (S0_.1 13 0 188)).toNat la_) 265 0 (10000 * (S0_.1 13 0 177) + 5 * (S0_.1 13 0 188) + 1).toNat x0_) 265 0 (10000 * (S0_.1 13 0 177) + 5 * (S0_.1 13 0 188) + 2).toNat y0_) 265 0 (10000 * (S0_.1 13 0 177) + 5 * (S0_.1 13 0 188) + 3).toNat x1_) 265 0 (10000 * (S0_.1 13 0 177) + 5 * (S0_.1 13 0 188) + 4).toNat y1_) 13 0 188 ((S0_.1 13 0 188) + 1)) := gi_pI hIx16_ (show 0 ≤ (S0_.1 13 0 188) + 1 ∧ (S0_.1 13 0 188) + 1 ≤ 2000000 from ⟨by omega, by omega⟩)
    have hFx19_ : ai_fr (sx_W vw_469) S0_ (sm_pI (sm_aI (sm_aI (sm_aI (sm_aI (sm_aI S0_ 265 0 (10000 * (S0_.1 13 0 177) + 5 * (S0_.1 13 0 188)).toNat la_) 265 0 (10000 * (S0_.1 13 0 177) + 5 * (S0_.1 13 0 188) + 1).toNat x0_) 265 0 (10000 * (S0_.1 13 0 177) + 5 * (S0_.1 13 0 188) + 2).toNat y0_) 265 0 (10000 * (S0_.1 13 0 177) + 5 * (S0_.1 13 0 188) + 3).toNat x1_) 265 0 (10000 * (S0_.1 13 0 177) + 5 * (S0_.1 13 0 188) + 4).toNat y1_) 13 0 188 ((S0_.1 13 0 188) + 1)) := ai_fr_tr hFx17_ (ai_fr_pI rfl)
    refine sm_T_go 1 (c1 := (84, [some (.inr (.inr (some (13, 0)))), some (.inl la_), some (.inl x0_), some (.inl y0_), some (.inl x1_), some (.inl y1_), some (.inl (10000 * (S0_.1 13 0 177) + 5 * (S0_.1 13 0 188)))], [], sm_pI (sm_aI (sm_aI (sm_aI (sm_aI (sm_aI S0_ 265 0 (10000 * (S0_.1 13 0 177) + 5 * (S0_.1 13 0 188)).toNat la_) 265 0 (10000 * (S0_.1 13 0 177) + 5 * (S0_.1 13 0 188) + 1).toNat x0_) 265 0 (10000 * (S0_.1 13 0 177) + 5 * (S0_.1 13 0 188) + 2).toNat y0_) 265 0 (10000 * (S0_.1 13 0 177) + 5 * (S0_.1 13 0 188) + 3).toNat x1_) 265 0 (10000 * (S0_.1 13 0 177) + 5 * (S0_.1 13 0 188) + 4).toNat y1_) 13 0 188 ((S0_.1 13 0 188) + 1))) rfl ?_
    refine sm_T_rv rfl ⟨_, _, rfl, rfl, hIx18_, hFx19_, ?_⟩
    rw [rf_eq]
/-! M_.isStep -/
def vw_470x : sx_Wl := ([], [], [])
def vq_470x (p_ : Int) (S0_ : sm_S) (u_ : Option sm_V) (S1_ : sm_S) : Prop := S0_ = S1_ ∧ ∃ v_ : Int, u_ = some (.inl v_) ∧ (v_ = S0_.2.2.1 253 0 (4712 * S0_.1 13 0 177 + p_).toNat ∧ 0 ≤ v_ ∧ v_ ≤ 1)
set_option maxHeartbeats 400000 in
set_option maxRecDepth 20000 in
theorem vc_470x {sc_ : Nat × (Nat → Int)} (p_ : Int) (S0_ : sm_S) (hI_ : gi S0_) (hp_ : 0 ≤ p_ ∧ p_ ≤ 4711) : sm_T (mt_P sc_) 0 470 (0, [some (.inr (.inr (some (13, 0)))), some (.inr (.inr (some (253, 0)))), some (.inl p_)], [], S0_) (fun ro9_ => ∃ u_ S1_, ro9_ = (.inl u_, S1_, 0) ∧ vq_470x p_ S0_ u_ S1_) := by
  have hF_ : ai_fr (sx_W vw_470x) S0_ S0_ := ai_fr_rf
  have bx1_ : 0 ≤ S0_.1 13 0 177 ∧ S0_.1 13 0 177 ≤ 3 := hI_.1 13 0 177 rfl
  refine sm_T_go 4 (c1 := (8, [some (.inr (.inr (some (13, 0)))), some (.inr (.inr (some (253, 0)))), some (.inl p_)], [.inl (S0_.1 13 0 177), .inl 4712, .inr (.inr (some (253, 0)))], S0_)) rfl ?_
  refine sm_T_bin (w := 4712 * (S0_.1 13 0 177)) rfl (bi_mul (by omega) (by omega) (by omega)) ?_ -- pc_ 8
  refine sm_T_go 1 (c1 := (10, [some (.inr (.inr (some (13, 0)))), some (.inr (.inr (some (253, 0)))), some (.inl p_)], [.inl p_, .inl (4712 * (S0_.1 13 0 177)), .inr (.inr (some (253, 0)))], S0_)) rfl ?_
  refine sm_T_bin (w := 4712 * (S0_.1 13 0 177) + p_) rfl (bi_add (by omega) (by omega) (by omega)) ?_ -- pc_ 10
  refine sm_T_zald (n := 18848) rfl rfl (by omega) (by omega) ?_
  have bx2_ : 0 ≤ S0_.2.2.1 253 0 (4712 * (S0_.1 13 0 177) + p_).toNat ∧ S0_.2.2.1 253 0 (4712 * (S0_.1 13 0 177) + p_).toNat ≤ 1 := hI_.2 253 0 _
  refine sm_T_rz rfl (by omega) ⟨_, _, rfl, rfl, _, rfl, ?_⟩
  exact ⟨rfl, by omega, by omega⟩
/-! M_.isStep -/
def vw_470y : sx_Wl := ([], [], [])
def vq_470y (p_ : Int) (S0_ : sm_S) (u_ : Option sm_V) (S1_ : sm_S) : Prop := S0_ = S1_ ∧ ∃ v_ : Int, u_ = some (.inl v_) ∧ (v_ = S0_.2.2.1 254 0 (4712 * S0_.1 13 0 177 + p_).toNat ∧ 0 ≤ v_ ∧ v_ ≤ 1)
set_option maxHeartbeats 400000 in
set_option maxRecDepth 20000 in
theorem vc_470y {sc_ : Nat × (Nat → Int)} (p_ : Int) (S0_ : sm_S) (hI_ : gi S0_) (hp_ : 0 ≤ p_ ∧ p_ ≤ 4711) : sm_T (mt_P sc_) 0 470 (0, [some (.inr (.inr (some (13, 0)))), some (.inr (.inr (some (254, 0)))), some (.inl p_)], [], S0_) (fun ro9_ => ∃ u_ S1_, ro9_ = (.inl u_, S1_, 0) ∧ vq_470y p_ S0_ u_ S1_) := by
  have hF_ : ai_fr (sx_W vw_470y) S0_ S0_ := ai_fr_rf
  have bx1_ : 0 ≤ S0_.1 13 0 177 ∧ S0_.1 13 0 177 ≤ 3 := hI_.1 13 0 177 rfl
  refine sm_T_go 4 (c1 := (8, [some (.inr (.inr (some (13, 0)))), some (.inr (.inr (some (254, 0)))), some (.inl p_)], [.inl (S0_.1 13 0 177), .inl 4712, .inr (.inr (some (254, 0)))], S0_)) rfl ?_
  refine sm_T_bin (w := 4712 * (S0_.1 13 0 177)) rfl (bi_mul (by omega) (by omega) (by omega)) ?_ -- pc_ 8
  refine sm_T_go 1 (c1 := (10, [some (.inr (.inr (some (13, 0)))), some (.inr (.inr (some (254, 0)))), some (.inl p_)], [.inl p_, .inl (4712 * (S0_.1 13 0 177)), .inr (.inr (some (254, 0)))], S0_)) rfl ?_
  refine sm_T_bin (w := 4712 * (S0_.1 13 0 177) + p_) rfl (bi_add (by omega) (by omega) (by omega)) ?_ -- pc_ 10
  refine sm_T_zald (n := 18848) rfl rfl (by omega) (by omega) ?_
  have bx2_ : 0 ≤ S0_.2.2.1 254 0 (4712 * (S0_.1 13 0 177) + p_).toNat ∧ S0_.2.2.1 254 0 (4712 * (S0_.1 13 0 177) + p_).toNat ≤ 1 := hI_.2 254 0 _
  refine sm_T_rz rfl (by omega) ⟨_, _, rfl, rfl, _, rfl, ?_⟩
  exact ⟨rfl, by omega, by omega⟩
/-! M_.isStep -/
def vw_470v : sx_Wl := ([], [], [])
def vq_470v (p_ : Int) (S0_ : sm_S) (u_ : Option sm_V) (S1_ : sm_S) : Prop := S0_ = S1_ ∧ ∃ v_ : Int, u_ = some (.inl v_) ∧ (v_ = S0_.2.2.1 255 0 (4712 * S0_.1 13 0 177 + p_).toNat ∧ 0 ≤ v_ ∧ v_ ≤ 1)
set_option maxHeartbeats 400000 in
set_option maxRecDepth 20000 in
theorem vc_470v {sc_ : Nat × (Nat → Int)} (p_ : Int) (S0_ : sm_S) (hI_ : gi S0_) (hp_ : 0 ≤ p_ ∧ p_ ≤ 4711) : sm_T (mt_P sc_) 0 470 (0, [some (.inr (.inr (some (13, 0)))), some (.inr (.inr (some (255, 0)))), some (.inl p_)], [], S0_) (fun ro9_ => ∃ u_ S1_, ro9_ = (.inl u_, S1_, 0) ∧ vq_470v p_ S0_ u_ S1_) := by
  have hF_ : ai_fr (sx_W vw_470v) S0_ S0_ := ai_fr_rf
  have bx1_ : 0 ≤ S0_.1 13 0 177 ∧ S0_.1 13 0 177 ≤ 3 := hI_.1 13 0 177 rfl
  refine sm_T_go 4 (c1 := (8, [some (.inr (.inr (some (13, 0)))), some (.inr (.inr (some (255, 0)))), some (.inl p_)], [.inl (S0_.1 13 0 177), .inl 4712, .inr (.inr (some (255, 0)))], S0_)) rfl ?_
  refine sm_T_bin (w := 4712 * (S0_.1 13 0 177)) rfl (bi_mul (by omega) (by omega) (by omega)) ?_ -- pc_ 8
  refine sm_T_go 1 (c1 := (10, [some (.inr (.inr (some (13, 0)))), some (.inr (.inr (some (255, 0)))), some (.inl p_)], [.inl p_, .inl (4712 * (S0_.1 13 0 177)), .inr (.inr (some (255, 0)))], S0_)) rfl ?_
  refine sm_T_bin (w := 4712 * (S0_.1 13 0 177) + p_) rfl (bi_add (by omega) (by omega) (by omega)) ?_ -- pc_ 10
  refine sm_T_zald (n := 18848) rfl rfl (by omega) (by omega) ?_
  have bx2_ : 0 ≤ S0_.2.2.1 255 0 (4712 * (S0_.1 13 0 177) + p_).toNat ∧ S0_.2.2.1 255 0 (4712 * (S0_.1 13 0 177) + p_).toNat ≤ 1 := hI_.2 255 0 _
  refine sm_T_rz rfl (by omega) ⟨_, _, rfl, rfl, _, rfl, ?_⟩
  exact ⟨rfl, by omega, by omega⟩
/-! M_.layRows -/
def vw_471 : sx_Wl := ([(13, 188)], [265], [])
def vq_471 (net_ : Int) (S0_ : sm_S) (u_ : Option sm_V) (S1_ : sm_S) : Prop := u_ = none ∧ gi S1_ ∧ ai_fr (sx_W vw_471) S0_ S1_ ∧ (S1_.1 13 0 188 = S0_.1 13 0 188 + (lrc S0_ net_ : Int))
set_option maxHeartbeats 2000000 in
set_option maxRecDepth 20000 in
theorem vl_471 {sc_ : Nat × (Nat → Int)} (net_ : Int) (S0_ : sm_S) (hgr_ : grd S0_) (hn_ : 0 ≤ net_ ∧ net_ ≤ 161) (hd_ : S0_.1 13 0 188 + (lrc S0_ net_ : Int) ≤ lim9 S0_) : ∀ nn_ : Nat, (∀ (y_ : Int) (S_ : sm_S), gi S_ → ai_fr (sx_W vw_471) S0_ S_ → ((0 ≤ y_ ∧ y_ ≤ (S0_.1 13 0 175)) ∧ (S_.1 13 0 188 = S0_.1 13 0 188 + (sn9 (fun q9_ => cn1 (lr9 S0_ net_ q9_) (S0_.1 13 0 174).toNat) y_.toNat : Int)) ∧ True) → ((1000 * (500 - y_) + 900).toNat) < nn_ → sm_T (mt_P sc_) 1 471 (2, [some (.inr (.inr (some (13, 0)))), some (.inl net_), some (.inl y_), none, none, none], [], S_) (fun ro9_ => ∃ u_ S1_, ro9_ = (.inl u_, S1_, 0) ∧ vq_471 net_ S0_ u_ S1_)) ∧ (∀ (y_ : Int) (b_ : Int) (x_ : Int) (S_ : sm_S), gi S_ → ai_fr (sx_W vw_471) S0_ S_ → ((0 ≤ y_ ∧ y_ < (S0_.1 13 0 175) ∧ 0 ≤ x_ ∧ x_ ≤ (S0_.1 13 0 174) ∧ 0 ≤ b_ ∧ b_ ≤ (S0_.1 13 0 174)) ∧ (S_.1 13 0 188 = S0_.1 13 0 188 + (sn9 (fun q9_ => cn1 (lr9 S0_ net_ q9_) (S0_.1 13 0 174).toNat) y_.toNat : Int) + (cn1 (lr9 S0_ net_ y_.toNat) x_.toNat : Int)) ∧ True) → ((1000 * (500 - y_) + 800 - x_).toNat) < nn_ → sm_T (mt_P sc_) 1 471 (15, [some (.inr (.inr (some (13, 0)))), some (.inl net_), some (.inl y_), some (.inl b_), some (.inl x_), none], [], S_) (fun ro9_ => ∃ u_ S1_, ro9_ = (.inl u_, S1_, 0) ∧ vq_471 net_ S0_ u_ S1_)) := by
  intro nn_
  induction nn_ with
  | zero => exact ⟨fun _ _ _ _ _ h_ => absurd h_ (Nat.not_lt_zero _), fun _ _ _ _ _ _ _ h_ => absurd h_ (Nat.not_lt_zero _)⟩
  | succ nn_ ih_ =>
    refine ⟨?_, ?_⟩
    · rintro y_ S_ hI_ hF_ ⟨h0_, h1_, -⟩ hm_
      have g174_ : S_.1 13 0 174 = S0_.1 13 0 174 := hF_.1 13 0 174 rfl
      have g175_ : S_.1 13 0 175 = S0_.1 13 0 175 := hF_.1 13 0 175 rfl
      have g177_ : S_.1 13 0 177 = S0_.1 13 0 177 := hF_.1 13 0 177 rfl
      have g189_ : S_.1 13 0 189 = S0_.1 13 0 189 := hF_.1 13 0 189 rfl
      have lm9_ : lim9 S_ = lim9 S0_ := by (unfold lim9; rw [g189_])
      have l9_ := lim9_b S0_
      have nt9_ : nta S_ = nta S0_ := nta_fr hF_
      have gm9_ := grd_m hgr_
      have g1_ := hgr_.1
      have g2_ := hgr_.2.1
      have g3_ := hgr_.2.2.1
      have g4_ := hgr_.2.2.2.1
      have bx1_ : 0 ≤ S_.1 13 0 175 ∧ S_.1 13 0 175 ≤ 38 := hI_.1 13 0 175 rfl
      refine sm_T_go 3 (c1 := (7, [some (.inr (.inr (some (13, 0)))), some (.inl net_), some (.inl y_), none, none, none], [.inl (S_.1 13 0 175), .inl y_], S_)) rfl ?_
      refine sm_T_br (a := 3) (z := 114) rfl (fun cx2_ => ?_) (fun cx2_ => ?_)
      · have cx2_ : (S_.1 13 0 175) ≤ y_ := of_decide_eq_true cx2_
        refine sm_T_rv rfl ⟨_, _, rfl, rfl, hI_, hF_, ?_⟩
        have z9_ : y_ = (S0_.1 13 0 175) := by omega
        rw [z9_] at h1_
        exact h1_
      · have cx2_ : ¬ ((S_.1 13 0 175) ≤ y_) := of_decide_eq_false cx2_
        refine sm_T_go 4 (c1 := (15, [some (.inr (.inr (some (13, 0)))), some (.inl net_), some (.inl y_), some (.inl 0), some (.inl 0), none], [], S_)) rfl ?_
        refine ih_.2 y_ 0 0 S_ hI_ hF_ ⟨?_, ?_, trivial⟩ ?_
        · omega
        · (rw [show (0 : Int).toNat = 0 from rfl]; show S_.1 13 0 188 = _ + ((0 : Nat) : Int); omega)
        · omega
    · rintro y_ b_ x_ S_ hI_ hF_ ⟨h0_, h1_, -⟩ hm_
      have g174_ : S_.1 13 0 174 = S0_.1 13 0 174 := hF_.1 13 0 174 rfl
      have g175_ : S_.1 13 0 175 = S0_.1 13 0 175 := hF_.1 13 0 175 rfl
      have g177_ : S_.1 13 0 177 = S0_.1 13 0 177 := hF_.1 13 0 177 rfl
      have g189_ : S_.1 13 0 189 = S0_.1 13 0 189 := hF_.1 13 0 189 rfl
      have lm9_ : lim9 S_ = lim9 S0_ := by (unfold lim9; rw [g189_])
      have l9_ := lim9_b S0_
      have nt9_ : nta S_ = nta S0_ := nta_fr hF_
      have gm9_ := grd_m hgr_
      have g1_ := hgr_.1
      have g2_ := hgr_.2.1
      have g3_ := hgr_.2.2.1
      have g4_ := hgr_.2.2.2.1
      have bx1_ : 0 ≤ S_.1 13 0 174 ∧ S_.1 13 0 174 ≤ 62 := hI_.1 13 0 174 rfl
      refine sm_T_go 3 (c1 := (21, [some (.inr (.inr (some (13, 0)))), some (.inl net_), some (.inl y_), some (.inl b_), some (.inl x_), none], [.inl (S_.1 13 0 174), .inl x_], S_)) rfl ?_
      refine sm_T_br (a := 3) (z := 94) rfl (fun cx2_ => ?_) (fun cx2_ => ?_)
      · have cx2_ : (S_.1 13 0 174) ≤ x_ := of_decide_eq_true cx2_
        refine sm_T_inc (a := 2) (z := 1) (v := y_) (w := y_ + 1) rfl rfl (by omega) (by omega) (by omega) ?_ -- pc_ 115
        refine sm_T_go 1 (c1 := (2, [some (.inr (.inr (some (13, 0)))), some (.inl net_), some (.inl (y_ + 1)), some (.inl b_), some (.inl x_), none], [], S_)) rfl ?_
        refine sm_T_wk [some (.inr (.inr (some (13, 0)))), some (.inl net_), some (.inl (y_ + 1)), none, none, none] (by exact ⟨rfl, rfl, rfl, trivial⟩) ?_
        refine ih_.1 (y_ + 1) S_ hI_ hF_ ⟨?_, ?_, trivial⟩ ?_
        · omega
        · rw [show (y_ + 1).toNat = y_.toNat + 1 by omega, sn9_s]
          have z9_ : x_ = (S0_.1 13 0 174) := by omega
          rw [z9_] at h1_
          push_cast
          omega
        · omega
      · have cx2_ : ¬ ((S_.1 13 0 174) ≤ x_) := of_decide_eq_false cx2_
        have pr9_ := pt_r (W_ := S0_.1 13 0 174) (H_ := S0_.1 13 0 175) (x_ := x_) (y_ := y_) (by omega) (by omega)
        have dd_ : (lrc S0_ net_ : Int) = (sn9 (fun q9_ => cn1 (lr9 S0_ net_ q9_) (S0_.1 13 0 174).toNat) (S0_.1 13 0 175).toNat : Int) := rfl
        have u9_ : lr9 S0_ net_ y_.toNat x_.toNat = if nta S0_ ((y_ * S0_.1 13 0 174 + x_)) = net_ ∧ S0_.2.2.1 253 0 (4712 * S0_.1 13 0 177 + ((y_ * S0_.1 13 0 174 + x_))).toNat = 0 then 1 else 0 := by (unfold lr9; rw [show ((y_.toNat : Nat) : Int) = y_ by omega, show ((x_.toNat : Nat) : Int) = x_ by omega])
        have s9_ := cn1_s (lr9 S0_ net_ y_.toNat) x_.toNat
        have m9_ := cn1_m (lr9 S0_ net_ y_.toNat) (n_ := x_.toNat + 1) (m_ := (S0_.1 13 0 174).toNat) (by omega)
        have t9_ : sn9 (fun q9_ => cn1 (lr9 S0_ net_ q9_) (S0_.1 13 0 174).toNat) (y_.toNat + 1) = sn9 (fun q9_ => cn1 (lr9 S0_ net_ q9_) (S0_.1 13 0 174).toNat) y_.toNat + cn1 (lr9 S0_ net_ y_.toNat) (S0_.1 13 0 174).toNat := sn9_s _ _
        have yw9_ : 0 ≤ y_ * S0_.1 13 0 174 := Int.mul_nonneg (by omega) (by omega)
        have wh9_ := mle (W_ := S0_.1 13 0 174) (a_ := 1) (b_ := S0_.1 13 0 175) (by omega) (by omega)
        rw [Int.mul_one] at wh9_
        have gp9_ : S_.1 13 0 174 * S_.1 13 0 175 = S0_.1 13 0 174 * S0_.1 13 0 175 := by rw [g174_, g175_]
        have v9_ := sn9_m (fun q9_ => cn1 (lr9 S0_ net_ q9_) (S0_.1 13 0 174).toNat) (n_ := y_.toNat + 1) (m_ := (S0_.1 13 0 175).toNat) (by omega)
        have T9_ : (x_ + 1).toNat = x_.toNat + 1 := by omega
        have a9_ : S_.2.2.1 253 0 = S0_.2.2.1 253 0 := fr_arr hF_ rfl
        refine sm_T_go 3 (c1 := (28, [some (.inr (.inr (some (13, 0)))), some (.inl net_), some (.inl y_), some (.inl b_), some (.inl x_), none], [.inl y_, .inl x_, .inr (.inr (some (13, 0)))], S_)) rfl ?_
        refine sm_T_cal (d1 := 0) (Q1 := vq_452 x_ y_ S_) rfl rfl (by decide) (vc_452 x_ y_ S_ hI_ (by omega) (by omega)) (fun u_ Sx3_ px6_ => ?_)
        obtain ⟨rfl, vx8_, rfl, px6_⟩ := px6_
        have e28_ := px6_
        rw [g174_] at e28_
        refine sm_T_go 2 (c1 := (35, [some (.inr (.inr (some (13, 0)))), some (.inl net_), some (.inl y_), some (.inl b_), some (.inl x_), some (.inl vx8_)], [.inl x_], S_)) rfl ?_
        refine sm_T_b0 (a := 5) (z := 22) rfl (fun cx9_ => ?_) (fun cx9_ => ?_)
        · have cx9_ : x_ ≤ 0 := of_decide_eq_true cx9_
          refine sm_T_go 4 (c1 := (63, [some (.inr (.inr (some (13, 0)))), some (.inl net_), some (.inl y_), some (.inl x_), some (.inl x_), some (.inl vx8_)], [.inl vx8_, .inr (.inr (some (13, 0)))], S_)) rfl ?_
          refine sm_T_cal (d1 := 0) (Q1 := vq_454 vx8_ S_) rfl rfl (by decide) (vc_454 vx8_ S_ hI_ (by omega)) (fun u_ Sx10_ px13_ => ?_)
          obtain ⟨rfl, vx15_, rfl, px13_⟩ := px13_
          have eN_ := px13_
          rw [nt9_, e28_] at eN_
          refine sm_T_go 1 (c1 := (67, [some (.inr (.inr (some (13, 0)))), some (.inl net_), some (.inl y_), some (.inl x_), some (.inl x_), some (.inl vx8_)], [.inl net_, .inl vx15_], S_)) rfl ?_
          refine sm_T_br (a := 1) (z := 42) rfl (fun cx16_ => ?_) (fun cx16_ => ?_)
          · have cx16_ : vx15_ ≠ net_ := of_decide_eq_true cx16_
            refine sm_T_inc (a := 4) (z := 1) (v := x_) (w := x_ + 1) rfl rfl (by omega) (by omega) (by omega) ?_ -- pc_ 109
            refine sm_T_go 1 (c1 := (15, [some (.inr (.inr (some (13, 0)))), some (.inl net_), some (.inl y_), some (.inl x_), some (.inl (x_ + 1)), some (.inl vx8_)], [], S_)) rfl ?_
            refine sm_T_wk [some (.inr (.inr (some (13, 0)))), some (.inl net_), some (.inl y_), some (.inl x_), some (.inl (x_ + 1)), none] (by exact ⟨rfl, rfl, rfl, rfl, rfl, trivial⟩) ?_
            refine ih_.2 y_ x_ (x_ + 1) S_ hI_ hF_ ⟨?_, ?_, trivial⟩ ?_
            · omega
            · first | (rw [T9_, s9_]; push_cast; omega) | (rw [if_neg (by omega)] at u9_; rw [u9_, if_neg (by decide)] at s9_; rw [T9_, s9_]; push_cast; omega)
            · omega
          · have cx16_ : ¬ (vx15_ ≠ net_) := of_decide_eq_false cx16_
            refine sm_T_go 4 (c1 := (77, [some (.inr (.inr (some (13, 0)))), some (.inl net_), some (.inl y_), some (.inl x_), some (.inl x_), some (.inl vx8_)], [.inl vx8_, .inr (.inr (some (253, 0))), .inr (.inr (some (13, 0)))], S_)) rfl ?_
            refine sm_T_cal (d1 := 0) (Q1 := vq_470x vx8_ S_) rfl rfl (by decide) (vc_470x vx8_ S_ hI_ (by omega)) (fun u_ Sx17_ px20_ => ?_)
            obtain ⟨rfl, vx22_, rfl, px20_⟩ := px20_
            have eB_ := px20_
            rw [a9_, g177_, e28_] at eB_
            refine sm_T_b0 (a := 1) (z := 29) rfl (fun cx23_ => ?_) (fun cx23_ => ?_)
            · have cx23_ : vx22_ ≠ 0 := of_decide_eq_true cx23_
              refine sm_T_inc (a := 4) (z := 1) (v := x_) (w := x_ + 1) rfl rfl (by omega) (by omega) (by omega) ?_ -- pc_ 109
              refine sm_T_go 1 (c1 := (15, [some (.inr (.inr (some (13, 0)))), some (.inl net_), some (.inl y_), some (.inl x_), some (.inl (x_ + 1)), some (.inl vx8_)], [], S_)) rfl ?_
              refine sm_T_wk [some (.inr (.inr (some (13, 0)))), some (.inl net_), some (.inl y_), some (.inl x_), some (.inl (x_ + 1)), none] (by exact ⟨rfl, rfl, rfl, rfl, rfl, trivial⟩) ?_
              refine ih_.2 y_ x_ (x_ + 1) S_ hI_ hF_ ⟨?_, ?_, trivial⟩ ?_
              · omega
              · first | (rw [T9_, s9_]; push_cast; omega) | (rw [if_neg (by omega)] at u9_; rw [u9_, if_neg (by decide)] at s9_; rw [T9_, s9_]; push_cast; omega)
              · omega
            · have cx23_ : ¬ (vx22_ ≠ 0) := of_decide_eq_false cx23_
              rw [if_pos ⟨by omega, by omega⟩] at u9_
              rw [u9_, if_pos rfl] at s9_
              refine sm_T_go 4 (c1 := (87, [some (.inr (.inr (some (13, 0)))), some (.inl net_), some (.inl y_), some (.inl x_), some (.inl x_), some (.inl vx8_)], [.inl x_, .inl 4, .inl 0, .inr (.inr (some (13, 0)))], S_)) rfl ?_
              refine sm_T_bin (w := 4 * x_) rfl (bi_mul (by omega) (by omega) (by omega)) ?_ -- pc_ 87
              refine sm_T_go 1 (c1 := (89, [some (.inr (.inr (some (13, 0)))), some (.inl net_), some (.inl y_), some (.inl x_), some (.inl x_), some (.inl vx8_)], [.inl 1, .inl (4 * x_), .inl 0, .inr (.inr (some (13, 0)))], S_)) rfl ?_
              refine sm_T_bin (w := 4 * x_ - 1) rfl (bi_sub (by omega) (by omega) (by omega)) ?_ -- pc_ 89
              refine sm_T_go 2 (c1 := (92, [some (.inr (.inr (some (13, 0)))), some (.inl net_), some (.inl y_), some (.inl x_), some (.inl x_), some (.inl vx8_)], [.inl y_, .inl 4, .inl (4 * x_ - 1), .inl 0, .inr (.inr (some (13, 0)))], S_)) rfl ?_
              refine sm_T_bin (w := 4 * y_) rfl (bi_mul (by omega) (by omega) (by omega)) ?_ -- pc_ 92
              refine sm_T_go 1 (c1 := (94, [some (.inr (.inr (some (13, 0)))), some (.inl net_), some (.inl y_), some (.inl x_), some (.inl x_), some (.inl vx8_)], [.inl 1, .inl (4 * y_), .inl (4 * x_ - 1), .inl 0, .inr (.inr (some (13, 0)))], S_)) rfl ?_
              refine sm_T_bin (w := 4 * y_ - 1) rfl (bi_sub (by omega) (by omega) (by omega)) ?_ -- pc_ 94
              refine sm_T_go 2 (c1 := (98, [some (.inr (.inr (some (13, 0)))), some (.inl net_), some (.inl y_), some (.inl x_), some (.inl x_), some (.inl vx8_)], [.inl x_, .inl 4, .inl (4 * y_ - 1), .inl (4 * x_ - 1), .inl 0, .inr (.inr (some (13, 0)))], S_)) rfl ?_
              refine sm_T_bin (w := 4 * x_) rfl (bi_mul (by omega) (by omega) (by omega)) ?_ -- pc_ 98
              refine sm_T_go 1 (c1 := (100, [some (.inr (.inr (some (13, 0)))), some (.inl net_), some (.inl y_), some (.inl x_), some (.inl x_), some (.inl vx8_)], [.inl 1, .inl (4 * x_), .inl (4 * y_ - 1), .inl (4 * x_ - 1), .inl 0, .inr (.inr (some (13, 0)))], S_)) rfl ?_
              refine sm_T_bin (w := 4 * x_ + 1) rfl (bi_add (by omega) (by omega) (by omega)) ?_ -- pc_ 100
              refine sm_T_go 2 (c1 := (103, [some (.inr (.inr (some (13, 0)))), some (.inl net_), some (.inl y_), some (.inl x_), some (.inl x_), some (.inl vx8_)], [.inl y_, .inl 4, .inl (4 * x_ + 1), .inl (4 * y_ - 1), .inl (4 * x_ - 1), .inl 0, .inr (.inr (some (13, 0)))], S_)) rfl ?_
              refine sm_T_bin (w := 4 * y_) rfl (bi_mul (by omega) (by omega) (by omega)) ?_ -- pc_ 103
              refine sm_T_go 1 (c1 := (105, [some (.inr (.inr (some (13, 0)))), some (.inl net_), some (.inl y_), some (.inl x_), some (.inl x_), some (.inl vx8_)], [.inl 1, .inl (4 * y_), .inl (4 * x_ + 1), .inl (4 * y_ - 1), .inl (4 * x_ - 1), .inl 0, .inr (.inr (some (13, 0)))], S_)) rfl ?_
              refine sm_T_bin (w := 4 * y_ + 1) rfl (bi_add (by omega) (by omega) (by omega)) ?_ -- pc_ 105
              refine sm_T_cal (d1 := 0) (Q1 := vq_469 0 (4 * x_ - 1) (4 * y_ - 1) (4 * x_ + 1) (4 * y_ + 1) S_) rfl rfl (by decide) (vc_469 0 (4 * x_ - 1) (4 * y_ - 1) (4 * x_ + 1) (4 * y_ + 1) S_ hI_ (by omega) (by omega) (by omega) (by omega) (by omega) (by (rw [lm9_]; push_cast at *; omega))) (fun u_ Sx24_ px27_ => ?_)
              obtain ⟨rfl, hIx25_, hFx26_, px27_⟩ := px27_
              have hFx28_ : ai_fr (sx_W vw_471) S0_ Sx24_ := ai_fr_tr hF_ (fr_le hFx26_ rfl)
              have ex29_ : Sx24_.1 13 0 174 = S_.1 13 0 174 := hFx26_.1 13 0 174 rfl
              have eL_ := px27_
              refine sm_T_inc (a := 4) (z := 1) (v := x_) (w := x_ + 1) rfl rfl (by omega) (by omega) (by omega) ?_ -- pc_ 109
              refine sm_T_go 1 (c1 := (15, [some (.inr (.inr (some (13, 0)))), some (.inl net_), some (.inl y_), some (.inl x_), some (.inl (x_ + 1)), some (.inl vx8_)], [], Sx24_)) rfl ?_
              refine sm_T_wk [some (.inr (.inr (some (13, 0)))), some (.inl net_), some (.inl y_), some (.inl x_), some (.inl (x_ + 1)), none] (by exact ⟨rfl, rfl, rfl, rfl, rfl, trivial⟩) ?_
              refine ih_.2 y_ x_ (x_ + 1) Sx24_ hIx25_ hFx28_ ⟨?_, ?_, trivial⟩ ?_
              · omega
              · first | (rw [T9_, s9_]; push_cast; omega) | (rw [if_neg (by omega)] at u9_; rw [u9_, if_neg (by decide)] at s9_; rw [T9_, s9_]; push_cast; omega)
              · omega
        · have cx9_ : ¬ (x_ ≤ 0) := of_decide_eq_false cx9_
          refine sm_T_go 5 (c1 := (46, [some (.inr (.inr (some (13, 0)))), some (.inl net_), some (.inl y_), some (.inl b_), some (.inl x_), some (.inl vx8_)], [.inl 1, .inl vx8_, .inr (.inr (some (253, 0))), .inr (.inr (some (13, 0)))], S_)) rfl ?_
          refine sm_T_bin (w := vx8_ - 1) rfl (bi_sub (by omega) (by omega) (by omega)) ?_ -- pc_ 46
          refine sm_T_cal (d1 := 0) (Q1 := vq_470x (vx8_ - 1) S_) rfl rfl (by decide) (vc_470x (vx8_ - 1) S_ hI_ (by omega)) (fun u_ Sx30_ px33_ => ?_)
          obtain ⟨rfl, vx35_, rfl, px33_⟩ := px33_
          refine sm_T_b0 (a := 0) (z := 7) rfl (fun cx36_ => ?_) (fun cx36_ => ?_)
          · have cx36_ : vx35_ = 0 := of_decide_eq_true cx36_
            refine sm_T_go 4 (c1 := (63, [some (.inr (.inr (some (13, 0)))), some (.inl net_), some (.inl y_), some (.inl x_), some (.inl x_), some (.inl vx8_)], [.inl vx8_, .inr (.inr (some (13, 0)))], S_)) rfl ?_
            refine sm_T_cal (d1 := 0) (Q1 := vq_454 vx8_ S_) rfl rfl (by decide) (vc_454 vx8_ S_ hI_ (by omega)) (fun u_ Sx37_ px40_ => ?_)
            obtain ⟨rfl, vx42_, rfl, px40_⟩ := px40_
            have eN_ := px40_
            rw [nt9_, e28_] at eN_
            refine sm_T_go 1 (c1 := (67, [some (.inr (.inr (some (13, 0)))), some (.inl net_), some (.inl y_), some (.inl x_), some (.inl x_), some (.inl vx8_)], [.inl net_, .inl vx42_], S_)) rfl ?_
            refine sm_T_br (a := 1) (z := 42) rfl (fun cx43_ => ?_) (fun cx43_ => ?_)
            · have cx43_ : vx42_ ≠ net_ := of_decide_eq_true cx43_
              refine sm_T_inc (a := 4) (z := 1) (v := x_) (w := x_ + 1) rfl rfl (by omega) (by omega) (by omega) ?_ -- pc_ 109
              refine sm_T_go 1 (c1 := (15, [some (.inr (.inr (some (13, 0)))), some (.inl net_), some (.inl y_), some (.inl x_), some (.inl (x_ + 1)), some (.inl vx8_)], [], S_)) rfl ?_
              refine sm_T_wk [some (.inr (.inr (some (13, 0)))), some (.inl net_), some (.inl y_), some (.inl x_), some (.inl (x_ + 1)), none] (by exact ⟨rfl, rfl, rfl, rfl, rfl, trivial⟩) ?_
              refine ih_.2 y_ x_ (x_ + 1) S_ hI_ hF_ ⟨?_, ?_, trivial⟩ ?_
              · omega
              · first | (rw [T9_, s9_]; push_cast; omega) | (rw [if_neg (by omega)] at u9_; rw [u9_, if_neg (by decide)] at s9_; rw [T9_, s9_]; push_cast; omega)
              · omega
            · have cx43_ : ¬ (vx42_ ≠ net_) := of_decide_eq_false cx43_
              refine sm_T_go 4 (c1 := (77, [some (.inr (.inr (some (13, 0)))), some (.inl net_), some (.inl y_), some (.inl x_), some (.inl x_), some (.inl vx8_)], [.inl vx8_, .inr (.inr (some (253, 0))), .inr (.inr (some (13, 0)))], S_)) rfl ?_
              refine sm_T_cal (d1 := 0) (Q1 := vq_470x vx8_ S_) rfl rfl (by decide) (vc_470x vx8_ S_ hI_ (by omega)) (fun u_ Sx44_ px47_ => ?_)
              obtain ⟨rfl, vx49_, rfl, px47_⟩ := px47_
              have eB_ := px47_
              rw [a9_, g177_, e28_] at eB_
              refine sm_T_b0 (a := 1) (z := 29) rfl (fun cx50_ => ?_) (fun cx50_ => ?_)
              · have cx50_ : vx49_ ≠ 0 := of_decide_eq_true cx50_
                refine sm_T_inc (a := 4) (z := 1) (v := x_) (w := x_ + 1) rfl rfl (by omega) (by omega) (by omega) ?_ -- pc_ 109
                refine sm_T_go 1 (c1 := (15, [some (.inr (.inr (some (13, 0)))), some (.inl net_), some (.inl y_), some (.inl x_), some (.inl (x_ + 1)), some (.inl vx8_)], [], S_)) rfl ?_
                refine sm_T_wk [some (.inr (.inr (some (13, 0)))), some (.inl net_), some (.inl y_), some (.inl x_), some (.inl (x_ + 1)), none] (by exact ⟨rfl, rfl, rfl, rfl, rfl, trivial⟩) ?_
                refine ih_.2 y_ x_ (x_ + 1) S_ hI_ hF_ ⟨?_, ?_, trivial⟩ ?_
                · omega
                · first | (rw [T9_, s9_]; push_cast; omega) | (rw [if_neg (by omega)] at u9_; rw [u9_, if_neg (by decide)] at s9_; rw [T9_, s9_]; push_cast; omega)
                · omega
              · have cx50_ : ¬ (vx49_ ≠ 0) := of_decide_eq_false cx50_
                rw [if_pos ⟨by omega, by omega⟩] at u9_
                rw [u9_, if_pos rfl] at s9_
                refine sm_T_go 4 (c1 := (87, [some (.inr (.inr (some (13, 0)))), some (.inl net_), some (.inl y_), some (.inl x_), some (.inl x_), some (.inl vx8_)], [.inl x_, .inl 4, .inl 0, .inr (.inr (some (13, 0)))], S_)) rfl ?_
                refine sm_T_bin (w := 4 * x_) rfl (bi_mul (by omega) (by omega) (by omega)) ?_ -- pc_ 87
                refine sm_T_go 1 (c1 := (89, [some (.inr (.inr (some (13, 0)))), some (.inl net_), some (.inl y_), some (.inl x_), some (.inl x_), some (.inl vx8_)], [.inl 1, .inl (4 * x_), .inl 0, .inr (.inr (some (13, 0)))], S_)) rfl ?_
                refine sm_T_bin (w := 4 * x_ - 1) rfl (bi_sub (by omega) (by omega) (by omega)) ?_ -- pc_ 89
                refine sm_T_go 2 (c1 := (92, [some (.inr (.inr (some (13, 0)))), some (.inl net_), some (.inl y_), some (.inl x_), some (.inl x_), some (.inl vx8_)], [.inl y_, .inl 4, .inl (4 * x_ - 1), .inl 0, .inr (.inr (some (13, 0)))], S_)) rfl ?_
                refine sm_T_bin (w := 4 * y_) rfl (bi_mul (by omega) (by omega) (by omega)) ?_ -- pc_ 92
                refine sm_T_go 1 (c1 := (94, [some (.inr (.inr (some (13, 0)))), some (.inl net_), some (.inl y_), some (.inl x_), some (.inl x_), some (.inl vx8_)], [.inl 1, .inl (4 * y_), .inl (4 * x_ - 1), .inl 0, .inr (.inr (some (13, 0)))], S_)) rfl ?_
                refine sm_T_bin (w := 4 * y_ - 1) rfl (bi_sub (by omega) (by omega) (by omega)) ?_ -- pc_ 94
                refine sm_T_go 2 (c1 := (98, [some (.inr (.inr (some (13, 0)))), some (.inl net_), some (.inl y_), some (.inl x_), some (.inl x_), some (.inl vx8_)], [.inl x_, .inl 4, .inl (4 * y_ - 1), .inl (4 * x_ - 1), .inl 0, .inr (.inr (some (13, 0)))], S_)) rfl ?_
                refine sm_T_bin (w := 4 * x_) rfl (bi_mul (by omega) (by omega) (by omega)) ?_ -- pc_ 98
                refine sm_T_go 1 (c1 := (100, [some (.inr (.inr (some (13, 0)))), some (.inl net_), some (.inl y_), some (.inl x_), some (.inl x_), some (.inl vx8_)], [.inl 1, .inl (4 * x_), .inl (4 * y_ - 1), .inl (4 * x_ - 1), .inl 0, .inr (.inr (some (13, 0)))], S_)) rfl ?_
                refine sm_T_bin (w := 4 * x_ + 1) rfl (bi_add (by omega) (by omega) (by omega)) ?_ -- pc_ 100
                refine sm_T_go 2 (c1 := (103, [some (.inr (.inr (some (13, 0)))), some (.inl net_), some (.inl y_), some (.inl x_), some (.inl x_), some (.inl vx8_)], [.inl y_, .inl 4, .inl (4 * x_ + 1), .inl (4 * y_ - 1), .inl (4 * x_ - 1), .inl 0, .inr (.inr (some (13, 0)))], S_)) rfl ?_
                refine sm_T_bin (w := 4 * y_) rfl (bi_mul (by omega) (by omega) (by omega)) ?_ -- pc_ 103
                refine sm_T_go 1 (c1 := (105, [some (.inr (.inr (some (13, 0)))), some (.inl net_), some (.inl y_), some (.inl x_), some (.inl x_), some (.inl vx8_)], [.inl 1, .inl (4 * y_), .inl (4 * x_ + 1), .inl (4 * y_ - 1), .inl (4 * x_ - 1), .inl 0, .inr (.inr (some (13, 0)))], S_)) rfl ?_
                refine sm_T_bin (w := 4 * y_ + 1) rfl (bi_add (by omega) (by omega) (by omega)) ?_ -- pc_ 105
                refine sm_T_cal (d1 := 0) (Q1 := vq_469 0 (4 * x_ - 1) (4 * y_ - 1) (4 * x_ + 1) (4 * y_ + 1) S_) rfl rfl (by decide) (vc_469 0 (4 * x_ - 1) (4 * y_ - 1) (4 * x_ + 1) (4 * y_ + 1) S_ hI_ (by omega) (by omega) (by omega) (by omega) (by omega) (by (rw [lm9_]; push_cast at *; omega))) (fun u_ Sx51_ px54_ => ?_)
                obtain ⟨rfl, hIx52_, hFx53_, px54_⟩ := px54_
                have hFx55_ : ai_fr (sx_W vw_471) S0_ Sx51_ := ai_fr_tr hF_ (fr_le hFx53_ rfl)
                have ex56_ : Sx51_.1 13 0 174 = S_.1 13 0 174 := hFx53_.1 13 0 174 rfl
                have eL_ := px54_
                refine sm_T_inc (a := 4) (z := 1) (v := x_) (w := x_ + 1) rfl rfl (by omega) (by omega) (by omega) ?_ -- pc_ 109
                refine sm_T_go 1 (c1 := (15, [some (.inr (.inr (some (13, 0)))), some (.inl net_), some (.inl y_), some (.inl x_), some (.inl (x_ + 1)), some (.inl vx8_)], [], Sx51_)) rfl ?_
                refine sm_T_wk [some (.inr (.inr (some (13, 0)))), some (.inl net_), some (.inl y_), some (.inl x_), some (.inl (x_ + 1)), none] (by exact ⟨rfl, rfl, rfl, rfl, rfl, trivial⟩) ?_
                refine ih_.2 y_ x_ (x_ + 1) Sx51_ hIx52_ hFx55_ ⟨?_, ?_, trivial⟩ ?_
                · omega
                · first | (rw [T9_, s9_]; push_cast; omega) | (rw [if_neg (by omega)] at u9_; rw [u9_, if_neg (by decide)] at s9_; rw [T9_, s9_]; push_cast; omega)
                · omega
          · have cx36_ : ¬ (vx35_ = 0) := of_decide_eq_false cx36_
            refine sm_T_go 5 (c1 := (63, [some (.inr (.inr (some (13, 0)))), some (.inl net_), some (.inl y_), some (.inl b_), some (.inl x_), some (.inl vx8_)], [.inl vx8_, .inr (.inr (some (13, 0)))], S_)) rfl ?_
            refine sm_T_cal (d1 := 0) (Q1 := vq_454 vx8_ S_) rfl rfl (by decide) (vc_454 vx8_ S_ hI_ (by omega)) (fun u_ Sx57_ px60_ => ?_)
            obtain ⟨rfl, vx62_, rfl, px60_⟩ := px60_
            have eN_ := px60_
            rw [nt9_, e28_] at eN_
            refine sm_T_go 1 (c1 := (67, [some (.inr (.inr (some (13, 0)))), some (.inl net_), some (.inl y_), some (.inl b_), some (.inl x_), some (.inl vx8_)], [.inl net_, .inl vx62_], S_)) rfl ?_
            refine sm_T_br (a := 1) (z := 42) rfl (fun cx63_ => ?_) (fun cx63_ => ?_)
            · have cx63_ : vx62_ ≠ net_ := of_decide_eq_true cx63_
              refine sm_T_inc (a := 4) (z := 1) (v := x_) (w := x_ + 1) rfl rfl (by omega) (by omega) (by omega) ?_ -- pc_ 109
              refine sm_T_go 1 (c1 := (15, [some (.inr (.inr (some (13, 0)))), some (.inl net_), some (.inl y_), some (.inl b_), some (.inl (x_ + 1)), some (.inl vx8_)], [], S_)) rfl ?_
              refine sm_T_wk [some (.inr (.inr (some (13, 0)))), some (.inl net_), some (.inl y_), some (.inl b_), some (.inl (x_ + 1)), none] (by exact ⟨rfl, rfl, rfl, rfl, rfl, trivial⟩) ?_
              refine ih_.2 y_ b_ (x_ + 1) S_ hI_ hF_ ⟨?_, ?_, trivial⟩ ?_
              · omega
              · first | (rw [T9_, s9_]; push_cast; omega) | (rw [if_neg (by omega)] at u9_; rw [u9_, if_neg (by decide)] at s9_; rw [T9_, s9_]; push_cast; omega)
              · omega
            · have cx63_ : ¬ (vx62_ ≠ net_) := of_decide_eq_false cx63_
              refine sm_T_go 4 (c1 := (77, [some (.inr (.inr (some (13, 0)))), some (.inl net_), some (.inl y_), some (.inl b_), some (.inl x_), some (.inl vx8_)], [.inl vx8_, .inr (.inr (some (253, 0))), .inr (.inr (some (13, 0)))], S_)) rfl ?_
              refine sm_T_cal (d1 := 0) (Q1 := vq_470x vx8_ S_) rfl rfl (by decide) (vc_470x vx8_ S_ hI_ (by omega)) (fun u_ Sx64_ px67_ => ?_)
              obtain ⟨rfl, vx69_, rfl, px67_⟩ := px67_
              have eB_ := px67_
              rw [a9_, g177_, e28_] at eB_
              refine sm_T_b0 (a := 1) (z := 29) rfl (fun cx70_ => ?_) (fun cx70_ => ?_)
              · have cx70_ : vx69_ ≠ 0 := of_decide_eq_true cx70_
                refine sm_T_inc (a := 4) (z := 1) (v := x_) (w := x_ + 1) rfl rfl (by omega) (by omega) (by omega) ?_ -- pc_ 109
                refine sm_T_go 1 (c1 := (15, [some (.inr (.inr (some (13, 0)))), some (.inl net_), some (.inl y_), some (.inl b_), some (.inl (x_ + 1)), some (.inl vx8_)], [], S_)) rfl ?_
                refine sm_T_wk [some (.inr (.inr (some (13, 0)))), some (.inl net_), some (.inl y_), some (.inl b_), some (.inl (x_ + 1)), none] (by exact ⟨rfl, rfl, rfl, rfl, rfl, trivial⟩) ?_
                refine ih_.2 y_ b_ (x_ + 1) S_ hI_ hF_ ⟨?_, ?_, trivial⟩ ?_
                · omega
                · first | (rw [T9_, s9_]; push_cast; omega) | (rw [if_neg (by omega)] at u9_; rw [u9_, if_neg (by decide)] at s9_; rw [T9_, s9_]; push_cast; omega)
                · omega
              · have cx70_ : ¬ (vx69_ ≠ 0) := of_decide_eq_false cx70_
                rw [if_pos ⟨by omega, by omega⟩] at u9_
                rw [u9_, if_pos rfl] at s9_
                refine sm_T_go 4 (c1 := (87, [some (.inr (.inr (some (13, 0)))), some (.inl net_), some (.inl y_), some (.inl b_), some (.inl x_), some (.inl vx8_)], [.inl b_, .inl 4, .inl 0, .inr (.inr (some (13, 0)))], S_)) rfl ?_
                refine sm_T_bin (w := 4 * b_) rfl (bi_mul (by omega) (by omega) (by omega)) ?_ -- pc_ 87
                refine sm_T_go 1 (c1 := (89, [some (.inr (.inr (some (13, 0)))), some (.inl net_), some (.inl y_), some (.inl b_), some (.inl x_), some (.inl vx8_)], [.inl 1, .inl (4 * b_), .inl 0, .inr (.inr (some (13, 0)))], S_)) rfl ?_
                refine sm_T_bin (w := 4 * b_ - 1) rfl (bi_sub (by omega) (by omega) (by omega)) ?_ -- pc_ 89
                refine sm_T_go 2 (c1 := (92, [some (.inr (.inr (some (13, 0)))), some (.inl net_), some (.inl y_), some (.inl b_), some (.inl x_), some (.inl vx8_)], [.inl y_, .inl 4, .inl (4 * b_ - 1), .inl 0, .inr (.inr (some (13, 0)))], S_)) rfl ?_
                refine sm_T_bin (w := 4 * y_) rfl (bi_mul (by omega) (by omega) (by omega)) ?_ -- pc_ 92
                refine sm_T_go 1 (c1 := (94, [some (.inr (.inr (some (13, 0)))), some (.inl net_), some (.inl y_), some (.inl b_), some (.inl x_), some (.inl vx8_)], [.inl 1, .inl (4 * y_), .inl (4 * b_ - 1), .inl 0, .inr (.inr (some (13, 0)))], S_)) rfl ?_
                refine sm_T_bin (w := 4 * y_ - 1) rfl (bi_sub (by omega) (by omega) (by omega)) ?_ -- pc_ 94
                refine sm_T_go 2 (c1 := (98, [some (.inr (.inr (some (13, 0)))), some (.inl net_), some (.inl y_), some (.inl b_), some (.inl x_), some (.inl vx8_)], [.inl x_, .inl 4, .inl (4 * y_ - 1), .inl (4 * b_ - 1), .inl 0, .inr (.inr (some (13, 0)))], S_)) rfl ?_
                refine sm_T_bin (w := 4 * x_) rfl (bi_mul (by omega) (by omega) (by omega)) ?_ -- pc_ 98
                refine sm_T_go 1 (c1 := (100, [some (.inr (.inr (some (13, 0)))), some (.inl net_), some (.inl y_), some (.inl b_), some (.inl x_), some (.inl vx8_)], [.inl 1, .inl (4 * x_), .inl (4 * y_ - 1), .inl (4 * b_ - 1), .inl 0, .inr (.inr (some (13, 0)))], S_)) rfl ?_
                refine sm_T_bin (w := 4 * x_ + 1) rfl (bi_add (by omega) (by omega) (by omega)) ?_ -- pc_ 100
                refine sm_T_go 2 (c1 := (103, [some (.inr (.inr (some (13, 0)))), some (.inl net_), some (.inl y_), some (.inl b_), some (.inl x_), some (.inl vx8_)], [.inl y_, .inl 4, .inl (4 * x_ + 1), .inl (4 * y_ - 1), .inl (4 * b_ - 1), .inl 0, .inr (.inr (some (13, 0)))], S_)) rfl ?_
                refine sm_T_bin (w := 4 * y_) rfl (bi_mul (by omega) (by omega) (by omega)) ?_ -- pc_ 103
                refine sm_T_go 1 (c1 := (105, [some (.inr (.inr (some (13, 0)))), some (.inl net_), some (.inl y_), some (.inl b_), some (.inl x_), some (.inl vx8_)], [.inl 1, .inl (4 * y_), .inl (4 * x_ + 1), .inl (4 * y_ - 1), .inl (4 * b_ - 1), .inl 0, .inr (.inr (some (13, 0)))], S_)) rfl ?_
                refine sm_T_bin (w := 4 * y_ + 1) rfl (bi_add (by omega) (by omega) (by omega)) ?_ -- pc_ 105
                refine sm_T_cal (d1 := 0) (Q1 := vq_469 0 (4 * b_ - 1) (4 * y_ - 1) (4 * x_ + 1) (4 * y_ + 1) S_) rfl rfl (by decide) (vc_469 0 (4 * b_ - 1) (4 * y_ - 1) (4 * x_ + 1) (4 * y_ + 1) S_ hI_ (by omega) (by omega) (by omega) (by omega) (by omega) (by (rw [lm9_]; push_cast at *; omega))) (fun u_ Sx71_ px74_ => ?_)
                obtain ⟨rfl, hIx72_, hFx73_, px74_⟩ := px74_
                have hFx75_ : ai_fr (sx_W vw_471) S0_ Sx71_ := ai_fr_tr hF_ (fr_le hFx73_ rfl)
                have ex76_ : Sx71_.1 13 0 174 = S_.1 13 0 174 := hFx73_.1 13 0 174 rfl
                have eL_ := px74_
                refine sm_T_inc (a := 4) (z := 1) (v := x_) (w := x_ + 1) rfl rfl (by omega) (by omega) (by omega) ?_ -- pc_ 109
                refine sm_T_go 1 (c1 := (15, [some (.inr (.inr (some (13, 0)))), some (.inl net_), some (.inl y_), some (.inl b_), some (.inl (x_ + 1)), some (.inl vx8_)], [], Sx71_)) rfl ?_
                refine sm_T_wk [some (.inr (.inr (some (13, 0)))), some (.inl net_), some (.inl y_), some (.inl b_), some (.inl (x_ + 1)), none] (by exact ⟨rfl, rfl, rfl, rfl, rfl, trivial⟩) ?_
                refine ih_.2 y_ b_ (x_ + 1) Sx71_ hIx72_ hFx75_ ⟨?_, ?_, trivial⟩ ?_
                · omega
                · first | (rw [T9_, s9_]; push_cast; omega) | (rw [if_neg (by omega)] at u9_; rw [u9_, if_neg (by decide)] at s9_; rw [T9_, s9_]; push_cast; omega)
                · omega
set_option maxHeartbeats 2000000 in
set_option maxRecDepth 20000 in
theorem vc_471 {sc_ : Nat × (Nat → Int)} (net_ : Int) (S0_ : sm_S) (hI_ : gi S0_) (hgr_ : grd S0_) (hn_ : 0 ≤ net_ ∧ net_ ≤ 161) (hd_ : S0_.1 13 0 188 + (lrc S0_ net_ : Int) ≤ lim9 S0_) : sm_T (mt_P sc_) 1 471 (0, [some (.inr (.inr (some (13, 0)))), some (.inl net_), none, none, none, none], [], S0_) (fun ro9_ => ∃ u_ S1_, ro9_ = (.inl u_, S1_, 0) ∧ vq_471 net_ S0_ u_ S1_) := by
  have hF_ : ai_fr (sx_W vw_471) S0_ S0_ := ai_fr_rf
  refine sm_T_go 2 (c1 := (2, [some (.inr (.inr (some (13, 0)))), some (.inl net_), some (.inl 0), none, none, none], [], S0_)) rfl ?_
  refine (vl_471 net_ S0_ hgr_ hn_ hd_ _).1 0 S0_ hI_ hF_ ⟨?_, ?_, trivial⟩ (Nat.lt_succ_self _)
  · (have g1_ := hgr_.1; have g3_ := hgr_.2.2.1; omega)
  · (rw [show (0 : Int).toNat = 0 from rfl]; show S0_.1 13 0 188 = S0_.1 13 0 188 + ((0 : Nat) : Int); omega)
/-! M_.layColumns -/
def vw_472 : sx_Wl := ([(13, 188)], [265], [])
def vq_472 (net_ : Int) (S0_ : sm_S) (u_ : Option sm_V) (S1_ : sm_S) : Prop := u_ = none ∧ gi S1_ ∧ ai_fr (sx_W vw_472) S0_ S1_ ∧ (S1_.1 13 0 188 = S0_.1 13 0 188 + (lcc S0_ net_ : Int))
set_option maxHeartbeats 2000000 in
set_option maxRecDepth 20000 in
theorem vl_472 {sc_ : Nat × (Nat → Int)} (net_ : Int) (S0_ : sm_S) (hgr_ : grd S0_) (hn_ : 0 ≤ net_ ∧ net_ ≤ 161) (hd_ : S0_.1 13 0 188 + (lcc S0_ net_ : Int) ≤ lim9 S0_) : ∀ nn_ : Nat, (∀ (y_ : Int) (S_ : sm_S), gi S_ → ai_fr (sx_W vw_472) S0_ S_ → ((0 ≤ y_ ∧ y_ ≤ (S0_.1 13 0 174)) ∧ (S_.1 13 0 188 = S0_.1 13 0 188 + (sn9 (fun q9_ => cn1 (lc9 S0_ net_ q9_) (S0_.1 13 0 175).toNat) y_.toNat : Int)) ∧ True) → ((1000 * (500 - y_) + 900).toNat) < nn_ → sm_T (mt_P sc_) 1 472 (2, [some (.inr (.inr (some (13, 0)))), some (.inl net_), some (.inl y_), none, none, none], [], S_) (fun ro9_ => ∃ u_ S1_, ro9_ = (.inl u_, S1_, 0) ∧ vq_472 net_ S0_ u_ S1_)) ∧ (∀ (y_ : Int) (b_ : Int) (x_ : Int) (S_ : sm_S), gi S_ → ai_fr (sx_W vw_472) S0_ S_ → ((0 ≤ y_ ∧ y_ < (S0_.1 13 0 174) ∧ 0 ≤ x_ ∧ x_ ≤ (S0_.1 13 0 175) ∧ 0 ≤ b_ ∧ b_ ≤ (S0_.1 13 0 175)) ∧ (S_.1 13 0 188 = S0_.1 13 0 188 + (sn9 (fun q9_ => cn1 (lc9 S0_ net_ q9_) (S0_.1 13 0 175).toNat) y_.toNat : Int) + (cn1 (lc9 S0_ net_ y_.toNat) x_.toNat : Int)) ∧ True) → ((1000 * (500 - y_) + 800 - x_).toNat) < nn_ → sm_T (mt_P sc_) 1 472 (15, [some (.inr (.inr (some (13, 0)))), some (.inl net_), some (.inl y_), some (.inl b_), some (.inl x_), none], [], S_) (fun ro9_ => ∃ u_ S1_, ro9_ = (.inl u_, S1_, 0) ∧ vq_472 net_ S0_ u_ S1_)) := by
  intro nn_
  induction nn_ with
  | zero => exact ⟨fun _ _ _ _ _ h_ => absurd h_ (Nat.not_lt_zero _), fun _ _ _ _ _ _ _ h_ => absurd h_ (Nat.not_lt_zero _)⟩
  | succ nn_ ih_ =>
    refine ⟨?_, ?_⟩
    · rintro y_ S_ hI_ hF_ ⟨h0_, h1_, -⟩ hm_
      have g174_ : S_.1 13 0 174 = S0_.1 13 0 174 := hF_.1 13 0 174 rfl
      have g175_ : S_.1 13 0 175 = S0_.1 13 0 175 := hF_.1 13 0 175 rfl
      have g177_ : S_.1 13 0 177 = S0_.1 13 0 177 := hF_.1 13 0 177 rfl
      have g189_ : S_.1 13 0 189 = S0_.1 13 0 189 := hF_.1 13 0 189 rfl
      have lm9_ : lim9 S_ = lim9 S0_ := by (unfold lim9; rw [g189_])
      have l9_ := lim9_b S0_
      have nt9_ : nta S_ = nta S0_ := nta_fr hF_
      have gm9_ := grd_m hgr_
      have g1_ := hgr_.1
      have g2_ := hgr_.2.1
      have g3_ := hgr_.2.2.1
      have g4_ := hgr_.2.2.2.1
      have bx1_ : 0 ≤ S_.1 13 0 174 ∧ S_.1 13 0 174 ≤ 62 := hI_.1 13 0 174 rfl
      refine sm_T_go 3 (c1 := (7, [some (.inr (.inr (some (13, 0)))), some (.inl net_), some (.inl y_), none, none, none], [.inl (S_.1 13 0 174), .inl y_], S_)) rfl ?_
      refine sm_T_br (a := 3) (z := 127) rfl (fun cx2_ => ?_) (fun cx2_ => ?_)
      · have cx2_ : (S_.1 13 0 174) ≤ y_ := of_decide_eq_true cx2_
        refine sm_T_rv rfl ⟨_, _, rfl, rfl, hI_, hF_, ?_⟩
        have z9_ : y_ = (S0_.1 13 0 174) := by omega
        rw [z9_] at h1_
        exact h1_
      · have cx2_ : ¬ ((S_.1 13 0 174) ≤ y_) := of_decide_eq_false cx2_
        refine sm_T_go 4 (c1 := (15, [some (.inr (.inr (some (13, 0)))), some (.inl net_), some (.inl y_), some (.inl 0), some (.inl 0), none], [], S_)) rfl ?_
        refine ih_.2 y_ 0 0 S_ hI_ hF_ ⟨?_, ?_, trivial⟩ ?_
        · omega
        · (rw [show (0 : Int).toNat = 0 from rfl]; show S_.1 13 0 188 = _ + ((0 : Nat) : Int); omega)
        · omega
    · rintro y_ b_ x_ S_ hI_ hF_ ⟨h0_, h1_, -⟩ hm_
      have g174_ : S_.1 13 0 174 = S0_.1 13 0 174 := hF_.1 13 0 174 rfl
      have g175_ : S_.1 13 0 175 = S0_.1 13 0 175 := hF_.1 13 0 175 rfl
      have g177_ : S_.1 13 0 177 = S0_.1 13 0 177 := hF_.1 13 0 177 rfl
      have g189_ : S_.1 13 0 189 = S0_.1 13 0 189 := hF_.1 13 0 189 rfl
      have lm9_ : lim9 S_ = lim9 S0_ := by (unfold lim9; rw [g189_])
      have l9_ := lim9_b S0_
      have nt9_ : nta S_ = nta S0_ := nta_fr hF_
      have gm9_ := grd_m hgr_
      have g1_ := hgr_.1
      have g2_ := hgr_.2.1
      have g3_ := hgr_.2.2.1
      have g4_ := hgr_.2.2.2.1
      have bx1_ : 0 ≤ S_.1 13 0 175 ∧ S_.1 13 0 175 ≤ 38 := hI_.1 13 0 175 rfl
      refine sm_T_go 3 (c1 := (21, [some (.inr (.inr (some (13, 0)))), some (.inl net_), some (.inl y_), some (.inl b_), some (.inl x_), none], [.inl (S_.1 13 0 175), .inl x_], S_)) rfl ?_
      refine sm_T_br (a := 3) (z := 107) rfl (fun cx2_ => ?_) (fun cx2_ => ?_)
      · have cx2_ : (S_.1 13 0 175) ≤ x_ := of_decide_eq_true cx2_
        refine sm_T_inc (a := 2) (z := 1) (v := y_) (w := y_ + 1) rfl rfl (by omega) (by omega) (by omega) ?_ -- pc_ 128
        refine sm_T_go 1 (c1 := (2, [some (.inr (.inr (some (13, 0)))), some (.inl net_), some (.inl (y_ + 1)), some (.inl b_), some (.inl x_), none], [], S_)) rfl ?_
        refine sm_T_wk [some (.inr (.inr (some (13, 0)))), some (.inl net_), some (.inl (y_ + 1)), none, none, none] (by exact ⟨rfl, rfl, rfl, trivial⟩) ?_
        refine ih_.1 (y_ + 1) S_ hI_ hF_ ⟨?_, ?_, trivial⟩ ?_
        · omega
        · rw [show (y_ + 1).toNat = y_.toNat + 1 by omega, sn9_s]
          have z9_ : x_ = (S0_.1 13 0 175) := by omega
          rw [z9_] at h1_
          push_cast
          omega
        · omega
      · have cx2_ : ¬ ((S_.1 13 0 175) ≤ x_) := of_decide_eq_false cx2_
        have pr9_ := pt_r (W_ := S0_.1 13 0 174) (H_ := S0_.1 13 0 175) (x_ := y_) (y_ := x_) (by omega) (by omega)
        have dd_ : (lcc S0_ net_ : Int) = (sn9 (fun q9_ => cn1 (lc9 S0_ net_ q9_) (S0_.1 13 0 175).toNat) (S0_.1 13 0 174).toNat : Int) := rfl
        have u9_ : lc9 S0_ net_ y_.toNat x_.toNat = if nta S0_ (S0_.1 13 0 174 * S0_.1 13 0 175 + (x_ * S0_.1 13 0 174 + y_)) = net_ ∧ S0_.2.2.1 254 0 (4712 * S0_.1 13 0 177 + (S0_.1 13 0 174 * S0_.1 13 0 175 + (x_ * S0_.1 13 0 174 + y_))).toNat = 0 then 1 else 0 := by (unfold lc9; rw [show ((y_.toNat : Nat) : Int) = y_ by omega, show ((x_.toNat : Nat) : Int) = x_ by omega])
        have s9_ := cn1_s (lc9 S0_ net_ y_.toNat) x_.toNat
        have m9_ := cn1_m (lc9 S0_ net_ y_.toNat) (n_ := x_.toNat + 1) (m_ := (S0_.1 13 0 175).toNat) (by omega)
        have t9_ : sn9 (fun q9_ => cn1 (lc9 S0_ net_ q9_) (S0_.1 13 0 175).toNat) (y_.toNat + 1) = sn9 (fun q9_ => cn1 (lc9 S0_ net_ q9_) (S0_.1 13 0 175).toNat) y_.toNat + cn1 (lc9 S0_ net_ y_.toNat) (S0_.1 13 0 175).toNat := sn9_s _ _
        have yw9_ : 0 ≤ x_ * S0_.1 13 0 174 := Int.mul_nonneg (by omega) (by omega)
        have wh9_ := mle (W_ := S0_.1 13 0 174) (a_ := 1) (b_ := S0_.1 13 0 175) (by omega) (by omega)
        rw [Int.mul_one] at wh9_
        have gp9_ : S_.1 13 0 174 * S_.1 13 0 175 = S0_.1 13 0 174 * S0_.1 13 0 175 := by rw [g174_, g175_]
        have v9_ := sn9_m (fun q9_ => cn1 (lc9 S0_ net_ q9_) (S0_.1 13 0 175).toNat) (n_ := y_.toNat + 1) (m_ := (S0_.1 13 0 174).toNat) (by omega)
        have T9_ : (x_ + 1).toNat = x_.toNat + 1 := by omega
        have a9_ : S_.2.2.1 254 0 = S0_.2.2.1 254 0 := fr_arr hF_ rfl
        have bx3_ : 0 ≤ S_.1 13 0 174 ∧ S_.1 13 0 174 ≤ 62 := hI_.1 13 0 174 rfl
        refine sm_T_go 4 (c1 := (32, [some (.inr (.inr (some (13, 0)))), some (.inl net_), some (.inl y_), some (.inl b_), some (.inl x_), none], [.inl (S_.1 13 0 175), .inl (S_.1 13 0 174)], S_)) rfl ?_
        have bx4_ := mul_b (x_ := (S_.1 13 0 174)) (y_ := (S_.1 13 0 175)) (X_ := 62) (Y_ := 38) (Z_ := 2356) (by omega) (by omega) (by decide)
        refine sm_T_bin (w := ((S_.1 13 0 174) * (S_.1 13 0 175))) rfl (bi_mul rfl (by omega) (by omega)) ?_ -- pc_ 32
        refine sm_T_go 3 (c1 := (37, [some (.inr (.inr (some (13, 0)))), some (.inl net_), some (.inl y_), some (.inl b_), some (.inl x_), none], [.inl x_, .inl y_, .inr (.inr (some (13, 0))), .inl ((S_.1 13 0 174) * (S_.1 13 0 175))], S_)) rfl ?_
        refine sm_T_cal (d1 := 0) (Q1 := vq_452 y_ x_ S_) rfl rfl (by decide) (vc_452 y_ x_ S_ hI_ (by omega) (by omega)) (fun u_ Sx5_ px8_ => ?_)
        obtain ⟨rfl, vx10_, rfl, px8_⟩ := px8_
        have e37_ := px8_
        rw [g174_] at e37_
        refine sm_T_bin (w := ((S_.1 13 0 174) * (S_.1 13 0 175)) + vx10_) rfl (bi_add (by omega) (by omega) (by omega)) ?_ -- pc_ 40
        refine sm_T_go 2 (c1 := (45, [some (.inr (.inr (some (13, 0)))), some (.inl net_), some (.inl y_), some (.inl b_), some (.inl x_), some (.inl (((S_.1 13 0 174) * (S_.1 13 0 175)) + vx10_))], [.inl x_], S_)) rfl ?_
        refine sm_T_b0 (a := 5) (z := 25) rfl (fun cx11_ => ?_) (fun cx11_ => ?_)
        · have cx11_ : x_ ≤ 0 := of_decide_eq_true cx11_
          refine sm_T_go 4 (c1 := (76, [some (.inr (.inr (some (13, 0)))), some (.inl net_), some (.inl y_), some (.inl x_), some (.inl x_), some (.inl (((S_.1 13 0 174) * (S_.1 13 0 175)) + vx10_))], [.inl (((S_.1 13 0 174) * (S_.1 13 0 175)) + vx10_), .inr (.inr (some (13, 0)))], S_)) rfl ?_
          refine sm_T_cal (d1 := 0) (Q1 := vq_454 (((S_.1 13 0 174) * (S_.1 13 0 175)) + vx10_) S_) rfl rfl (by decide) (vc_454 (((S_.1 13 0 174) * (S_.1 13 0 175)) + vx10_) S_ hI_ (by omega)) (fun u_ Sx12_ px15_ => ?_)
          obtain ⟨rfl, vx17_, rfl, px15_⟩ := px15_
          have eN_ := px15_
          rw [nt9_, e37_, g174_, g175_] at eN_
          refine sm_T_go 1 (c1 := (80, [some (.inr (.inr (some (13, 0)))), some (.inl net_), some (.inl y_), some (.inl x_), some (.inl x_), some (.inl (((S_.1 13 0 174) * (S_.1 13 0 175)) + vx10_))], [.inl net_, .inl vx17_], S_)) rfl ?_
          refine sm_T_br (a := 1) (z := 42) rfl (fun cx18_ => ?_) (fun cx18_ => ?_)
          · have cx18_ : vx17_ ≠ net_ := of_decide_eq_true cx18_
            refine sm_T_inc (a := 4) (z := 1) (v := x_) (w := x_ + 1) rfl rfl (by omega) (by omega) (by omega) ?_ -- pc_ 122
            refine sm_T_go 1 (c1 := (15, [some (.inr (.inr (some (13, 0)))), some (.inl net_), some (.inl y_), some (.inl x_), some (.inl (x_ + 1)), some (.inl (((S_.1 13 0 174) * (S_.1 13 0 175)) + vx10_))], [], S_)) rfl ?_
            refine sm_T_wk [some (.inr (.inr (some (13, 0)))), some (.inl net_), some (.inl y_), some (.inl x_), some (.inl (x_ + 1)), none] (by exact ⟨rfl, rfl, rfl, rfl, rfl, trivial⟩) ?_
            refine ih_.2 y_ x_ (x_ + 1) S_ hI_ hF_ ⟨?_, ?_, trivial⟩ ?_
            · omega
            · first | (rw [T9_, s9_]; push_cast; omega) | (rw [if_neg (by omega)] at u9_; rw [u9_, if_neg (by decide)] at s9_; rw [T9_, s9_]; push_cast; omega)
            · omega
          · have cx18_ : ¬ (vx17_ ≠ net_) := of_decide_eq_false cx18_
            refine sm_T_go 4 (c1 := (90, [some (.inr (.inr (some (13, 0)))), some (.inl net_), some (.inl y_), some (.inl x_), some (.inl x_), some (.inl (((S_.1 13 0 174) * (S_.1 13 0 175)) + vx10_))], [.inl (((S_.1 13 0 174) * (S_.1 13 0 175)) + vx10_), .inr (.inr (some (254, 0))), .inr (.inr (some (13, 0)))], S_)) rfl ?_
            refine sm_T_cal (d1 := 0) (Q1 := vq_470y (((S_.1 13 0 174) * (S_.1 13 0 175)) + vx10_) S_) rfl rfl (by decide) (vc_470y (((S_.1 13 0 174) * (S_.1 13 0 175)) + vx10_) S_ hI_ (by omega)) (fun u_ Sx19_ px22_ => ?_)
            obtain ⟨rfl, vx24_, rfl, px22_⟩ := px22_
            have eB_ := px22_
            rw [a9_, g177_, e37_, g174_, g175_] at eB_
            refine sm_T_b0 (a := 1) (z := 29) rfl (fun cx25_ => ?_) (fun cx25_ => ?_)
            · have cx25_ : vx24_ ≠ 0 := of_decide_eq_true cx25_
              refine sm_T_inc (a := 4) (z := 1) (v := x_) (w := x_ + 1) rfl rfl (by omega) (by omega) (by omega) ?_ -- pc_ 122
              refine sm_T_go 1 (c1 := (15, [some (.inr (.inr (some (13, 0)))), some (.inl net_), some (.inl y_), some (.inl x_), some (.inl (x_ + 1)), some (.inl (((S_.1 13 0 174) * (S_.1 13 0 175)) + vx10_))], [], S_)) rfl ?_
              refine sm_T_wk [some (.inr (.inr (some (13, 0)))), some (.inl net_), some (.inl y_), some (.inl x_), some (.inl (x_ + 1)), none] (by exact ⟨rfl, rfl, rfl, rfl, rfl, trivial⟩) ?_
              refine ih_.2 y_ x_ (x_ + 1) S_ hI_ hF_ ⟨?_, ?_, trivial⟩ ?_
              · omega
              · first | (rw [T9_, s9_]; push_cast; omega) | (rw [if_neg (by omega)] at u9_; rw [u9_, if_neg (by decide)] at s9_; rw [T9_, s9_]; push_cast; omega)
              · omega
            · have cx25_ : ¬ (vx24_ ≠ 0) := of_decide_eq_false cx25_
              rw [if_pos ⟨by omega, by omega⟩] at u9_
              rw [u9_, if_pos rfl] at s9_
              refine sm_T_go 4 (c1 := (100, [some (.inr (.inr (some (13, 0)))), some (.inl net_), some (.inl y_), some (.inl x_), some (.inl x_), some (.inl (((S_.1 13 0 174) * (S_.1 13 0 175)) + vx10_))], [.inl y_, .inl 4, .inl 1, .inr (.inr (some (13, 0)))], S_)) rfl ?_
              refine sm_T_bin (w := 4 * y_) rfl (bi_mul (by omega) (by omega) (by omega)) ?_ -- pc_ 100
              refine sm_T_go 1 (c1 := (102, [some (.inr (.inr (some (13, 0)))), some (.inl net_), some (.inl y_), some (.inl x_), some (.inl x_), some (.inl (((S_.1 13 0 174) * (S_.1 13 0 175)) + vx10_))], [.inl 1, .inl (4 * y_), .inl 1, .inr (.inr (some (13, 0)))], S_)) rfl ?_
              refine sm_T_bin (w := 4 * y_ - 1) rfl (bi_sub (by omega) (by omega) (by omega)) ?_ -- pc_ 102
              refine sm_T_go 2 (c1 := (105, [some (.inr (.inr (some (13, 0)))), some (.inl net_), some (.inl y_), some (.inl x_), some (.inl x_), some (.inl (((S_.1 13 0 174) * (S_.1 13 0 175)) + vx10_))], [.inl x_, .inl 4, .inl (4 * y_ - 1), .inl 1, .inr (.inr (some (13, 0)))], S_)) rfl ?_
              refine sm_T_bin (w := 4 * x_) rfl (bi_mul (by omega) (by omega) (by omega)) ?_ -- pc_ 105
              refine sm_T_go 1 (c1 := (107, [some (.inr (.inr (some (13, 0)))), some (.inl net_), some (.inl y_), some (.inl x_), some (.inl x_), some (.inl (((S_.1 13 0 174) * (S_.1 13 0 175)) + vx10_))], [.inl 1, .inl (4 * x_), .inl (4 * y_ - 1), .inl 1, .inr (.inr (some (13, 0)))], S_)) rfl ?_
              refine sm_T_bin (w := 4 * x_ - 1) rfl (bi_sub (by omega) (by omega) (by omega)) ?_ -- pc_ 107
              refine sm_T_go 2 (c1 := (110, [some (.inr (.inr (some (13, 0)))), some (.inl net_), some (.inl y_), some (.inl x_), some (.inl x_), some (.inl (((S_.1 13 0 174) * (S_.1 13 0 175)) + vx10_))], [.inl y_, .inl 4, .inl (4 * x_ - 1), .inl (4 * y_ - 1), .inl 1, .inr (.inr (some (13, 0)))], S_)) rfl ?_
              refine sm_T_bin (w := 4 * y_) rfl (bi_mul (by omega) (by omega) (by omega)) ?_ -- pc_ 110
              refine sm_T_go 1 (c1 := (112, [some (.inr (.inr (some (13, 0)))), some (.inl net_), some (.inl y_), some (.inl x_), some (.inl x_), some (.inl (((S_.1 13 0 174) * (S_.1 13 0 175)) + vx10_))], [.inl 1, .inl (4 * y_), .inl (4 * x_ - 1), .inl (4 * y_ - 1), .inl 1, .inr (.inr (some (13, 0)))], S_)) rfl ?_
              refine sm_T_bin (w := 4 * y_ + 1) rfl (bi_add (by omega) (by omega) (by omega)) ?_ -- pc_ 112
              refine sm_T_go 2 (c1 := (116, [some (.inr (.inr (some (13, 0)))), some (.inl net_), some (.inl y_), some (.inl x_), some (.inl x_), some (.inl (((S_.1 13 0 174) * (S_.1 13 0 175)) + vx10_))], [.inl x_, .inl 4, .inl (4 * y_ + 1), .inl (4 * x_ - 1), .inl (4 * y_ - 1), .inl 1, .inr (.inr (some (13, 0)))], S_)) rfl ?_
              refine sm_T_bin (w := 4 * x_) rfl (bi_mul (by omega) (by omega) (by omega)) ?_ -- pc_ 116
              refine sm_T_go 1 (c1 := (118, [some (.inr (.inr (some (13, 0)))), some (.inl net_), some (.inl y_), some (.inl x_), some (.inl x_), some (.inl (((S_.1 13 0 174) * (S_.1 13 0 175)) + vx10_))], [.inl 1, .inl (4 * x_), .inl (4 * y_ + 1), .inl (4 * x_ - 1), .inl (4 * y_ - 1), .inl 1, .inr (.inr (some (13, 0)))], S_)) rfl ?_
              refine sm_T_bin (w := 4 * x_ + 1) rfl (bi_add (by omega) (by omega) (by omega)) ?_ -- pc_ 118
              refine sm_T_cal (d1 := 0) (Q1 := vq_469 1 (4 * y_ - 1) (4 * x_ - 1) (4 * y_ + 1) (4 * x_ + 1) S_) rfl rfl (by decide) (vc_469 1 (4 * y_ - 1) (4 * x_ - 1) (4 * y_ + 1) (4 * x_ + 1) S_ hI_ (by omega) (by omega) (by omega) (by omega) (by omega) (by (rw [lm9_]; push_cast at *; omega))) (fun u_ Sx26_ px29_ => ?_)
              obtain ⟨rfl, hIx27_, hFx28_, px29_⟩ := px29_
              have hFx30_ : ai_fr (sx_W vw_472) S0_ Sx26_ := ai_fr_tr hF_ (fr_le hFx28_ rfl)
              have ex31_ : Sx26_.1 13 0 175 = S_.1 13 0 175 := hFx28_.1 13 0 175 rfl
              have ex32_ : Sx26_.1 13 0 174 = S_.1 13 0 174 := hFx28_.1 13 0 174 rfl
              have eL_ := px29_
              refine sm_T_inc (a := 4) (z := 1) (v := x_) (w := x_ + 1) rfl rfl (by omega) (by omega) (by omega) ?_ -- pc_ 122
              refine sm_T_go 1 (c1 := (15, [some (.inr (.inr (some (13, 0)))), some (.inl net_), some (.inl y_), some (.inl x_), some (.inl (x_ + 1)), some (.inl (((S_.1 13 0 174) * (S_.1 13 0 175)) + vx10_))], [], Sx26_)) rfl ?_
              refine sm_T_wk [some (.inr (.inr (some (13, 0)))), some (.inl net_), some (.inl y_), some (.inl x_), some (.inl (x_ + 1)), none] (by exact ⟨rfl, rfl, rfl, rfl, rfl, trivial⟩) ?_
              refine ih_.2 y_ x_ (x_ + 1) Sx26_ hIx27_ hFx30_ ⟨?_, ?_, trivial⟩ ?_
              · omega
              · first | (rw [T9_, s9_]; push_cast; omega) | (rw [if_neg (by omega)] at u9_; rw [u9_, if_neg (by decide)] at s9_; rw [T9_, s9_]; push_cast; omega)
              · omega
        · have cx11_ : ¬ (x_ ≤ 0) := of_decide_eq_false cx11_
          refine sm_T_go 6 (c1 := (59, [some (.inr (.inr (some (13, 0)))), some (.inl net_), some (.inl y_), some (.inl b_), some (.inl x_), some (.inl (((S_.1 13 0 174) * (S_.1 13 0 175)) + vx10_))], [.inl (S_.1 13 0 174), .inl (((S_.1 13 0 174) * (S_.1 13 0 175)) + vx10_), .inr (.inr (some (254, 0))), .inr (.inr (some (13, 0)))], S_)) rfl ?_
          refine sm_T_bin (w := ((S_.1 13 0 174) * (S_.1 13 0 175)) + vx10_ - (S_.1 13 0 174)) rfl (bi_sub (by omega) (by omega) (by omega)) ?_ -- pc_ 59
          refine sm_T_cal (d1 := 0) (Q1 := vq_470y (((S_.1 13 0 174) * (S_.1 13 0 175)) + vx10_ - (S_.1 13 0 174)) S_) rfl rfl (by decide) (vc_470y (((S_.1 13 0 174) * (S_.1 13 0 175)) + vx10_ - (S_.1 13 0 174)) S_ hI_ (by omega)) (fun u_ Sx33_ px36_ => ?_)
          obtain ⟨rfl, vx38_, rfl, px36_⟩ := px36_
          refine sm_T_b0 (a := 0) (z := 7) rfl (fun cx39_ => ?_) (fun cx39_ => ?_)
          · have cx39_ : vx38_ = 0 := of_decide_eq_true cx39_
            refine sm_T_go 4 (c1 := (76, [some (.inr (.inr (some (13, 0)))), some (.inl net_), some (.inl y_), some (.inl x_), some (.inl x_), some (.inl (((S_.1 13 0 174) * (S_.1 13 0 175)) + vx10_))], [.inl (((S_.1 13 0 174) * (S_.1 13 0 175)) + vx10_), .inr (.inr (some (13, 0)))], S_)) rfl ?_
            refine sm_T_cal (d1 := 0) (Q1 := vq_454 (((S_.1 13 0 174) * (S_.1 13 0 175)) + vx10_) S_) rfl rfl (by decide) (vc_454 (((S_.1 13 0 174) * (S_.1 13 0 175)) + vx10_) S_ hI_ (by omega)) (fun u_ Sx40_ px43_ => ?_)
            obtain ⟨rfl, vx45_, rfl, px43_⟩ := px43_
            have eN_ := px43_
            rw [nt9_, e37_, g174_, g175_] at eN_
            refine sm_T_go 1 (c1 := (80, [some (.inr (.inr (some (13, 0)))), some (.inl net_), some (.inl y_), some (.inl x_), some (.inl x_), some (.inl (((S_.1 13 0 174) * (S_.1 13 0 175)) + vx10_))], [.inl net_, .inl vx45_], S_)) rfl ?_
            refine sm_T_br (a := 1) (z := 42) rfl (fun cx46_ => ?_) (fun cx46_ => ?_)
            · have cx46_ : vx45_ ≠ net_ := of_decide_eq_true cx46_
              refine sm_T_inc (a := 4) (z := 1) (v := x_) (w := x_ + 1) rfl rfl (by omega) (by omega) (by omega) ?_ -- pc_ 122
              refine sm_T_go 1 (c1 := (15, [some (.inr (.inr (some (13, 0)))), some (.inl net_), some (.inl y_), some (.inl x_), some (.inl (x_ + 1)), some (.inl (((S_.1 13 0 174) * (S_.1 13 0 175)) + vx10_))], [], S_)) rfl ?_
              refine sm_T_wk [some (.inr (.inr (some (13, 0)))), some (.inl net_), some (.inl y_), some (.inl x_), some (.inl (x_ + 1)), none] (by exact ⟨rfl, rfl, rfl, rfl, rfl, trivial⟩) ?_
              refine ih_.2 y_ x_ (x_ + 1) S_ hI_ hF_ ⟨?_, ?_, trivial⟩ ?_
              · omega
              · first | (rw [T9_, s9_]; push_cast; omega) | (rw [if_neg (by omega)] at u9_; rw [u9_, if_neg (by decide)] at s9_; rw [T9_, s9_]; push_cast; omega)
              · omega
            · have cx46_ : ¬ (vx45_ ≠ net_) := of_decide_eq_false cx46_
              refine sm_T_go 4 (c1 := (90, [some (.inr (.inr (some (13, 0)))), some (.inl net_), some (.inl y_), some (.inl x_), some (.inl x_), some (.inl (((S_.1 13 0 174) * (S_.1 13 0 175)) + vx10_))], [.inl (((S_.1 13 0 174) * (S_.1 13 0 175)) + vx10_), .inr (.inr (some (254, 0))), .inr (.inr (some (13, 0)))], S_)) rfl ?_
              refine sm_T_cal (d1 := 0) (Q1 := vq_470y (((S_.1 13 0 174) * (S_.1 13 0 175)) + vx10_) S_) rfl rfl (by decide) (vc_470y (((S_.1 13 0 174) * (S_.1 13 0 175)) + vx10_) S_ hI_ (by omega)) (fun u_ Sx47_ px50_ => ?_)
              obtain ⟨rfl, vx52_, rfl, px50_⟩ := px50_
              have eB_ := px50_
              rw [a9_, g177_, e37_, g174_, g175_] at eB_
              refine sm_T_b0 (a := 1) (z := 29) rfl (fun cx53_ => ?_) (fun cx53_ => ?_)
              · have cx53_ : vx52_ ≠ 0 := of_decide_eq_true cx53_
                refine sm_T_inc (a := 4) (z := 1) (v := x_) (w := x_ + 1) rfl rfl (by omega) (by omega) (by omega) ?_ -- pc_ 122
                refine sm_T_go 1 (c1 := (15, [some (.inr (.inr (some (13, 0)))), some (.inl net_), some (.inl y_), some (.inl x_), some (.inl (x_ + 1)), some (.inl (((S_.1 13 0 174) * (S_.1 13 0 175)) + vx10_))], [], S_)) rfl ?_
                refine sm_T_wk [some (.inr (.inr (some (13, 0)))), some (.inl net_), some (.inl y_), some (.inl x_), some (.inl (x_ + 1)), none] (by exact ⟨rfl, rfl, rfl, rfl, rfl, trivial⟩) ?_
                refine ih_.2 y_ x_ (x_ + 1) S_ hI_ hF_ ⟨?_, ?_, trivial⟩ ?_
                · omega
                · first | (rw [T9_, s9_]; push_cast; omega) | (rw [if_neg (by omega)] at u9_; rw [u9_, if_neg (by decide)] at s9_; rw [T9_, s9_]; push_cast; omega)
                · omega
              · have cx53_ : ¬ (vx52_ ≠ 0) := of_decide_eq_false cx53_
                rw [if_pos ⟨by omega, by omega⟩] at u9_
                rw [u9_, if_pos rfl] at s9_
                refine sm_T_go 4 (c1 := (100, [some (.inr (.inr (some (13, 0)))), some (.inl net_), some (.inl y_), some (.inl x_), some (.inl x_), some (.inl (((S_.1 13 0 174) * (S_.1 13 0 175)) + vx10_))], [.inl y_, .inl 4, .inl 1, .inr (.inr (some (13, 0)))], S_)) rfl ?_
                refine sm_T_bin (w := 4 * y_) rfl (bi_mul (by omega) (by omega) (by omega)) ?_ -- pc_ 100
                refine sm_T_go 1 (c1 := (102, [some (.inr (.inr (some (13, 0)))), some (.inl net_), some (.inl y_), some (.inl x_), some (.inl x_), some (.inl (((S_.1 13 0 174) * (S_.1 13 0 175)) + vx10_))], [.inl 1, .inl (4 * y_), .inl 1, .inr (.inr (some (13, 0)))], S_)) rfl ?_
                refine sm_T_bin (w := 4 * y_ - 1) rfl (bi_sub (by omega) (by omega) (by omega)) ?_ -- pc_ 102
                refine sm_T_go 2 (c1 := (105, [some (.inr (.inr (some (13, 0)))), some (.inl net_), some (.inl y_), some (.inl x_), some (.inl x_), some (.inl (((S_.1 13 0 174) * (S_.1 13 0 175)) + vx10_))], [.inl x_, .inl 4, .inl (4 * y_ - 1), .inl 1, .inr (.inr (some (13, 0)))], S_)) rfl ?_
                refine sm_T_bin (w := 4 * x_) rfl (bi_mul (by omega) (by omega) (by omega)) ?_ -- pc_ 105
                refine sm_T_go 1 (c1 := (107, [some (.inr (.inr (some (13, 0)))), some (.inl net_), some (.inl y_), some (.inl x_), some (.inl x_), some (.inl (((S_.1 13 0 174) * (S_.1 13 0 175)) + vx10_))], [.inl 1, .inl (4 * x_), .inl (4 * y_ - 1), .inl 1, .inr (.inr (some (13, 0)))], S_)) rfl ?_
                refine sm_T_bin (w := 4 * x_ - 1) rfl (bi_sub (by omega) (by omega) (by omega)) ?_ -- pc_ 107
                refine sm_T_go 2 (c1 := (110, [some (.inr (.inr (some (13, 0)))), some (.inl net_), some (.inl y_), some (.inl x_), some (.inl x_), some (.inl (((S_.1 13 0 174) * (S_.1 13 0 175)) + vx10_))], [.inl y_, .inl 4, .inl (4 * x_ - 1), .inl (4 * y_ - 1), .inl 1, .inr (.inr (some (13, 0)))], S_)) rfl ?_
                refine sm_T_bin (w := 4 * y_) rfl (bi_mul (by omega) (by omega) (by omega)) ?_ -- pc_ 110
                refine sm_T_go 1 (c1 := (112, [some (.inr (.inr (some (13, 0)))), some (.inl net_), some (.inl y_), some (.inl x_), some (.inl x_), some (.inl (((S_.1 13 0 174) * (S_.1 13 0 175)) + vx10_))], [.inl 1, .inl (4 * y_), .inl (4 * x_ - 1), .inl (4 * y_ - 1), .inl 1, .inr (.inr (some (13, 0)))], S_)) rfl ?_
                refine sm_T_bin (w := 4 * y_ + 1) rfl (bi_add (by omega) (by omega) (by omega)) ?_ -- pc_ 112
                refine sm_T_go 2 (c1 := (116, [some (.inr (.inr (some (13, 0)))), some (.inl net_), some (.inl y_), some (.inl x_), some (.inl x_), some (.inl (((S_.1 13 0 174) * (S_.1 13 0 175)) + vx10_))], [.inl x_, .inl 4, .inl (4 * y_ + 1), .inl (4 * x_ - 1), .inl (4 * y_ - 1), .inl 1, .inr (.inr (some (13, 0)))], S_)) rfl ?_
                refine sm_T_bin (w := 4 * x_) rfl (bi_mul (by omega) (by omega) (by omega)) ?_ -- pc_ 116
                refine sm_T_go 1 (c1 := (118, [some (.inr (.inr (some (13, 0)))), some (.inl net_), some (.inl y_), some (.inl x_), some (.inl x_), some (.inl (((S_.1 13 0 174) * (S_.1 13 0 175)) + vx10_))], [.inl 1, .inl (4 * x_), .inl (4 * y_ + 1), .inl (4 * x_ - 1), .inl (4 * y_ - 1), .inl 1, .inr (.inr (some (13, 0)))], S_)) rfl ?_
                refine sm_T_bin (w := 4 * x_ + 1) rfl (bi_add (by omega) (by omega) (by omega)) ?_ -- pc_ 118
                refine sm_T_cal (d1 := 0) (Q1 := vq_469 1 (4 * y_ - 1) (4 * x_ - 1) (4 * y_ + 1) (4 * x_ + 1) S_) rfl rfl (by decide) (vc_469 1 (4 * y_ - 1) (4 * x_ - 1) (4 * y_ + 1) (4 * x_ + 1) S_ hI_ (by omega) (by omega) (by omega) (by omega) (by omega) (by (rw [lm9_]; push_cast at *; omega))) (fun u_ Sx54_ px57_ => ?_)
                obtain ⟨rfl, hIx55_, hFx56_, px57_⟩ := px57_
                have hFx58_ : ai_fr (sx_W vw_472) S0_ Sx54_ := ai_fr_tr hF_ (fr_le hFx56_ rfl)
                have ex59_ : Sx54_.1 13 0 175 = S_.1 13 0 175 := hFx56_.1 13 0 175 rfl
                have ex60_ : Sx54_.1 13 0 174 = S_.1 13 0 174 := hFx56_.1 13 0 174 rfl
                have eL_ := px57_
                refine sm_T_inc (a := 4) (z := 1) (v := x_) (w := x_ + 1) rfl rfl (by omega) (by omega) (by omega) ?_ -- pc_ 122
                refine sm_T_go 1 (c1 := (15, [some (.inr (.inr (some (13, 0)))), some (.inl net_), some (.inl y_), some (.inl x_), some (.inl (x_ + 1)), some (.inl (((S_.1 13 0 174) * (S_.1 13 0 175)) + vx10_))], [], Sx54_)) rfl ?_
                refine sm_T_wk [some (.inr (.inr (some (13, 0)))), some (.inl net_), some (.inl y_), some (.inl x_), some (.inl (x_ + 1)), none] (by exact ⟨rfl, rfl, rfl, rfl, rfl, trivial⟩) ?_
                refine ih_.2 y_ x_ (x_ + 1) Sx54_ hIx55_ hFx58_ ⟨?_, ?_, trivial⟩ ?_
                · omega
                · first | (rw [T9_, s9_]; push_cast; omega) | (rw [if_neg (by omega)] at u9_; rw [u9_, if_neg (by decide)] at s9_; rw [T9_, s9_]; push_cast; omega)
                · omega
          · have cx39_ : ¬ (vx38_ = 0) := of_decide_eq_false cx39_
            refine sm_T_go 5 (c1 := (76, [some (.inr (.inr (some (13, 0)))), some (.inl net_), some (.inl y_), some (.inl b_), some (.inl x_), some (.inl (((S_.1 13 0 174) * (S_.1 13 0 175)) + vx10_))], [.inl (((S_.1 13 0 174) * (S_.1 13 0 175)) + vx10_), .inr (.inr (some (13, 0)))], S_)) rfl ?_
            refine sm_T_cal (d1 := 0) (Q1 := vq_454 (((S_.1 13 0 174) * (S_.1 13 0 175)) + vx10_) S_) rfl rfl (by decide) (vc_454 (((S_.1 13 0 174) * (S_.1 13 0 175)) + vx10_) S_ hI_ (by omega)) (fun u_ Sx61_ px64_ => ?_)
            obtain ⟨rfl, vx66_, rfl, px64_⟩ := px64_
            have eN_ := px64_
            rw [nt9_, e37_, g174_, g175_] at eN_
            refine sm_T_go 1 (c1 := (80, [some (.inr (.inr (some (13, 0)))), some (.inl net_), some (.inl y_), some (.inl b_), some (.inl x_), some (.inl (((S_.1 13 0 174) * (S_.1 13 0 175)) + vx10_))], [.inl net_, .inl vx66_], S_)) rfl ?_
            refine sm_T_br (a := 1) (z := 42) rfl (fun cx67_ => ?_) (fun cx67_ => ?_)
            · have cx67_ : vx66_ ≠ net_ := of_decide_eq_true cx67_
              refine sm_T_inc (a := 4) (z := 1) (v := x_) (w := x_ + 1) rfl rfl (by omega) (by omega) (by omega) ?_ -- pc_ 122
              refine sm_T_go 1 (c1 := (15, [some (.inr (.inr (some (13, 0)))), some (.inl net_), some (.inl y_), some (.inl b_), some (.inl (x_ + 1)), some (.inl (((S_.1 13 0 174) * (S_.1 13 0 175)) + vx10_))], [], S_)) rfl ?_
              refine sm_T_wk [some (.inr (.inr (some (13, 0)))), some (.inl net_), some (.inl y_), some (.inl b_), some (.inl (x_ + 1)), none] (by exact ⟨rfl, rfl, rfl, rfl, rfl, trivial⟩) ?_
              refine ih_.2 y_ b_ (x_ + 1) S_ hI_ hF_ ⟨?_, ?_, trivial⟩ ?_
              · omega
              · first | (rw [T9_, s9_]; push_cast; omega) | (rw [if_neg (by omega)] at u9_; rw [u9_, if_neg (by decide)] at s9_; rw [T9_, s9_]; push_cast; omega)
              · omega
            · have cx67_ : ¬ (vx66_ ≠ net_) := of_decide_eq_false cx67_
              refine sm_T_go 4 (c1 := (90, [some (.inr (.inr (some (13, 0)))), some (.inl net_), some (.inl y_), some (.inl b_), some (.inl x_), some (.inl (((S_.1 13 0 174) * (S_.1 13 0 175)) + vx10_))], [.inl (((S_.1 13 0 174) * (S_.1 13 0 175)) + vx10_), .inr (.inr (some (254, 0))), .inr (.inr (some (13, 0)))], S_)) rfl ?_
              refine sm_T_cal (d1 := 0) (Q1 := vq_470y (((S_.1 13 0 174) * (S_.1 13 0 175)) + vx10_) S_) rfl rfl (by decide) (vc_470y (((S_.1 13 0 174) * (S_.1 13 0 175)) + vx10_) S_ hI_ (by omega)) (fun u_ Sx68_ px71_ => ?_)
              obtain ⟨rfl, vx73_, rfl, px71_⟩ := px71_
              have eB_ := px71_
              rw [a9_, g177_, e37_, g174_, g175_] at eB_
              refine sm_T_b0 (a := 1) (z := 29) rfl (fun cx74_ => ?_) (fun cx74_ => ?_)
              · have cx74_ : vx73_ ≠ 0 := of_decide_eq_true cx74_
                refine sm_T_inc (a := 4) (z := 1) (v := x_) (w := x_ + 1) rfl rfl (by omega) (by omega) (by omega) ?_ -- pc_ 122
                refine sm_T_go 1 (c1 := (15, [some (.inr (.inr (some (13, 0)))), some (.inl net_), some (.inl y_), some (.inl b_), some (.inl (x_ + 1)), some (.inl (((S_.1 13 0 174) * (S_.1 13 0 175)) + vx10_))], [], S_)) rfl ?_
                refine sm_T_wk [some (.inr (.inr (some (13, 0)))), some (.inl net_), some (.inl y_), some (.inl b_), some (.inl (x_ + 1)), none] (by exact ⟨rfl, rfl, rfl, rfl, rfl, trivial⟩) ?_
                refine ih_.2 y_ b_ (x_ + 1) S_ hI_ hF_ ⟨?_, ?_, trivial⟩ ?_
                · omega
                · first | (rw [T9_, s9_]; push_cast; omega) | (rw [if_neg (by omega)] at u9_; rw [u9_, if_neg (by decide)] at s9_; rw [T9_, s9_]; push_cast; omega)
                · omega
              · have cx74_ : ¬ (vx73_ ≠ 0) := of_decide_eq_false cx74_
                rw [if_pos ⟨by omega, by omega⟩] at u9_
                rw [u9_, if_pos rfl] at s9_
                refine sm_T_go 4 (c1 := (100, [some (.inr (.inr (some (13, 0)))), some (.inl net_), some (.inl y_), some (.inl b_), some (.inl x_), some (.inl (((S_.1 13 0 174) * (S_.1 13 0 175)) + vx10_))], [.inl y_, .inl 4, .inl 1, .inr (.inr (some (13, 0)))], S_)) rfl ?_
                refine sm_T_bin (w := 4 * y_) rfl (bi_mul (by omega) (by omega) (by omega)) ?_ -- pc_ 100
                refine sm_T_go 1 (c1 := (102, [some (.inr (.inr (some (13, 0)))), some (.inl net_), some (.inl y_), some (.inl b_), some (.inl x_), some (.inl (((S_.1 13 0 174) * (S_.1 13 0 175)) + vx10_))], [.inl 1, .inl (4 * y_), .inl 1, .inr (.inr (some (13, 0)))], S_)) rfl ?_
                refine sm_T_bin (w := 4 * y_ - 1) rfl (bi_sub (by omega) (by omega) (by omega)) ?_ -- pc_ 102
                refine sm_T_go 2 (c1 := (105, [some (.inr (.inr (some (13, 0)))), some (.inl net_), some (.inl y_), some (.inl b_), some (.inl x_), some (.inl (((S_.1 13 0 174) * (S_.1 13 0 175)) + vx10_))], [.inl b_, .inl 4, .inl (4 * y_ - 1), .inl 1, .inr (.inr (some (13, 0)))], S_)) rfl ?_
                refine sm_T_bin (w := 4 * b_) rfl (bi_mul (by omega) (by omega) (by omega)) ?_ -- pc_ 105
                refine sm_T_go 1 (c1 := (107, [some (.inr (.inr (some (13, 0)))), some (.inl net_), some (.inl y_), some (.inl b_), some (.inl x_), some (.inl (((S_.1 13 0 174) * (S_.1 13 0 175)) + vx10_))], [.inl 1, .inl (4 * b_), .inl (4 * y_ - 1), .inl 1, .inr (.inr (some (13, 0)))], S_)) rfl ?_
                refine sm_T_bin (w := 4 * b_ - 1) rfl (bi_sub (by omega) (by omega) (by omega)) ?_ -- pc_ 107
                refine sm_T_go 2 (c1 := (110, [some (.inr (.inr (some (13, 0)))), some (.inl net_), some (.inl y_), some (.inl b_), some (.inl x_), some (.inl (((S_.1 13 0 174) * (S_.1 13 0 175)) + vx10_))], [.inl y_, .inl 4, .inl (4 * b_ - 1), .inl (4 * y_ - 1), .inl 1, .inr (.inr (some (13, 0)))], S_)) rfl ?_
                refine sm_T_bin (w := 4 * y_) rfl (bi_mul (by omega) (by omega) (by omega)) ?_ -- pc_ 110
                refine sm_T_go 1 (c1 := (112, [some (.inr (.inr (some (13, 0)))), some (.inl net_), some (.inl y_), some (.inl b_), some (.inl x_), some (.inl (((S_.1 13 0 174) * (S_.1 13 0 175)) + vx10_))], [.inl 1, .inl (4 * y_), .inl (4 * b_ - 1), .inl (4 * y_ - 1), .inl 1, .inr (.inr (some (13, 0)))], S_)) rfl ?_
                refine sm_T_bin (w := 4 * y_ + 1) rfl (bi_add (by omega) (by omega) (by omega)) ?_ -- pc_ 112
                refine sm_T_go 2 (c1 := (116, [some (.inr (.inr (some (13, 0)))), some (.inl net_), some (.inl y_), some (.inl b_), some (.inl x_), some (.inl (((S_.1 13 0 174) * (S_.1 13 0 175)) + vx10_))], [.inl x_, .inl 4, .inl (4 * y_ + 1), .inl (4 * b_ - 1), .inl (4 * y_ - 1), .inl 1, .inr (.inr (some (13, 0)))], S_)) rfl ?_
                refine sm_T_bin (w := 4 * x_) rfl (bi_mul (by omega) (by omega) (by omega)) ?_ -- pc_ 116
                refine sm_T_go 1 (c1 := (118, [some (.inr (.inr (some (13, 0)))), some (.inl net_), some (.inl y_), some (.inl b_), some (.inl x_), some (.inl (((S_.1 13 0 174) * (S_.1 13 0 175)) + vx10_))], [.inl 1, .inl (4 * x_), .inl (4 * y_ + 1), .inl (4 * b_ - 1), .inl (4 * y_ - 1), .inl 1, .inr (.inr (some (13, 0)))], S_)) rfl ?_
                refine sm_T_bin (w := 4 * x_ + 1) rfl (bi_add (by omega) (by omega) (by omega)) ?_ -- pc_ 118
                refine sm_T_cal (d1 := 0) (Q1 := vq_469 1 (4 * y_ - 1) (4 * b_ - 1) (4 * y_ + 1) (4 * x_ + 1) S_) rfl rfl (by decide) (vc_469 1 (4 * y_ - 1) (4 * b_ - 1) (4 * y_ + 1) (4 * x_ + 1) S_ hI_ (by omega) (by omega) (by omega) (by omega) (by omega) (by (rw [lm9_]; push_cast at *; omega))) (fun u_ Sx75_ px78_ => ?_)
                obtain ⟨rfl, hIx76_, hFx77_, px78_⟩ := px78_
                have hFx79_ : ai_fr (sx_W vw_472) S0_ Sx75_ := ai_fr_tr hF_ (fr_le hFx77_ rfl)
                have ex80_ : Sx75_.1 13 0 175 = S_.1 13 0 175 := hFx77_.1 13 0 175 rfl
                have ex81_ : Sx75_.1 13 0 174 = S_.1 13 0 174 := hFx77_.1 13 0 174 rfl
                have eL_ := px78_
                refine sm_T_inc (a := 4) (z := 1) (v := x_) (w := x_ + 1) rfl rfl (by omega) (by omega) (by omega) ?_ -- pc_ 122
                refine sm_T_go 1 (c1 := (15, [some (.inr (.inr (some (13, 0)))), some (.inl net_), some (.inl y_), some (.inl b_), some (.inl (x_ + 1)), some (.inl (((S_.1 13 0 174) * (S_.1 13 0 175)) + vx10_))], [], Sx75_)) rfl ?_
                refine sm_T_wk [some (.inr (.inr (some (13, 0)))), some (.inl net_), some (.inl y_), some (.inl b_), some (.inl (x_ + 1)), none] (by exact ⟨rfl, rfl, rfl, rfl, rfl, trivial⟩) ?_
                refine ih_.2 y_ b_ (x_ + 1) Sx75_ hIx76_ hFx79_ ⟨?_, ?_, trivial⟩ ?_
                · omega
                · first | (rw [T9_, s9_]; push_cast; omega) | (rw [if_neg (by omega)] at u9_; rw [u9_, if_neg (by decide)] at s9_; rw [T9_, s9_]; push_cast; omega)
                · omega
set_option maxHeartbeats 2000000 in
set_option maxRecDepth 20000 in
theorem vc_472 {sc_ : Nat × (Nat → Int)} (net_ : Int) (S0_ : sm_S) (hI_ : gi S0_) (hgr_ : grd S0_) (hn_ : 0 ≤ net_ ∧ net_ ≤ 161) (hd_ : S0_.1 13 0 188 + (lcc S0_ net_ : Int) ≤ lim9 S0_) : sm_T (mt_P sc_) 1 472 (0, [some (.inr (.inr (some (13, 0)))), some (.inl net_), none, none, none, none], [], S0_) (fun ro9_ => ∃ u_ S1_, ro9_ = (.inl u_, S1_, 0) ∧ vq_472 net_ S0_ u_ S1_) := by
  have hF_ : ai_fr (sx_W vw_472) S0_ S0_ := ai_fr_rf
  refine sm_T_go 2 (c1 := (2, [some (.inr (.inr (some (13, 0)))), some (.inl net_), some (.inl 0), none, none, none], [], S0_)) rfl ?_
  refine (vl_472 net_ S0_ hgr_ hn_ hd_ _).1 0 S0_ hI_ hF_ ⟨?_, ?_, trivial⟩ (Nat.lt_succ_self _)
  · (have g1_ := hgr_.1; have g3_ := hgr_.2.2.1; omega)
  · (rw [show (0 : Int).toNat = 0 from rfl]; show S0_.1 13 0 188 = S0_.1 13 0 188 + ((0 : Nat) : Int); omega)
/-! M_.layAll -/
def vw_473 : sx_Wl := ([(13, 188)], [265], [])
def vq_473 (c_ : Int) (S0_ : sm_S) (u_ : Option sm_V) (S1_ : sm_S) : Prop := u_ = none ∧ gi S1_ ∧ ai_fr (sx_W vw_473) S0_ S1_ ∧ (S1_.1 13 0 188 = (ltt S0_ (S0_.2.2.1 223 0 c_.toNat + S0_.2.2.1 224 0 c_.toNat + S0_.2.2.1 228 0 c_.toNat).toNat : Int))
set_option maxHeartbeats 3000000 in
set_option maxRecDepth 20000 in
theorem vl_473 {sc_ : Nat × (Nat → Int)} (c_ : Int) (S0_ : sm_S) (hc_ : 0 ≤ c_ ∧ c_ ≤ 3) (hx_ : S0_.2.2.1 223 0 c_.toNat + S0_.2.2.1 224 0 c_.toNat ≤ 12) (hgr_ : grd S0_) (hd_ : (ltt S0_ (S0_.2.2.1 223 0 c_.toNat + S0_.2.2.1 224 0 c_.toNat + S0_.2.2.1 228 0 c_.toNat).toNat : Int) ≤ lim9 S0_) : ∀ nn_ : Nat, (∀ (n_ : Int) (S_ : sm_S), gi S_ → ai_fr (sx_W vw_473) S0_ S_ → ((0 ≤ n_ ∧ n_ ≤ (S0_.2.2.1 223 0 c_.toNat + S0_.2.2.1 224 0 c_.toNat + S0_.2.2.1 228 0 c_.toNat)) ∧ (S_.1 13 0 188 = (ltt S0_ n_.toNat : Int)) ∧ True) → ((10000 * (500 - n_) + 9000).toNat) < nn_ → sm_T (mt_P sc_) 2 473 (7, [some (.inr (.inr (some (13, 0)))), some (.inl c_), some (.inl n_), none, none, none], [], S_) (fun ro9_ => ∃ u_ S1_, ro9_ = (.inl u_, S1_, 0) ∧ vq_473 c_ S0_ u_ S1_)) ∧ (∀ (n_ : Int) (p_ : Int) (S_ : sm_S), gi S_ → ai_fr (sx_W vw_473) S0_ S_ → ((0 ≤ n_ ∧ n_ < (S0_.2.2.1 223 0 c_.toNat + S0_.2.2.1 224 0 c_.toNat + S0_.2.2.1 228 0 c_.toNat) ∧ 0 ≤ p_ ∧ p_ ≤ S0_.1 13 0 174 * S0_.1 13 0 175) ∧ (S_.1 13 0 188 = (ltt S0_ n_.toNat : Int) + (lrc S0_ n_ : Int) + (lcc S0_ n_ : Int) + (cn1 (lv9 S0_ n_) p_.toNat : Int)) ∧ True) → ((10000 * (500 - n_) + 8000 - p_).toNat) < nn_ → sm_T (mt_P sc_) 2 473 (28, [some (.inr (.inr (some (13, 0)))), some (.inl c_), some (.inl n_), some (.inl p_), none, none], [], S_) (fun ro9_ => ∃ u_ S1_, ro9_ = (.inl u_, S1_, 0) ∧ vq_473 c_ S0_ u_ S1_)) := by
  intro nn_
  induction nn_ with
  | zero => exact ⟨fun _ _ _ _ _ h_ => absurd h_ (Nat.not_lt_zero _), fun _ _ _ _ _ _ h_ => absurd h_ (Nat.not_lt_zero _)⟩
  | succ nn_ ih_ =>
    refine ⟨?_, ?_⟩
    · rintro n_ S_ hI_ hF_ ⟨h0_, h1_, -⟩ hm_
      have g174_ : S_.1 13 0 174 = S0_.1 13 0 174 := hF_.1 13 0 174 rfl
      have g175_ : S_.1 13 0 175 = S0_.1 13 0 175 := hF_.1 13 0 175 rfl
      have g177_ : S_.1 13 0 177 = S0_.1 13 0 177 := hF_.1 13 0 177 rfl
      have g189_ : S_.1 13 0 189 = S0_.1 13 0 189 := hF_.1 13 0 189 rfl
      have lm9_ : lim9 S_ = lim9 S0_ := by (unfold lim9; rw [g189_])
      have l9_ := lim9_b S0_
      have nt9_ : nta S_ = nta S0_ := nta_fr hF_
      have gm9_ := grd_m hgr_
      have g1_ := hgr_.1
      have g2_ := hgr_.2.1
      have g3_ := hgr_.2.2.1
      have g4_ := hgr_.2.2.2.1
      have fr9_ := ltn_fr hF_
      have gp9_ : S_.1 13 0 174 * S_.1 13 0 175 = S0_.1 13 0 174 * S0_.1 13 0 175 := by rw [g174_, g175_]
      have gr9_ := grd_fr hgr_ hF_
      have f223_ : S_.2.2.1 223 0 = S0_.2.2.1 223 0 := fr_arr hF_ rfl
      have f224_ : S_.2.2.1 224 0 = S0_.2.2.1 224 0 := fr_arr hF_ rfl
      have f228_ : S_.2.2.1 228 0 = S0_.2.2.1 228 0 := fr_arr hF_ rfl
      have f255_ : S_.2.2.1 255 0 = S0_.2.2.1 255 0 := fr_arr hF_ rfl
      have x223_ : S_.2.2.1 223 0 c_.toNat = S0_.2.2.1 223 0 c_.toNat := congrFun f223_ _
      have x224_ : S_.2.2.1 224 0 c_.toNat = S0_.2.2.1 224 0 c_.toNat := congrFun f224_ _
      have x228_ : S_.2.2.1 228 0 c_.toNat = S0_.2.2.1 228 0 c_.toNat := congrFun f228_ _
      have cA_ : 0 ≤ S_.2.2.1 223 0 c_.toNat ∧ S_.2.2.1 223 0 c_.toNat ≤ 12 := hI_.2 223 0 _
      have cB_ : 0 ≤ S_.2.2.1 224 0 c_.toNat ∧ S_.2.2.1 224 0 c_.toNat ≤ 6 := hI_.2 224 0 _
      have cG_ : 0 ≤ S_.2.2.1 228 0 c_.toNat ∧ S_.2.2.1 228 0 c_.toNat ≤ 150 := hI_.2 228 0 _
      refine sm_T_go 3 (c1 := (10, [some (.inr (.inr (some (13, 0)))), some (.inl c_), some (.inl n_), none, none, none], [.inl c_, .inr (.inr (some (13, 0))), .inl n_], S_)) rfl ?_
      refine sm_T_cal (d1 := 0) (Q1 := vq_422 c_ S_) rfl rfl (by decide) (vc_422 c_ S_ hI_ (by omega)) (fun u_ Sx1_ px4_ => ?_)
      obtain ⟨rfl, vx6_, rfl, px4_⟩ := px4_
      refine sm_T_br (a := 3) (z := 102) rfl (fun cx7_ => ?_) (fun cx7_ => ?_)
      · have cx7_ : vx6_ ≤ n_ := of_decide_eq_true cx7_
        refine sm_T_rv rfl ⟨_, _, rfl, rfl, hI_, hF_, ?_⟩
        have z9_ : n_ = (S0_.2.2.1 223 0 c_.toNat + S0_.2.2.1 224 0 c_.toNat + S0_.2.2.1 228 0 c_.toNat) := by omega
        rw [z9_] at h1_
        exact h1_
      · have cx7_ : ¬ (vx6_ ≤ n_) := of_decide_eq_false cx7_
        have t9_ : ltt S0_ (n_.toNat + 1) = ltt S0_ n_.toNat + (lrc S0_ n_ + lcc S0_ n_ + lvc S0_ n_) := by (show sn9 (ltn S0_) (n_.toNat + 1) = _; rw [sn9_s]; unfold ltt ltn; rw [show ((n_.toNat : Nat) : Int) = n_ by omega])
        have v9_ := sn9_m (ltn S0_) (n_ := n_.toNat + 1) (m_ := (S0_.2.2.1 223 0 c_.toNat + S0_.2.2.1 224 0 c_.toNat + S0_.2.2.1 228 0 c_.toNat).toNat) (by omega)
        have w9_ : ltt S0_ (n_.toNat + 1) ≤ ltt S0_ (S0_.2.2.1 223 0 c_.toNat + S0_.2.2.1 224 0 c_.toNat + S0_.2.2.1 228 0 c_.toNat).toNat := v9_
        refine sm_T_go 2 (c1 := (18, [some (.inr (.inr (some (13, 0)))), some (.inl c_), some (.inl n_), none, none, none], [.inl n_, .inr (.inr (some (13, 0)))], S_)) rfl ?_
        refine sm_T_cal (d1 := 1) (Q1 := vq_471 n_ S_) rfl rfl (by decide) (vc_471 n_ S_ hI_ (by exact gr9_) (by omega) (by (rw [fr9_.1, lm9_]; omega))) (fun u_ Sx8_ px11_ => ?_)
        obtain ⟨rfl, hIx9_, hFx10_, px11_⟩ := px11_
        have hFx12_ : ai_fr (sx_W vw_473) S0_ Sx8_ := ai_fr_tr hF_ (fr_le hFx10_ rfl)
        have e18_ := px11_
        rw [fr9_.1] at e18_
        have gr18_ := grd_fr gr9_ hFx10_
        have fr18_ := ltn_fr hFx10_
        have l18_ : lim9 Sx8_ = lim9 S0_ := by (unfold lim9; rw [hFx10_.1 13 0 189 rfl, g189_])
        refine sm_T_go 2 (c1 := (23, [some (.inr (.inr (some (13, 0)))), some (.inl c_), some (.inl n_), none, none, none], [.inl n_, .inr (.inr (some (13, 0)))], Sx8_)) rfl ?_
        refine sm_T_cal (d1 := 1) (Q1 := vq_472 n_ Sx8_) rfl rfl (by decide) (vc_472 n_ Sx8_ hIx9_ (by exact gr18_) (by omega) (by (rw [fr18_.2.1, fr9_.2.1, l18_]; omega))) (fun u_ Sx13_ px16_ => ?_)
        obtain ⟨rfl, hIx14_, hFx15_, px16_⟩ := px16_
        have hFx17_ : ai_fr (sx_W vw_473) S0_ Sx13_ := ai_fr_tr hFx12_ (fr_le hFx15_ rfl)
        have e23_ := px16_
        rw [fr18_.2.1, fr9_.2.1] at e23_
        refine sm_T_go 2 (c1 := (28, [some (.inr (.inr (some (13, 0)))), some (.inl c_), some (.inl n_), some (.inl 0), none, none], [], Sx13_)) rfl ?_
        refine ih_.2 n_ 0 Sx13_ hIx14_ hFx17_ ⟨?_, ?_, trivial⟩ ?_
        · omega
        · (rw [show (0 : Int).toNat = 0 from rfl]; show _ = _ + _ + _ + ((0 : Nat) : Int); omega)
        · omega
    · rintro n_ p_ S_ hI_ hF_ ⟨h0_, h1_, -⟩ hm_
      have g174_ : S_.1 13 0 174 = S0_.1 13 0 174 := hF_.1 13 0 174 rfl
      have g175_ : S_.1 13 0 175 = S0_.1 13 0 175 := hF_.1 13 0 175 rfl
      have g177_ : S_.1 13 0 177 = S0_.1 13 0 177 := hF_.1 13 0 177 rfl
      have g189_ : S_.1 13 0 189 = S0_.1 13 0 189 := hF_.1 13 0 189 rfl
      have lm9_ : lim9 S_ = lim9 S0_ := by (unfold lim9; rw [g189_])
      have l9_ := lim9_b S0_
      have nt9_ : nta S_ = nta S0_ := nta_fr hF_
      have gm9_ := grd_m hgr_
      have g1_ := hgr_.1
      have g2_ := hgr_.2.1
      have g3_ := hgr_.2.2.1
      have g4_ := hgr_.2.2.2.1
      have fr9_ := ltn_fr hF_
      have gp9_ : S_.1 13 0 174 * S_.1 13 0 175 = S0_.1 13 0 174 * S0_.1 13 0 175 := by rw [g174_, g175_]
      have gr9_ := grd_fr hgr_ hF_
      have f223_ : S_.2.2.1 223 0 = S0_.2.2.1 223 0 := fr_arr hF_ rfl
      have f224_ : S_.2.2.1 224 0 = S0_.2.2.1 224 0 := fr_arr hF_ rfl
      have f228_ : S_.2.2.1 228 0 = S0_.2.2.1 228 0 := fr_arr hF_ rfl
      have f255_ : S_.2.2.1 255 0 = S0_.2.2.1 255 0 := fr_arr hF_ rfl
      have x223_ : S_.2.2.1 223 0 c_.toNat = S0_.2.2.1 223 0 c_.toNat := congrFun f223_ _
      have x224_ : S_.2.2.1 224 0 c_.toNat = S0_.2.2.1 224 0 c_.toNat := congrFun f224_ _
      have x228_ : S_.2.2.1 228 0 c_.toNat = S0_.2.2.1 228 0 c_.toNat := congrFun f228_ _
      have cA_ : 0 ≤ S_.2.2.1 223 0 c_.toNat ∧ S_.2.2.1 223 0 c_.toNat ≤ 12 := hI_.2 223 0 _
      have cB_ : 0 ≤ S_.2.2.1 224 0 c_.toNat ∧ S_.2.2.1 224 0 c_.toNat ≤ 6 := hI_.2 224 0 _
      have cG_ : 0 ≤ S_.2.2.1 228 0 c_.toNat ∧ S_.2.2.1 228 0 c_.toNat ≤ 150 := hI_.2 228 0 _
      have bx1_ : 0 ≤ S_.1 13 0 174 ∧ S_.1 13 0 174 ≤ 62 := hI_.1 13 0 174 rfl
      have bx2_ : 0 ≤ S_.1 13 0 175 ∧ S_.1 13 0 175 ≤ 38 := hI_.1 13 0 175 rfl
      refine sm_T_go 5 (c1 := (37, [some (.inr (.inr (some (13, 0)))), some (.inl c_), some (.inl n_), some (.inl p_), none, none], [.inl (S_.1 13 0 175), .inl (S_.1 13 0 174), .inl p_], S_)) rfl ?_
      have bx3_ := mul_b (x_ := (S_.1 13 0 174)) (y_ := (S_.1 13 0 175)) (X_ := 62) (Y_ := 38) (Z_ := 2356) (by omega) (by omega) (by decide)
      refine sm_T_bin (w := ((S_.1 13 0 174) * (S_.1 13 0 175))) rfl (bi_mul rfl (by omega) (by omega)) ?_ -- pc_ 37
      refine sm_T_br (a := 3) (z := 71) rfl (fun cx4_ => ?_) (fun cx4_ => ?_)
      · have cx4_ : ((S_.1 13 0 174) * (S_.1 13 0 175)) ≤ p_ := of_decide_eq_true cx4_
        refine sm_T_inc (a := 2) (z := 1) (v := n_) (w := n_ + 1) rfl rfl (by omega) (by omega) (by omega) ?_ -- pc_ 109
        refine sm_T_go 1 (c1 := (7, [some (.inr (.inr (some (13, 0)))), some (.inl c_), some (.inl (n_ + 1)), some (.inl p_), none, none], [], S_)) rfl ?_
        refine sm_T_wk [some (.inr (.inr (some (13, 0)))), some (.inl c_), some (.inl (n_ + 1)), none, none, none] (by exact ⟨rfl, rfl, rfl, trivial⟩) ?_
        refine ih_.1 (n_ + 1) S_ hI_ hF_ ⟨?_, ?_, trivial⟩ ?_
        · omega
        · have t9_ : ltt S0_ (n_.toNat + 1) = ltt S0_ n_.toNat + (lrc S0_ n_ + lcc S0_ n_ + lvc S0_ n_) := by (show sn9 (ltn S0_) (n_.toNat + 1) = _; rw [sn9_s]; unfold ltt ltn; rw [show ((n_.toNat : Nat) : Int) = n_ by omega])
          rw [show (n_ + 1).toNat = n_.toNat + 1 by omega, t9_]
          have z9_ : p_ = S0_.1 13 0 174 * S0_.1 13 0 175 := by omega
          have m8_ : cn1 (lv9 S0_ n_) p_.toNat = lvc S0_ n_ := by (rw [z9_]; rfl)
          rw [m8_] at h1_
          push_cast
          omega
        · omega
      · have cx4_ : ¬ (((S_.1 13 0 174) * (S_.1 13 0 175)) ≤ p_) := of_decide_eq_false cx4_
        have t9_ : ltt S0_ (n_.toNat + 1) = ltt S0_ n_.toNat + (lrc S0_ n_ + lcc S0_ n_ + lvc S0_ n_) := by (show sn9 (ltn S0_) (n_.toNat + 1) = _; rw [sn9_s]; unfold ltt ltn; rw [show ((n_.toNat : Nat) : Int) = n_ by omega])
        have v9_ := sn9_m (ltn S0_) (n_ := n_.toNat + 1) (m_ := (S0_.2.2.1 223 0 c_.toNat + S0_.2.2.1 224 0 c_.toNat + S0_.2.2.1 228 0 c_.toNat).toNat) (by omega)
        have w9_ : ltt S0_ (n_.toNat + 1) ≤ ltt S0_ (S0_.2.2.1 223 0 c_.toNat + S0_.2.2.1 224 0 c_.toNat + S0_.2.2.1 228 0 c_.toNat).toNat := v9_
        have s9_ := cn1_s (lv9 S0_ n_) p_.toNat
        have m9_ := cn1_m (lv9 S0_ n_) (n_ := p_.toNat + 1) (m_ := (S0_.1 13 0 174 * S0_.1 13 0 175).toNat) (by omega)
        have m8_ : cn1 (lv9 S0_ n_) (S0_.1 13 0 174 * S0_.1 13 0 175).toNat = lvc S0_ n_ := rfl
        have u9_ : lv9 S0_ n_ p_.toNat = if nta S0_ p_ = n_ ∧ S0_.2.2.1 255 0 (4712 * S0_.1 13 0 177 + p_).toNat ≠ 0 then 1 else 0 := by (unfold lv9; rw [show ((p_.toNat : Nat) : Int) = p_ by omega])
        have T9_ : (p_ + 1).toNat = p_.toNat + 1 := by omega
        have x1_ := Int.emod_nonneg p_ (show S_.1 13 0 174 ≠ 0 by omega)
        have x2_ := Int.emod_lt_of_pos p_ (show 0 < S_.1 13 0 174 by omega)
        have x3_ := Int.ediv_nonneg h0_.2.2.1 (show 0 ≤ S_.1 13 0 174 by omega)
        have x4_ : p_ / S_.1 13 0 174 < S_.1 13 0 175 := mlt (W_ := S_.1 13 0 174) (by omega) (by have q9_ := dmu (W_ := S_.1 13 0 174) (p_ := p_) (by omega); omega)
        refine sm_T_go 2 (c1 := (43, [some (.inr (.inr (some (13, 0)))), some (.inl c_), some (.inl n_), some (.inl p_), none, none], [.inl p_, .inr (.inr (some (13, 0)))], S_)) rfl ?_
        refine sm_T_cal (d1 := 0) (Q1 := vq_454 p_ S_) rfl rfl (by decide) (vc_454 p_ S_ hI_ (by omega)) (fun u_ Sx5_ px8_ => ?_)
        obtain ⟨rfl, vx10_, rfl, px8_⟩ := px8_
        have eN_ := px8_
        rw [nt9_] at eN_
        refine sm_T_go 1 (c1 := (47, [some (.inr (.inr (some (13, 0)))), some (.inl c_), some (.inl n_), some (.inl p_), none, none], [.inl n_, .inl vx10_], S_)) rfl ?_
        refine sm_T_br (a := 1) (z := 56) rfl (fun cx11_ => ?_) (fun cx11_ => ?_)
        · have cx11_ : vx10_ ≠ n_ := of_decide_eq_true cx11_
          refine sm_T_inc (a := 3) (z := 1) (v := p_) (w := p_ + 1) rfl rfl (by omega) (by omega) (by omega) ?_ -- pc_ 103
          refine sm_T_go 1 (c1 := (28, [some (.inr (.inr (some (13, 0)))), some (.inl c_), some (.inl n_), some (.inl (p_ + 1)), none, none], [], S_)) rfl ?_
          refine ih_.2 n_ (p_ + 1) S_ hI_ hF_ ⟨?_, ?_, trivial⟩ ?_
          · omega
          · first | (rw [T9_, s9_]; push_cast; omega) | (rw [if_neg (by omega)] at u9_; rw [u9_, if_neg (by decide)] at s9_; rw [T9_, s9_]; push_cast; omega)
          · omega
        · have cx11_ : ¬ (vx10_ ≠ n_) := of_decide_eq_false cx11_
          refine sm_T_go 4 (c1 := (56, [some (.inr (.inr (some (13, 0)))), some (.inl c_), some (.inl n_), some (.inl p_), none, none], [.inl p_, .inr (.inr (some (255, 0))), .inr (.inr (some (13, 0)))], S_)) rfl ?_
          refine sm_T_cal (d1 := 0) (Q1 := vq_470v p_ S_) rfl rfl (by decide) (vc_470v p_ S_ hI_ (by omega)) (fun u_ Sx12_ px15_ => ?_)
          obtain ⟨rfl, vx17_, rfl, px15_⟩ := px15_
          have eB_ := px15_
          rw [f255_, g177_] at eB_
          refine sm_T_b0 (a := 0) (z := 44) rfl (fun cx18_ => ?_) (fun cx18_ => ?_)
          · have cx18_ : vx17_ = 0 := of_decide_eq_true cx18_
            refine sm_T_inc (a := 3) (z := 1) (v := p_) (w := p_ + 1) rfl rfl (by omega) (by omega) (by omega) ?_ -- pc_ 103
            refine sm_T_go 1 (c1 := (28, [some (.inr (.inr (some (13, 0)))), some (.inl c_), some (.inl n_), some (.inl (p_ + 1)), none, none], [], S_)) rfl ?_
            refine ih_.2 n_ (p_ + 1) S_ hI_ hF_ ⟨?_, ?_, trivial⟩ ?_
            · omega
            · first | (rw [T9_, s9_]; push_cast; omega) | (rw [if_neg (by omega)] at u9_; rw [u9_, if_neg (by decide)] at s9_; rw [T9_, s9_]; push_cast; omega)
            · omega
          · have cx18_ : ¬ (vx17_ = 0) := of_decide_eq_false cx18_
            rw [if_pos ⟨by omega, by omega⟩] at u9_
            rw [u9_, if_pos rfl] at s9_
            refine sm_T_go 4 (c1 := (68, [some (.inr (.inr (some (13, 0)))), some (.inl c_), some (.inl n_), some (.inl p_), none, none], [.inl (S_.1 13 0 174), .inl p_, .inl 4], S_)) rfl ?_
            refine sm_T_bin (w := (p_ % (S_.1 13 0 174))) rfl (bi_rem (by omega) (by omega) (by omega) (by omega)) ?_ -- pc_ 68
            refine sm_T_bin (w := 4 * (p_ % (S_.1 13 0 174))) rfl (bi_mul (by omega) (by omega) (by omega)) ?_ -- pc_ 69
            refine sm_T_go 5 (c1 := (78, [some (.inr (.inr (some (13, 0)))), some (.inl c_), some (.inl n_), some (.inl p_), some (.inl (4 * (p_ % (S_.1 13 0 174)))), none], [.inl (S_.1 13 0 174), .inl p_, .inl 4], S_)) rfl ?_
            refine sm_T_bin (w := (p_ / (S_.1 13 0 174))) rfl (bi_div (by omega) (by omega) (by omega) (by omega)) ?_ -- pc_ 78
            refine sm_T_bin (w := 4 * (p_ / (S_.1 13 0 174))) rfl (bi_mul (by omega) (by omega) (by omega)) ?_ -- pc_ 79
            refine sm_T_go 5 (c1 := (87, [some (.inr (.inr (some (13, 0)))), some (.inl c_), some (.inl n_), some (.inl p_), some (.inl (4 * (p_ % (S_.1 13 0 174)))), some (.inl (4 * (p_ / (S_.1 13 0 174))))], [.inl 1, .inl (4 * (p_ % (S_.1 13 0 174))), .inl 2, .inr (.inr (some (13, 0)))], S_)) rfl ?_
            refine sm_T_bin (w := 4 * (p_ % (S_.1 13 0 174)) - 1) rfl (bi_sub (by omega) (by omega) (by omega)) ?_ -- pc_ 87
            refine sm_T_go 2 (c1 := (91, [some (.inr (.inr (some (13, 0)))), some (.inl c_), some (.inl n_), some (.inl p_), some (.inl (4 * (p_ % (S_.1 13 0 174)))), some (.inl (4 * (p_ / (S_.1 13 0 174))))], [.inl 1, .inl (4 * (p_ / (S_.1 13 0 174))), .inl (4 * (p_ % (S_.1 13 0 174)) - 1), .inl 2, .inr (.inr (some (13, 0)))], S_)) rfl ?_
            refine sm_T_bin (w := 4 * (p_ / (S_.1 13 0 174)) - 1) rfl (bi_sub (by omega) (by omega) (by omega)) ?_ -- pc_ 91
            refine sm_T_go 2 (c1 := (95, [some (.inr (.inr (some (13, 0)))), some (.inl c_), some (.inl n_), some (.inl p_), some (.inl (4 * (p_ % (S_.1 13 0 174)))), some (.inl (4 * (p_ / (S_.1 13 0 174))))], [.inl 1, .inl (4 * (p_ % (S_.1 13 0 174))), .inl (4 * (p_ / (S_.1 13 0 174)) - 1), .inl (4 * (p_ % (S_.1 13 0 174)) - 1), .inl 2, .inr (.inr (some (13, 0)))], S_)) rfl ?_
            refine sm_T_bin (w := 4 * (p_ % (S_.1 13 0 174)) + 1) rfl (bi_add (by omega) (by omega) (by omega)) ?_ -- pc_ 95
            refine sm_T_go 2 (c1 := (99, [some (.inr (.inr (some (13, 0)))), some (.inl c_), some (.inl n_), some (.inl p_), some (.inl (4 * (p_ % (S_.1 13 0 174)))), some (.inl (4 * (p_ / (S_.1 13 0 174))))], [.inl 1, .inl (4 * (p_ / (S_.1 13 0 174))), .inl (4 * (p_ % (S_.1 13 0 174)) + 1), .inl (4 * (p_ / (S_.1 13 0 174)) - 1), .inl (4 * (p_ % (S_.1 13 0 174)) - 1), .inl 2, .inr (.inr (some (13, 0)))], S_)) rfl ?_
            refine sm_T_bin (w := 4 * (p_ / (S_.1 13 0 174)) + 1) rfl (bi_add (by omega) (by omega) (by omega)) ?_ -- pc_ 99
            refine sm_T_cal (d1 := 0) (Q1 := vq_469 2 (4 * (p_ % (S_.1 13 0 174)) - 1) (4 * (p_ / (S_.1 13 0 174)) - 1) (4 * (p_ % (S_.1 13 0 174)) + 1) (4 * (p_ / (S_.1 13 0 174)) + 1) S_) rfl rfl (by decide) (vc_469 2 (4 * (p_ % (S_.1 13 0 174)) - 1) (4 * (p_ / (S_.1 13 0 174)) - 1) (4 * (p_ % (S_.1 13 0 174)) + 1) (4 * (p_ / (S_.1 13 0 174)) + 1) S_ hI_ (by omega) (by omega) (by omega) (by omega) (by omega) (by (rw [lm9_]; omega))) (fun u_ Sx19_ px22_ => ?_)
            obtain ⟨rfl, hIx20_, hFx21_, px22_⟩ := px22_
            have hFx23_ : ai_fr (sx_W vw_473) S0_ Sx19_ := ai_fr_tr hF_ (fr_le hFx21_ rfl)
            have ex24_ : Sx19_.1 13 0 175 = S_.1 13 0 175 := hFx21_.1 13 0 175 rfl
            have ex25_ : Sx19_.1 13 0 174 = S_.1 13 0 174 := hFx21_.1 13 0 174 rfl
            have eL_ := px22_
            refine sm_T_inc (a := 3) (z := 1) (v := p_) (w := p_ + 1) rfl rfl (by omega) (by omega) (by omega) ?_ -- pc_ 103
            refine sm_T_go 1 (c1 := (28, [some (.inr (.inr (some (13, 0)))), some (.inl c_), some (.inl n_), some (.inl (p_ + 1)), some (.inl (4 * (p_ % (S_.1 13 0 174)))), some (.inl (4 * (p_ / (S_.1 13 0 174))))], [], Sx19_)) rfl ?_
            refine sm_T_wk [some (.inr (.inr (some (13, 0)))), some (.inl c_), some (.inl n_), some (.inl (p_ + 1)), none, none] (by exact ⟨rfl, rfl, rfl, rfl, trivial⟩) ?_
            refine ih_.2 n_ (p_ + 1) Sx19_ hIx20_ hFx23_ ⟨?_, ?_, trivial⟩ ?_
            · omega
            · first | (rw [T9_, s9_]; push_cast; omega) | (rw [if_neg (by omega)] at u9_; rw [u9_, if_neg (by decide)] at s9_; rw [T9_, s9_]; push_cast; omega)
            · omega
set_option maxHeartbeats 3000000 in
set_option maxRecDepth 20000 in
theorem vc_473 {sc_ : Nat × (Nat → Int)} (c_ : Int) (S0_ : sm_S) (hI_ : gi S0_) (hc_ : 0 ≤ c_ ∧ c_ ≤ 3) (hx_ : S0_.2.2.1 223 0 c_.toNat + S0_.2.2.1 224 0 c_.toNat ≤ 12) (hgr_ : grd S0_) (hd_ : (ltt S0_ (S0_.2.2.1 223 0 c_.toNat + S0_.2.2.1 224 0 c_.toNat + S0_.2.2.1 228 0 c_.toNat).toNat : Int) ≤ lim9 S0_) : sm_T (mt_P sc_) 2 473 (0, [some (.inr (.inr (some (13, 0)))), some (.inl c_), none, none, none, none], [], S0_) (fun ro9_ => ∃ u_ S1_, ro9_ = (.inl u_, S1_, 0) ∧ vq_473 c_ S0_ u_ S1_) := by
  have hF_ : ai_fr (sx_W vw_473) S0_ S0_ := ai_fr_rf
  have hIx1_ : gi (sm_pI S0_ 13 0 188 0) := gi_pI hI_ (show 0 ≤ 0 ∧ 0 ≤ 2000000 from ⟨by omega, by omega⟩)
  have hFx2_ : ai_fr (sx_W vw_473) S0_ (sm_pI S0_ 13 0 188 0) := ai_fr_tr hF_ (ai_fr_pI rfl)
  refine sm_T_go 5 (c1 := (7, [some (.inr (.inr (some (13, 0)))), some (.inl c_), some (.inl 0), none, none, none], [], sm_pI S0_ 13 0 188 0)) rfl ?_
  refine (vl_473 c_ S0_ hc_ hx_ hgr_ hd_ _).1 0 (sm_pI S0_ 13 0 188 0) hIx1_ hFx2_ ⟨?_, ?_, trivial⟩ (Nat.lt_succ_self _)
  · (have q1_ : 0 ≤ S0_.2.2.1 223 0 c_.toNat := (hI_.2 223 0 _).1; have q2_ : 0 ≤ S0_.2.2.1 224 0 c_.toNat := (hI_.2 224 0 _).1; have q3_ : 0 ≤ S0_.2.2.1 228 0 c_.toNat := (hI_.2 228 0 _).1; omega)
  · (rw [rf_eq]; rfl)
/-! M_.draw -/
def vw_474 : sx_Wl := ([(13, 0), (13, 174), (13, 175), (13, 176), (13, 177), (13, 188), (13, 189)], [263, 264, 265], [])
def vq_474 (a1_ : Int) (S0_ : sm_S) (u_ : Option sm_V) (S1_ : sm_S) : Prop := ∃ v_ : Int, u_ = some (.inl v_) ∧ gi S1_ ∧ ai_fr (sx_W vw_474) S0_ S1_ ∧ (((-2147483648) ≤ v_ ∧ v_ ≤ 2147483647) ∧ (jR S1_))
set_option maxHeartbeats 400000 in
set_option maxRecDepth 20000 in
theorem vc_474 {sc_ : Nat × (Nat → Int)} (a1_ : Int) (S0_ : sm_S) (hI_ : gi S0_) (ha1_ : (-2147483648) ≤ a1_ ∧ a1_ ≤ 2147483647) (hJ_ : jR S0_) : sm_T (mt_P sc_) 3 474 (0, [some (.inr (.inr (some (13, 0)))), some (.inl a1_)], [], S0_) (fun ro9_ => ∃ u_ S1_, ro9_ = (.inl u_, S1_, 0) ∧ vq_474 a1_ S0_ u_ S1_) := by
  have hF_ : ai_fr (sx_W vw_474) S0_ S0_ := ai_fr_rf
  refine sm_T_go 3 (c1 := (3, [some (.inr (.inr (some (13, 0)))), some (.inl a1_)], [.inl a1_, .inr (.inr (some (13, 0))), .inr (.inr (some (13, 0)))], S0_)) rfl ?_
  refine sm_T_cal (d1 := 0) (Q1 := vq_371 a1_ S0_) rfl rfl (by decide) (vc_371 a1_ S0_ hI_ (by omega)) (fun u_ Sx1_ px4_ => ?_)
  obtain ⟨rfl, vx6_, rfl, px4_⟩ := px4_
  have d3_ := px4_
  refine sm_T_b0 (a := 1) (z := 7) rfl (fun cx7_ => ?_) (fun cx7_ => ?_)
  · have cx7_ : vx6_ ≠ 0 := of_decide_eq_true cx7_
    refine sm_T_go 3 (c1 := (18, [some (.inr (.inr (some (13, 0)))), some (.inl a1_)], [.inl a1_, .inr (.inr (some (251, 0))), .inr (.inr (some (13, 0)))], S0_)) rfl ?_
    refine sm_T_zald (n := 4) rfl rfl (by omega) (by omega) ?_
    have bx8_ : 0 ≤ S0_.2.2.1 251 0 a1_.toNat ∧ S0_.2.2.1 251 0 a1_.toNat ≤ 1 := hI_.2 251 0 _
    refine sm_T_b0 (a := 1) (z := 7) rfl (fun cx9_ => ?_) (fun cx9_ => ?_)
    · have cx9_ : (S0_.2.2.1 251 0 a1_.toNat) ≠ 0 := of_decide_eq_true cx9_
      have K9_ : cRk a1_ S0_ := hJ_.2 a1_ (by omega) (by omega) (by omega)
      obtain ⟨K1_, K2_, K3_, K4_, K5_, K6_, K7_⟩ := K9_
      have c5_ := K7_ (by omega)
      have c4_ := (K6_ c5_).1
      have q1_ : 0 ≤ S0_.2.2.1 223 0 a1_.toNat ∧ S0_.2.2.1 223 0 a1_.toNat ≤ 12 := hI_.2 223 0 _
      have q2_ : 0 ≤ S0_.2.2.1 224 0 a1_.toNat ∧ S0_.2.2.1 224 0 a1_.toNat ≤ 6 := hI_.2 224 0 _
      have q3_ : 0 ≤ S0_.2.2.1 228 0 a1_.toNat ∧ S0_.2.2.1 228 0 a1_.toNat ≤ 150 := hI_.2 228 0 _
      have hIx10_ : gi (sm_pI S0_ 13 0 0 0) := gi_pI hI_ (show 0 ≤ 0 ∧ 0 ≤ 4 from ⟨by omega, by omega⟩)
      have hFx11_ : ai_fr (sx_W vw_474) S0_ (sm_pI S0_ 13 0 0 0) := ai_fr_tr hF_ (ai_fr_pI rfl)
      refine sm_T_go 7 (c1 := (41, [some (.inr (.inr (some (13, 0)))), some (.inl a1_)], [.inl a1_, .inr (.inr (some (13, 0)))], sm_pI S0_ 13 0 0 0)) rfl ?_
      refine sm_T_cal (d1 := 1) (Q1 := vq_463 a1_ (sm_pI S0_ 13 0 0 0)) rfl rfl (by decide) (vc_463 a1_ (sm_pI S0_ 13 0 0 0) hIx10_ (by omega) (by (show 1 ≤ S0_.2.2.1 240 0 a1_.toNat ∧ 4 ≤ S0_.2.2.1 239 0 a1_.toNat; omega))) (fun u_ Sx12_ px15_ => ?_)
      obtain ⟨rfl, hIx13_, hFx14_, px15_⟩ := px15_
      have hFx16_ : ai_fr (sx_W vw_474) S0_ Sx12_ := ai_fr_tr hFx11_ (fr_le hFx14_ rfl)
      have g41_ := px15_.1
      have y223_ : Sx12_.2.2.1 223 0 a1_.toNat = S0_.2.2.1 223 0 a1_.toNat := congrFun (fr_arr hFx16_ rfl) _
      have y224_ : Sx12_.2.2.1 224 0 a1_.toNat = S0_.2.2.1 224 0 a1_.toNat := congrFun (fr_arr hFx16_ rfl) _
      have y228_ : Sx12_.2.2.1 228 0 a1_.toNat = S0_.2.2.1 228 0 a1_.toNat := congrFun (fr_arr hFx16_ rfl) _
      have hIx17_ : gi (sm_pI Sx12_ 13 0 189 1) := gi_pI hIx13_ (show 0 ≤ 1 ∧ 1 ≤ 1 from ⟨by omega, by omega⟩)
      have hFx18_ : ai_fr (sx_W vw_474) S0_ (sm_pI Sx12_ 13 0 189 1) := ai_fr_tr hFx16_ (ai_fr_pI rfl)
      refine sm_T_go 5 (c1 := (51, [some (.inr (.inr (some (13, 0)))), some (.inl a1_)], [.inl a1_, .inr (.inr (some (13, 0)))], sm_pI Sx12_ 13 0 189 1)) rfl ?_
      refine sm_T_cal (d1 := 2) (Q1 := vq_473 a1_ (sm_pI Sx12_ 13 0 189 1)) rfl rfl (by decide) (vc_473 a1_ (sm_pI Sx12_ 13 0 189 1) hIx17_ (by omega) (by (show Sx12_.2.2.1 223 0 a1_.toNat + Sx12_.2.2.1 224 0 a1_.toNat ≤ 12; omega)) (by exact grd_fr (w_ := ([(13, 189)], [], [])) g41_ (ai_fr_pI rfl)) (by (have b9_ := ltt_b (S_ := sm_pI Sx12_ 13 0 189 1) (grd_fr (w_ := ([(13, 189)], [], [])) g41_ (ai_fr_pI rfl)) (N_ := (Sx12_.2.2.1 223 0 a1_.toNat + Sx12_.2.2.1 224 0 a1_.toNat + Sx12_.2.2.1 228 0 a1_.toNat).toNat) (by omega); have l9_ : lim9 (sm_pI Sx12_ 13 0 189 1) = 2000000 := (by (unfold lim9; rw [rf_eq, if_neg (by decide)])); rw [l9_]; show ((ltt (sm_pI Sx12_ 13 0 189 1) (Sx12_.2.2.1 223 0 a1_.toNat + Sx12_.2.2.1 224 0 a1_.toNat + Sx12_.2.2.1 228 0 a1_.toNat).toNat : Nat) : Int) ≤ 2000000; omega))) (fun u_ Sx19_ px22_ => ?_)
      obtain ⟨rfl, hIx20_, hFx21_, px22_⟩ := px22_
      have hFx23_ : ai_fr (sx_W vw_474) S0_ Sx19_ := ai_fr_tr hFx18_ (fr_le hFx21_ rfl)
      have e51_ := px22_
      have e52_ : Sx19_.1 13 0 188 = ((sn9 (ltn (sm_pI Sx12_ 13 0 189 1)) (S0_.2.2.1 223 0 a1_.toNat + S0_.2.2.1 224 0 a1_.toNat + S0_.2.2.1 228 0 a1_.toNat).toNat : Nat) : Int) := by (have e9_ := e51_; rw [show (sm_pI Sx12_ 13 0 189 1).2.2.1 223 0 a1_.toNat = S0_.2.2.1 223 0 a1_.toNat from y223_, show (sm_pI Sx12_ 13 0 189 1).2.2.1 224 0 a1_.toNat = S0_.2.2.1 224 0 a1_.toNat from y224_, show (sm_pI Sx12_ 13 0 189 1).2.2.1 228 0 a1_.toNat = S0_.2.2.1 228 0 a1_.toNat from y228_] at e9_; exact e9_)
      have g51_ := grd_fr (grd_fr (w_ := ([(13, 189)], [], [])) g41_ (ai_fr_pI rfl)) hFx21_
      have z51_ := (ltn_fr hFx21_).2.2.2
      have x223_ : Sx19_.2.2.1 223 0 a1_.toNat = S0_.2.2.1 223 0 a1_.toNat := congrFun (fr_arr hFx23_ rfl) _
      have x224_ : Sx19_.2.2.1 224 0 a1_.toNat = S0_.2.2.1 224 0 a1_.toNat := congrFun (fr_arr hFx23_ rfl) _
      have x228_ : Sx19_.2.2.1 228 0 a1_.toNat = S0_.2.2.1 228 0 a1_.toNat := congrFun (fr_arr hFx23_ rfl) _
      have bx24_ : 0 ≤ Sx19_.1 13 0 188 ∧ Sx19_.1 13 0 188 ≤ 2000000 := hIx20_.1 13 0 188 rfl
      refine sm_T_go 3 (c1 := (61, [some (.inr (.inr (some (13, 0)))), some (.inl a1_)], [.inl 2000, .inl (Sx19_.1 13 0 188)], Sx19_)) rfl ?_
      refine sm_T_br (a := 5) (z := 10) rfl (fun cx25_ => ?_) (fun cx25_ => ?_)
      · have cx25_ : (Sx19_.1 13 0 188) ≤ 2000 := of_decide_eq_true cx25_
        have D9_ : ((ltt (sm_pI Sx19_ 13 0 189 0) ((sm_pI Sx19_ 13 0 189 0).2.2.1 223 0 a1_.toNat + (sm_pI Sx19_ 13 0 189 0).2.2.1 224 0 a1_.toNat + (sm_pI Sx19_ 13 0 189 0).2.2.1 228 0 a1_.toNat).toNat : Nat) : Int) ≤ 2000 := by (show ((sn9 (ltn (sm_pI Sx19_ 13 0 189 0)) (Sx19_.2.2.1 223 0 a1_.toNat + Sx19_.2.2.1 224 0 a1_.toNat + Sx19_.2.2.1 228 0 a1_.toNat).toNat : Nat) : Int) ≤ 2000; rw [(ltn_fr (w_ := ([(13, 189)], [], [])) (S_ := Sx19_) (S'_ := sm_pI Sx19_ 13 0 189 0) (ai_fr_pI rfl)).2.2.2, z51_, x223_, x224_, x228_]; omega)
        have hIx26_ : gi (sm_pI Sx19_ 13 0 189 0) := gi_pI hIx20_ (show 0 ≤ 0 ∧ 0 ≤ 1 from ⟨by omega, by omega⟩)
        have hFx27_ : ai_fr (sx_W vw_474) S0_ (sm_pI Sx19_ 13 0 189 0) := ai_fr_tr hFx23_ (ai_fr_pI rfl)
        refine sm_T_go 5 (c1 := (78, [some (.inr (.inr (some (13, 0)))), some (.inl a1_)], [.inl a1_, .inr (.inr (some (13, 0)))], sm_pI Sx19_ 13 0 189 0)) rfl ?_
        refine sm_T_cal (d1 := 2) (Q1 := vq_473 a1_ (sm_pI Sx19_ 13 0 189 0)) rfl rfl (by decide) (vc_473 a1_ (sm_pI Sx19_ 13 0 189 0) hIx26_ (by omega) (by (show Sx19_.2.2.1 223 0 a1_.toNat + Sx19_.2.2.1 224 0 a1_.toNat ≤ 12; omega)) (by exact grd_fr (w_ := ([(13, 189)], [], [])) g51_ (ai_fr_pI rfl)) (by (have l9_ : lim9 (sm_pI Sx19_ 13 0 189 0) = 2000 := (by (unfold lim9; rw [rf_eq, if_pos rfl])); rw [l9_]; exact D9_))) (fun u_ Sx28_ px31_ => ?_)
        obtain ⟨rfl, hIx29_, hFx30_, px31_⟩ := px31_
        have hFx32_ : ai_fr (sx_W vw_474) S0_ Sx28_ := ai_fr_tr hFx27_ (fr_le hFx30_ rfl)
        have e78_ := px31_
        have bx33_ : 0 ≤ Sx28_.1 13 0 188 ∧ Sx28_.1 13 0 188 ≤ 2000000 := hIx29_.1 13 0 188 rfl
        refine sm_T_go 5 (c1 := (90, [some (.inr (.inr (some (13, 0)))), some (.inl a1_)], [.inl (Sx28_.1 13 0 188), .inl a1_, .inr (.inr (some (264, 0)))], Sx28_)) rfl ?_
        refine sm_T_iast (n := 4) rfl rfl (by omega) (by omega) ?_
        have hIx34_ : gi (sm_aI Sx28_ 264 0 a1_.toNat (Sx28_.1 13 0 188)) := gi_aI hIx29_ (show 0 ≤ (Sx28_.1 13 0 188) ∧ (Sx28_.1 13 0 188) ≤ 2000 from ⟨by omega, by omega⟩)
        have hFx35_ : ai_fr (sx_W vw_474) S0_ (sm_aI Sx28_ 264 0 a1_.toNat (Sx28_.1 13 0 188)) := ai_fr_tr hFx32_ (ai_fr_aI rfl)
        refine sm_T_go 4 (c1 := (97, [some (.inr (.inr (some (13, 0)))), some (.inl a1_)], [.inl 1, .inl a1_, .inr (.inr (some (263, 0)))], sm_aI Sx28_ 264 0 a1_.toNat (Sx28_.1 13 0 188))) rfl ?_
        refine sm_T_zas1 (n := 4) rfl rfl (by omega) (by omega) (by omega) ?_
        have hIx36_ : gi (sm_aI (sm_aI Sx28_ 264 0 a1_.toNat (Sx28_.1 13 0 188)) 263 0 a1_.toNat 1) := gi_aI hIx34_ (show 0 ≤ 1 ∧ 1 ≤ 1 from ⟨by omega, by omega⟩)
        have hFx37_ : ai_fr (sx_W vw_474) S0_ (sm_aI (sm_aI Sx28_ 264 0 a1_.toNat (Sx28_.1 13 0 188)) 263 0 a1_.toNat 1) := ai_fr_tr hFx35_ (ai_fr_aI rfl)
        refine sm_T_go 2 (c1 := (102, [some (.inr (.inr (some (13, 0)))), some (.inl a1_)], [.inl (Sx28_.1 13 0 188)], sm_aI (sm_aI Sx28_ 264 0 a1_.toNat (Sx28_.1 13 0 188)) 263 0 a1_.toNat 1)) rfl ?_
        refine sm_T_ri rfl ⟨_, _, rfl, _, rfl, hIx36_, hFx37_, ?_⟩
        refine ⟨⟨by omega, by omega⟩, jR_fr hJ_ hIx36_ hFx37_⟩
      · have cx25_ : ¬ ((Sx19_.1 13 0 188) ≤ 2000) := of_decide_eq_false cx25_
        have hIx38_ : gi (sm_pI Sx19_ 13 0 0 3) := gi_pI hIx20_ (show 0 ≤ 3 ∧ 3 ≤ 4 from ⟨by omega, by omega⟩)
        have hFx39_ : ai_fr (sx_W vw_474) S0_ (sm_pI Sx19_ 13 0 0 3) := ai_fr_tr hFx23_ (ai_fr_pI rfl)
        refine sm_T_go 4 (c1 := (70, [some (.inr (.inr (some (13, 0)))), some (.inl a1_)], [.inl 0], sm_pI Sx19_ 13 0 0 3)) rfl ?_
        refine sm_T_ri rfl ⟨_, _, rfl, _, rfl, hIx38_, hFx39_, ?_⟩
        refine ⟨⟨by omega, by omega⟩, jR_fr hJ_ hIx38_ hFx39_⟩
    · have cx9_ : ¬ ((S0_.2.2.1 251 0 a1_.toNat) ≠ 0) := of_decide_eq_false cx9_
      have hIx40_ : gi (sm_pI S0_ 13 0 0 2) := gi_pI hI_ (show 0 ≤ 2 ∧ 2 ≤ 4 from ⟨by omega, by omega⟩)
      have hFx41_ : ai_fr (sx_W vw_474) S0_ (sm_pI S0_ 13 0 0 2) := ai_fr_tr hF_ (ai_fr_pI rfl)
      refine sm_T_go 7 (c1 := (38, [some (.inr (.inr (some (13, 0)))), some (.inl a1_)], [.inl 0], sm_pI S0_ 13 0 0 2)) rfl ?_
      refine sm_T_ri rfl ⟨_, _, rfl, _, rfl, hIx40_, hFx41_, ?_⟩
      refine ⟨⟨by omega, by omega⟩, jR_fr hJ_ hIx40_ hFx41_⟩
  · have cx7_ : ¬ (vx6_ ≠ 0) := of_decide_eq_false cx7_
    have hIx42_ : gi (sm_pI S0_ 13 0 0 1) := gi_pI hI_ (show 0 ≤ 1 ∧ 1 ≤ 4 from ⟨by omega, by omega⟩)
    have hFx43_ : ai_fr (sx_W vw_474) S0_ (sm_pI S0_ 13 0 0 1) := ai_fr_tr hF_ (ai_fr_pI rfl)
    refine sm_T_go 7 (c1 := (38, [some (.inr (.inr (some (13, 0)))), some (.inl a1_)], [.inl 0], sm_pI S0_ 13 0 0 1)) rfl ?_
    refine sm_T_ri rfl ⟨_, _, rfl, _, rfl, hIx42_, hFx43_, ?_⟩
    refine ⟨⟨by omega, by omega⟩, jR_fr hJ_ hIx42_ hFx43_⟩
/-! M_.isBox -/
def vw_475 : sx_Wl := ([], [], [])
def vq_475 (c_ : Int) (b_ : Int) (S0_ : sm_S) (u_ : Option sm_V) (S1_ : sm_S) : Prop := S0_ = S1_ ∧ ∃ v_ : Int, u_ = some (.inl v_) ∧ (((-2147483648) ≤ v_ ∧ v_ ≤ 2147483647) ∧ ((v_ = 1 ∧ 0 ≤ c_ ∧ c_ < 4 ∧ 0 ≤ b_ ∧ b_ < 2000 ∧ b_ < S0_.2.2.1 264 0 c_.toNat) ∨ v_ = 0))
set_option maxHeartbeats 400000 in
set_option maxRecDepth 20000 in
theorem vc_475 {sc_ : Nat × (Nat → Int)} (c_ : Int) (b_ : Int) (S0_ : sm_S) (hI_ : gi S0_) (hc_ : (-2147483648) ≤ c_ ∧ c_ ≤ 2147483647) (hb_ : (-2147483648) ≤ b_ ∧ b_ ≤ 2147483647) : sm_T (mt_P sc_) 1 475 (0, [some (.inr (.inr (some (13, 0)))), some (.inl c_), some (.inl b_)], [], S0_) (fun ro9_ => ∃ u_ S1_, ro9_ = (.inl u_, S1_, 0) ∧ vq_475 c_ b_ S0_ u_ S1_) := by
  have hF_ : ai_fr (sx_W vw_475) S0_ S0_ := ai_fr_rf
  refine sm_T_go 2 (c1 := (2, [some (.inr (.inr (some (13, 0)))), some (.inl c_), some (.inl b_)], [.inl c_, .inr (.inr (some (13, 0)))], S0_)) rfl ?_
  refine sm_T_cal (d1 := 0) (Q1 := vq_371 c_ S0_) rfl rfl (by decide) (vc_371 c_ S0_ hI_ (by omega)) (fun u_ Sx1_ px4_ => ?_)
  obtain ⟨rfl, vx6_, rfl, px4_⟩ := px4_
  refine sm_T_b0 (a := 0) (z := 30) rfl (fun cx7_ => ?_) (fun cx7_ => ?_)
  · have cx7_ : vx6_ = 0 := of_decide_eq_true cx7_
    refine sm_T_go 1 (c1 := (36, [some (.inr (.inr (some (13, 0)))), some (.inl c_), some (.inl b_)], [.inl 0], S0_)) rfl ?_
    refine sm_T_rz rfl (by omega) ⟨_, _, rfl, rfl, _, rfl, ?_⟩
    refine ⟨⟨by omega, by omega⟩, ?_⟩
    omega
  · have cx7_ : ¬ (vx6_ = 0) := of_decide_eq_false cx7_
    refine sm_T_go 3 (c1 := (13, [some (.inr (.inr (some (13, 0)))), some (.inl c_), some (.inl b_)], [.inl c_, .inr (.inr (some (263, 0)))], S0_)) rfl ?_
    refine sm_T_zald (n := 4) rfl rfl (by omega) (by omega) ?_
    have bx8_ : 0 ≤ S0_.2.2.1 263 0 c_.toNat ∧ S0_.2.2.1 263 0 c_.toNat ≤ 1 := hI_.2 263 0 _
    refine sm_T_b0 (a := 0) (z := 21) rfl (fun cx9_ => ?_) (fun cx9_ => ?_)
    · have cx9_ : (S0_.2.2.1 263 0 c_.toNat) = 0 := of_decide_eq_true cx9_
      refine sm_T_go 1 (c1 := (36, [some (.inr (.inr (some (13, 0)))), some (.inl c_), some (.inl b_)], [.inl 0], S0_)) rfl ?_
      refine sm_T_rz rfl (by omega) ⟨_, _, rfl, rfl, _, rfl, ?_⟩
      refine ⟨⟨by omega, by omega⟩, ?_⟩
      omega
    · have cx9_ : ¬ ((S0_.2.2.1 263 0 c_.toNat) = 0) := of_decide_eq_false cx9_
      refine sm_T_go 1 (c1 := (18, [some (.inr (.inr (some (13, 0)))), some (.inl c_), some (.inl b_)], [.inl b_], S0_)) rfl ?_
      refine sm_T_b0 (a := 2) (z := 17) rfl (fun cx10_ => ?_) (fun cx10_ => ?_)
      · have cx10_ : b_ < 0 := of_decide_eq_true cx10_
        refine sm_T_go 1 (c1 := (36, [some (.inr (.inr (some (13, 0)))), some (.inl c_), some (.inl b_)], [.inl 0], S0_)) rfl ?_
        refine sm_T_rz rfl (by omega) ⟨_, _, rfl, rfl, _, rfl, ?_⟩
        refine ⟨⟨by omega, by omega⟩, ?_⟩
        omega
      · have cx10_ : ¬ (b_ < 0) := of_decide_eq_false cx10_
        refine sm_T_go 4 (c1 := (27, [some (.inr (.inr (some (13, 0)))), some (.inl c_), some (.inl b_)], [.inl c_, .inr (.inr (some (264, 0))), .inl b_], S0_)) rfl ?_
        refine sm_T_iald (n := 4) rfl rfl (by omega) (by omega) ?_
        have bx11_ : 0 ≤ S0_.2.2.1 264 0 c_.toNat ∧ S0_.2.2.1 264 0 c_.toNat ≤ 2000 := hI_.2 264 0 _
        refine sm_T_br (a := 3) (z := 7) rfl (fun cx12_ => ?_) (fun cx12_ => ?_)
        · have cx12_ : (S0_.2.2.1 264 0 c_.toNat) ≤ b_ := of_decide_eq_true cx12_
          refine sm_T_go 1 (c1 := (36, [some (.inr (.inr (some (13, 0)))), some (.inl c_), some (.inl b_)], [.inl 0], S0_)) rfl ?_
          refine sm_T_rz rfl (by omega) ⟨_, _, rfl, rfl, _, rfl, ?_⟩
          refine ⟨⟨by omega, by omega⟩, ?_⟩
          omega
        · have cx12_ : ¬ ((S0_.2.2.1 264 0 c_.toNat) ≤ b_) := of_decide_eq_false cx12_
          refine sm_T_go 2 (c1 := (36, [some (.inr (.inr (some (13, 0)))), some (.inl c_), some (.inl b_)], [.inl 1], S0_)) rfl ?_
          refine sm_T_rz rfl (by omega) ⟨_, _, rfl, rfl, _, rfl, ?_⟩
          refine ⟨⟨by omega, by omega⟩, ?_⟩
          omega
/-! M_.side -/
def vw_476 : sx_Wl := ([], [], [])
def vq_476 (c_ : Int) (b_ : Int) (k_ : Int) (S0_ : sm_S) (u_ : Option sm_V) (S1_ : sm_S) : Prop := S0_ = S1_ ∧ ∃ v_ : Int, u_ = some (.inl v_) ∧ (((-1000) ≤ v_ ∧ v_ ≤ 1000) ∧ (v_ = (S0_.2.2.1 265 0 (10000 * c_ + 5 * b_ + k_).toNat)))
set_option maxHeartbeats 400000 in
set_option maxRecDepth 20000 in
theorem vc_476 {sc_ : Nat × (Nat → Int)} (c_ : Int) (b_ : Int) (k_ : Int) (S0_ : sm_S) (hI_ : gi S0_) (hc_ : 0 ≤ c_ ∧ c_ ≤ 3) (hb_ : 0 ≤ b_ ∧ b_ ≤ 1999) (hk_ : 0 ≤ k_ ∧ k_ ≤ 4) : sm_T (mt_P sc_) 0 476 (0, [some (.inr (.inr (some (13, 0)))), some (.inl c_), some (.inl b_), some (.inl k_)], [], S0_) (fun ro9_ => ∃ u_ S1_, ro9_ = (.inl u_, S1_, 0) ∧ vq_476 c_ b_ k_ S0_ u_ S1_) := by
  have hF_ : ai_fr (sx_W vw_476) S0_ S0_ := ai_fr_rf
  refine sm_T_go 5 (c1 := (9, [some (.inr (.inr (some (13, 0)))), some (.inl c_), some (.inl b_), some (.inl k_)], [.inl c_, .inl 2000, .inl 5, .inr (.inr (some (265, 0)))], S0_)) rfl ?_
  refine sm_T_bin (w := 2000 * c_) rfl (bi_mul (by omega) (by omega) (by omega)) ?_ -- pc_ 9
  refine sm_T_go 1 (c1 := (11, [some (.inr (.inr (some (13, 0)))), some (.inl c_), some (.inl b_), some (.inl k_)], [.inl b_, .inl (2000 * c_), .inl 5, .inr (.inr (some (265, 0)))], S0_)) rfl ?_
  refine sm_T_bin (w := 2000 * c_ + b_) rfl (bi_add (by omega) (by omega) (by omega)) ?_ -- pc_ 11
  refine sm_T_bin (w := 10000 * c_ + 5 * b_) rfl (bi_mul (by omega) (by omega) (by omega)) ?_ -- pc_ 12
  refine sm_T_go 1 (c1 := (14, [some (.inr (.inr (some (13, 0)))), some (.inl c_), some (.inl b_), some (.inl k_)], [.inl k_, .inl (10000 * c_ + 5 * b_), .inr (.inr (some (265, 0)))], S0_)) rfl ?_
  refine sm_T_bin (w := 10000 * c_ + 5 * b_ + k_) rfl (bi_add (by omega) (by omega) (by omega)) ?_ -- pc_ 14
  refine sm_T_iald (n := 40000) rfl rfl (by omega) (by omega) ?_
  have bx1_ : (-1000) ≤ S0_.2.2.1 265 0 (10000 * c_ + 5 * b_ + k_).toNat ∧ S0_.2.2.1 265 0 (10000 * c_ + 5 * b_ + k_).toNat ≤ 1000 := hI_.2 265 0 _
  refine sm_T_ri rfl ⟨_, _, rfl, rfl, _, rfl, ?_⟩
  first | (refine ⟨⟨?_, ?_⟩, rfl⟩ <;> omega) | omega | (refine ⟨by omega, ?_⟩; omega)
/-! M_.isSpan -/
def vw_478 : sx_Wl := ([], [], [])
def vq_478 (lo_ : Int) (ab_ : Int) (S0_ : sm_S) (u_ : Option sm_V) (S1_ : sm_S) : Prop := S0_ = S1_ ∧ ∃ v_ : Int, u_ = some (.inl v_) ∧ (((-2147483648) ≤ v_ ∧ v_ ≤ 2147483647) ∧ ((v_ = 1 ∧ -1000 ≤ lo_ ∧ lo_ < ab_ ∧ ab_ ≤ 1000) ∨ v_ = 0))
set_option maxHeartbeats 400000 in
set_option maxRecDepth 20000 in
theorem vc_478 {sc_ : Nat × (Nat → Int)} (lo_ : Int) (ab_ : Int) (S0_ : sm_S) (hI_ : gi S0_) (hlo_ : (-2147483648) ≤ lo_ ∧ lo_ ≤ 2147483647) (hab_ : (-2147483648) ≤ ab_ ∧ ab_ ≤ 2147483647) : sm_T (mt_P sc_) 0 478 (0, [some (.inl lo_), some (.inl ab_)], [], S0_) (fun ro9_ => ∃ u_ S1_, ro9_ = (.inl u_, S1_, 0) ∧ vq_478 lo_ ab_ S0_ u_ S1_) := by
  have hF_ : ai_fr (sx_W vw_478) S0_ S0_ := ai_fr_rf
  refine sm_T_go 2 (c1 := (4, [some (.inl lo_), some (.inl ab_)], [.inl (-1000), .inl lo_], S0_)) rfl ?_
  refine sm_T_br (a := 2) (z := 19) rfl (fun cx1_ => ?_) (fun cx1_ => ?_)
  · have cx1_ : lo_ < (-1000) := of_decide_eq_true cx1_
    refine sm_T_go 1 (c1 := (24, [some (.inl lo_), some (.inl ab_)], [.inl 0], S0_)) rfl ?_
    refine sm_T_rz rfl (by omega) ⟨_, _, rfl, rfl, _, rfl, ?_⟩
    refine ⟨⟨by omega, by omega⟩, ?_⟩
    omega
  · have cx1_ : ¬ (lo_ < (-1000)) := of_decide_eq_false cx1_
    refine sm_T_go 2 (c1 := (9, [some (.inl lo_), some (.inl ab_)], [.inl ab_, .inl lo_], S0_)) rfl ?_
    refine sm_T_br (a := 3) (z := 14) rfl (fun cx2_ => ?_) (fun cx2_ => ?_)
    · have cx2_ : ab_ ≤ lo_ := of_decide_eq_true cx2_
      refine sm_T_go 1 (c1 := (24, [some (.inl lo_), some (.inl ab_)], [.inl 0], S0_)) rfl ?_
      refine sm_T_rz rfl (by omega) ⟨_, _, rfl, rfl, _, rfl, ?_⟩
      refine ⟨⟨by omega, by omega⟩, ?_⟩
      omega
    · have cx2_ : ¬ (ab_ ≤ lo_) := of_decide_eq_false cx2_
      refine sm_T_go 2 (c1 := (16, [some (.inl lo_), some (.inl ab_)], [.inl 1000, .inl ab_], S0_)) rfl ?_
      refine sm_T_br (a := 4) (z := 7) rfl (fun cx3_ => ?_) (fun cx3_ => ?_)
      · have cx3_ : 1000 < ab_ := of_decide_eq_true cx3_
        refine sm_T_go 1 (c1 := (24, [some (.inl lo_), some (.inl ab_)], [.inl 0], S0_)) rfl ?_
        refine sm_T_rz rfl (by omega) ⟨_, _, rfl, rfl, _, rfl, ?_⟩
        refine ⟨⟨by omega, by omega⟩, ?_⟩
        omega
      · have cx3_ : ¬ (1000 < ab_) := of_decide_eq_false cx3_
        refine sm_T_go 2 (c1 := (24, [some (.inl lo_), some (.inl ab_)], [.inl 1], S0_)) rfl ?_
        refine sm_T_rz rfl (by omega) ⟨_, _, rfl, rfl, _, rfl, ?_⟩
        refine ⟨⟨by omega, by omega⟩, ?_⟩
        omega
/-! M_.box -/
def vw_477 : sx_Wl := ([(13, 0)], [], [])
def vq_477 (a1_ : Int) (a2_ : Int) (a3_ : Int) (S0_ : sm_S) (u_ : Option sm_V) (S1_ : sm_S) : Prop := ∃ v_ : Int, u_ = some (.inl v_) ∧ gi S1_ ∧ ai_fr (sx_W vw_477) S0_ S1_ ∧ (((-2147483648) ≤ v_ ∧ v_ ≤ 2147483647) ∧ (jR S1_))
set_option maxHeartbeats 400000 in
set_option maxRecDepth 20000 in
theorem vc_477 {sc_ : Nat × (Nat → Int)} (a1_ : Int) (a2_ : Int) (a3_ : Int) (S0_ : sm_S) (hI_ : gi S0_) (ha1_ : (-2147483648) ≤ a1_ ∧ a1_ ≤ 2147483647) (ha2_ : (-2147483648) ≤ a2_ ∧ a2_ ≤ 2147483647) (ha3_ : (-2147483648) ≤ a3_ ∧ a3_ ≤ 2147483647) (hJ_ : jR S0_) : sm_T (mt_P sc_) 2 477 (0, [some (.inr (.inr (some (13, 0)))), some (.inl a1_), some (.inl a2_), some (.inl a3_)], [], S0_) (fun ro9_ => ∃ u_ S1_, ro9_ = (.inl u_, S1_, 0) ∧ vq_477 a1_ a2_ a3_ S0_ u_ S1_) := by
  have hF_ : ai_fr (sx_W vw_477) S0_ S0_ := ai_fr_rf
  refine sm_T_go 3 (c1 := (3, [some (.inr (.inr (some (13, 0)))), some (.inl a1_), some (.inl a2_), some (.inl a3_)], [.inl a1_, .inr (.inr (some (13, 0))), .inr (.inr (some (13, 0)))], S0_)) rfl ?_
  refine sm_T_cal (d1 := 0) (Q1 := vq_371 a1_ S0_) rfl rfl (by decide) (vc_371 a1_ S0_ hI_ (by omega)) (fun u_ Sx1_ px4_ => ?_)
  obtain ⟨rfl, vx6_, rfl, px4_⟩ := px4_
  have d3_ := px4_
  refine sm_T_b0 (a := 0) (z := 31) rfl (fun cx7_ => ?_) (fun cx7_ => ?_)
  · have cx7_ : vx6_ = 0 := of_decide_eq_true cx7_
    have hIx8_ : gi (sm_pI S0_ 13 0 0 1) := gi_pI hI_ (show 0 ≤ 1 ∧ 1 ≤ 4 from ⟨by omega, by omega⟩)
    have hFx9_ : ai_fr (sx_W vw_477) S0_ (sm_pI S0_ 13 0 0 1) := ai_fr_tr hF_ (ai_fr_pI rfl)
    refine sm_T_go 7 (c1 := (88, [some (.inr (.inr (some (13, 0)))), some (.inl a1_), some (.inl a2_), some (.inl a3_)], [.inl 0], sm_pI S0_ 13 0 0 1)) rfl ?_
    refine sm_T_ri rfl ⟨_, _, rfl, _, rfl, hIx8_, hFx9_, ?_⟩
    refine ⟨⟨by omega, by omega⟩, jR_fr hJ_ hIx8_ hFx9_⟩
  · have cx7_ : ¬ (vx6_ = 0) := of_decide_eq_false cx7_
    refine sm_T_go 2 (c1 := (11, [some (.inr (.inr (some (13, 0)))), some (.inl a1_), some (.inl a2_), some (.inl a3_)], [.inl (-1), .inl a2_, .inr (.inr (some (13, 0)))], S0_)) rfl ?_
    refine sm_T_br (a := 2) (z := 26) rfl (fun cx10_ => ?_) (fun cx10_ => ?_)
    · have cx10_ : a2_ < (-1) := of_decide_eq_true cx10_
      have hIx11_ : gi (sm_pI S0_ 13 0 0 1) := gi_pI hI_ (show 0 ≤ 1 ∧ 1 ≤ 4 from ⟨by omega, by omega⟩)
      have hFx12_ : ai_fr (sx_W vw_477) S0_ (sm_pI S0_ 13 0 0 1) := ai_fr_tr hF_ (ai_fr_pI rfl)
      refine sm_T_go 7 (c1 := (88, [some (.inr (.inr (some (13, 0)))), some (.inl a1_), some (.inl a2_), some (.inl a3_)], [.inl 0], sm_pI S0_ 13 0 0 1)) rfl ?_
      refine sm_T_ri rfl ⟨_, _, rfl, _, rfl, hIx11_, hFx12_, ?_⟩
      refine ⟨⟨by omega, by omega⟩, jR_fr hJ_ hIx11_ hFx12_⟩
    · have cx10_ : ¬ (a2_ < (-1)) := of_decide_eq_false cx10_
      refine sm_T_go 3 (c1 := (19, [some (.inr (.inr (some (13, 0)))), some (.inl a1_), some (.inl a2_), some (.inl a3_)], [.inl a1_, .inr (.inr (some (263, 0))), .inr (.inr (some (13, 0)))], S0_)) rfl ?_
      refine sm_T_zald (n := 4) rfl rfl (by omega) (by omega) ?_
      have bx13_ : 0 ≤ S0_.2.2.1 263 0 a1_.toNat ∧ S0_.2.2.1 263 0 a1_.toNat ≤ 1 := hI_.2 263 0 _
      refine sm_T_b0 (a := 0) (z := 21) rfl (fun cx14_ => ?_) (fun cx14_ => ?_)
      · have cx14_ : (S0_.2.2.1 263 0 a1_.toNat) = 0 := of_decide_eq_true cx14_
        refine sm_T_go 4 (c1 := (45, [some (.inr (.inr (some (13, 0)))), some (.inl a1_), some (.inl a2_), some (.inl a3_)], [.inl (-1), .inl a2_, .inl 0, .inl a3_, .inr (.inr (some (13, 0)))], S0_)) rfl ?_
        refine sm_T_br (a := 1) (z := 7) rfl (fun cx15_ => ?_) (fun cx15_ => ?_)
        · have cx15_ : a2_ ≠ (-1) := of_decide_eq_true cx15_
          refine sm_T_go 1 (c1 := (53, [some (.inr (.inr (some (13, 0)))), some (.inl a1_), some (.inl a2_), some (.inl a3_)], [.inl 4, .inl 0, .inl a3_, .inr (.inr (some (13, 0)))], S0_)) rfl ?_
          refine sm_T_cal (d1 := 0) (Q1 := vq_278 a3_ 0 4 S0_) rfl rfl (by decide) (vc_278 a3_ 0 4 S0_ hI_ ) (fun u_ Sx16_ px19_ => ?_)
          obtain ⟨rfl, vx21_, rfl, px19_⟩ := px19_
          have e53_ := px19_
          refine sm_T_b0 (a := 1) (z := 7) rfl (fun cx22_ => ?_) (fun cx22_ => ?_)
          · have cx22_ : vx21_ ≠ 0 := of_decide_eq_true cx22_
            refine sm_T_go 3 (c1 := (68, [some (.inr (.inr (some (13, 0)))), some (.inl a1_), some (.inl a2_), some (.inl a3_)], [.inl a1_, .inr (.inr (some (263, 0))), .inr (.inr (some (13, 0)))], S0_)) rfl ?_
            refine sm_T_zald (n := 4) rfl rfl (by omega) (by omega) ?_
            refine sm_T_b0 (a := 1) (z := 7) rfl (fun cx23_ => ?_) (fun cx23_ => ?_)
            · have cx23_ : (S0_.2.2.1 263 0 a1_.toNat) ≠ 0 := of_decide_eq_true cx23_
              exfalso; omega
            · have cx23_ : ¬ ((S0_.2.2.1 263 0 a1_.toNat) ≠ 0) := of_decide_eq_false cx23_
              have hIx24_ : gi (sm_pI S0_ 13 0 0 3) := gi_pI hI_ (show 0 ≤ 3 ∧ 3 ≤ 4 from ⟨by omega, by omega⟩)
              have hFx25_ : ai_fr (sx_W vw_477) S0_ (sm_pI S0_ 13 0 0 3) := ai_fr_tr hF_ (ai_fr_pI rfl)
              refine sm_T_go 7 (c1 := (88, [some (.inr (.inr (some (13, 0)))), some (.inl a1_), some (.inl a2_), some (.inl a3_)], [.inl 0], sm_pI S0_ 13 0 0 3)) rfl ?_
              refine sm_T_ri rfl ⟨_, _, rfl, _, rfl, hIx24_, hFx25_, ?_⟩
              refine ⟨⟨by omega, by omega⟩, jR_fr hJ_ hIx24_ hFx25_⟩
          · have cx22_ : ¬ (vx21_ ≠ 0) := of_decide_eq_false cx22_
            have hIx26_ : gi (sm_pI S0_ 13 0 0 2) := gi_pI hI_ (show 0 ≤ 2 ∧ 2 ≤ 4 from ⟨by omega, by omega⟩)
            have hFx27_ : ai_fr (sx_W vw_477) S0_ (sm_pI S0_ 13 0 0 2) := ai_fr_tr hF_ (ai_fr_pI rfl)
            refine sm_T_go 7 (c1 := (88, [some (.inr (.inr (some (13, 0)))), some (.inl a1_), some (.inl a2_), some (.inl a3_)], [.inl 0], sm_pI S0_ 13 0 0 2)) rfl ?_
            refine sm_T_ri rfl ⟨_, _, rfl, _, rfl, hIx26_, hFx27_, ?_⟩
            refine ⟨⟨by omega, by omega⟩, jR_fr hJ_ hIx26_ hFx27_⟩
        · have cx15_ : ¬ (a2_ ≠ (-1)) := of_decide_eq_false cx15_
          refine sm_T_go 2 (c1 := (53, [some (.inr (.inr (some (13, 0)))), some (.inl a1_), some (.inl a2_), some (.inl a3_)], [.inl 0, .inl 0, .inl a3_, .inr (.inr (some (13, 0)))], S0_)) rfl ?_
          refine sm_T_cal (d1 := 0) (Q1 := vq_278 a3_ 0 0 S0_) rfl rfl (by decide) (vc_278 a3_ 0 0 S0_ hI_ ) (fun u_ Sx28_ px31_ => ?_)
          obtain ⟨rfl, vx33_, rfl, px31_⟩ := px31_
          have e53_ := px31_
          refine sm_T_b0 (a := 1) (z := 7) rfl (fun cx34_ => ?_) (fun cx34_ => ?_)
          · have cx34_ : vx33_ ≠ 0 := of_decide_eq_true cx34_
            refine sm_T_go 3 (c1 := (68, [some (.inr (.inr (some (13, 0)))), some (.inl a1_), some (.inl a2_), some (.inl a3_)], [.inl a1_, .inr (.inr (some (263, 0))), .inr (.inr (some (13, 0)))], S0_)) rfl ?_
            refine sm_T_zald (n := 4) rfl rfl (by omega) (by omega) ?_
            refine sm_T_b0 (a := 1) (z := 7) rfl (fun cx35_ => ?_) (fun cx35_ => ?_)
            · have cx35_ : (S0_.2.2.1 263 0 a1_.toNat) ≠ 0 := of_decide_eq_true cx35_
              exfalso; omega
            · have cx35_ : ¬ ((S0_.2.2.1 263 0 a1_.toNat) ≠ 0) := of_decide_eq_false cx35_
              have hIx36_ : gi (sm_pI S0_ 13 0 0 3) := gi_pI hI_ (show 0 ≤ 3 ∧ 3 ≤ 4 from ⟨by omega, by omega⟩)
              have hFx37_ : ai_fr (sx_W vw_477) S0_ (sm_pI S0_ 13 0 0 3) := ai_fr_tr hF_ (ai_fr_pI rfl)
              refine sm_T_go 7 (c1 := (88, [some (.inr (.inr (some (13, 0)))), some (.inl a1_), some (.inl a2_), some (.inl a3_)], [.inl 0], sm_pI S0_ 13 0 0 3)) rfl ?_
              refine sm_T_ri rfl ⟨_, _, rfl, _, rfl, hIx36_, hFx37_, ?_⟩
              refine ⟨⟨by omega, by omega⟩, jR_fr hJ_ hIx36_ hFx37_⟩
          · have cx34_ : ¬ (vx33_ ≠ 0) := of_decide_eq_false cx34_
            have hIx38_ : gi (sm_pI S0_ 13 0 0 2) := gi_pI hI_ (show 0 ≤ 2 ∧ 2 ≤ 4 from ⟨by omega, by omega⟩)
            have hFx39_ : ai_fr (sx_W vw_477) S0_ (sm_pI S0_ 13 0 0 2) := ai_fr_tr hF_ (ai_fr_pI rfl)
            refine sm_T_go 7 (c1 := (88, [some (.inr (.inr (some (13, 0)))), some (.inl a1_), some (.inl a2_), some (.inl a3_)], [.inl 0], sm_pI S0_ 13 0 0 2)) rfl ?_
            refine sm_T_ri rfl ⟨_, _, rfl, _, rfl, hIx38_, hFx39_, ?_⟩
            refine ⟨⟨by omega, by omega⟩, jR_fr hJ_ hIx38_ hFx39_⟩
      · have cx14_ : ¬ ((S0_.2.2.1 263 0 a1_.toNat) = 0) := of_decide_eq_false cx14_
        refine sm_T_go 2 (c1 := (25, [some (.inr (.inr (some (13, 0)))), some (.inl a1_), some (.inl a2_), some (.inl a3_)], [.inl (-1), .inl a2_, .inr (.inr (some (13, 0)))], S0_)) rfl ?_
        refine sm_T_br (a := 0) (z := 16) rfl (fun cx40_ => ?_) (fun cx40_ => ?_)
        · have cx40_ : a2_ = (-1) := of_decide_eq_true cx40_
          refine sm_T_go 4 (c1 := (45, [some (.inr (.inr (some (13, 0)))), some (.inl a1_), some (.inl a2_), some (.inl a3_)], [.inl (-1), .inl a2_, .inl 0, .inl a3_, .inr (.inr (some (13, 0)))], S0_)) rfl ?_
          refine sm_T_br (a := 1) (z := 7) rfl (fun cx41_ => ?_) (fun cx41_ => ?_)
          · have cx41_ : a2_ ≠ (-1) := of_decide_eq_true cx41_
            exfalso; omega
          · have cx41_ : ¬ (a2_ ≠ (-1)) := of_decide_eq_false cx41_
            refine sm_T_go 2 (c1 := (53, [some (.inr (.inr (some (13, 0)))), some (.inl a1_), some (.inl a2_), some (.inl a3_)], [.inl 0, .inl 0, .inl a3_, .inr (.inr (some (13, 0)))], S0_)) rfl ?_
            refine sm_T_cal (d1 := 0) (Q1 := vq_278 a3_ 0 0 S0_) rfl rfl (by decide) (vc_278 a3_ 0 0 S0_ hI_ ) (fun u_ Sx42_ px45_ => ?_)
            obtain ⟨rfl, vx47_, rfl, px45_⟩ := px45_
            have e53_ := px45_
            refine sm_T_b0 (a := 1) (z := 7) rfl (fun cx48_ => ?_) (fun cx48_ => ?_)
            · have cx48_ : vx47_ ≠ 0 := of_decide_eq_true cx48_
              refine sm_T_go 3 (c1 := (68, [some (.inr (.inr (some (13, 0)))), some (.inl a1_), some (.inl a2_), some (.inl a3_)], [.inl a1_, .inr (.inr (some (263, 0))), .inr (.inr (some (13, 0)))], S0_)) rfl ?_
              refine sm_T_zald (n := 4) rfl rfl (by omega) (by omega) ?_
              refine sm_T_b0 (a := 1) (z := 7) rfl (fun cx49_ => ?_) (fun cx49_ => ?_)
              · have cx49_ : (S0_.2.2.1 263 0 a1_.toNat) ≠ 0 := of_decide_eq_true cx49_
                have hIx50_ : gi (sm_pI S0_ 13 0 0 0) := gi_pI hI_ (show 0 ≤ 0 ∧ 0 ≤ 4 from ⟨by omega, by omega⟩)
                have hFx51_ : ai_fr (sx_W vw_477) S0_ (sm_pI S0_ 13 0 0 0) := ai_fr_tr hF_ (ai_fr_pI rfl)
                refine sm_T_go 7 (c1 := (91, [some (.inr (.inr (some (13, 0)))), some (.inl a1_), some (.inl a2_), some (.inl a3_)], [.inl (-1), .inl a2_], sm_pI S0_ 13 0 0 0)) rfl ?_
                refine sm_T_br (a := 1) (z := 12) rfl (fun cx52_ => ?_) (fun cx52_ => ?_)
                · have cx52_ : a2_ ≠ (-1) := of_decide_eq_true cx52_
                  exfalso; omega
                · have cx52_ : ¬ (a2_ ≠ (-1)) := of_decide_eq_false cx52_
                  refine sm_T_go 3 (c1 := (99, [some (.inr (.inr (some (13, 0)))), some (.inl a1_), some (.inl a2_), some (.inl a3_)], [.inl a1_, .inr (.inr (some (264, 0)))], sm_pI S0_ 13 0 0 0)) rfl ?_
                  refine sm_T_iald (n := 4) rfl rfl (by omega) (by omega) ?_
                  have bx53_ : 0 ≤ S0_.2.2.1 264 0 a1_.toNat ∧ S0_.2.2.1 264 0 a1_.toNat ≤ 2000 := hI_.2 264 0 _
                  refine sm_T_go 1 (c1 := (110, [some (.inr (.inr (some (13, 0)))), some (.inl a1_), some (.inl a2_), some (.inl a3_)], [.inl (S0_.2.2.1 264 0 a1_.toNat)], sm_pI S0_ 13 0 0 0)) rfl ?_
                  refine sm_T_ri rfl ⟨_, _, rfl, _, rfl, hIx50_, hFx51_, ?_⟩
                  refine ⟨⟨by omega, by omega⟩, jR_fr hJ_ hIx50_ hFx51_⟩
              · have cx49_ : ¬ ((S0_.2.2.1 263 0 a1_.toNat) ≠ 0) := of_decide_eq_false cx49_
                have hIx54_ : gi (sm_pI S0_ 13 0 0 3) := gi_pI hI_ (show 0 ≤ 3 ∧ 3 ≤ 4 from ⟨by omega, by omega⟩)
                have hFx55_ : ai_fr (sx_W vw_477) S0_ (sm_pI S0_ 13 0 0 3) := ai_fr_tr hF_ (ai_fr_pI rfl)
                refine sm_T_go 7 (c1 := (88, [some (.inr (.inr (some (13, 0)))), some (.inl a1_), some (.inl a2_), some (.inl a3_)], [.inl 0], sm_pI S0_ 13 0 0 3)) rfl ?_
                refine sm_T_ri rfl ⟨_, _, rfl, _, rfl, hIx54_, hFx55_, ?_⟩
                refine ⟨⟨by omega, by omega⟩, jR_fr hJ_ hIx54_ hFx55_⟩
            · have cx48_ : ¬ (vx47_ ≠ 0) := of_decide_eq_false cx48_
              have hIx56_ : gi (sm_pI S0_ 13 0 0 2) := gi_pI hI_ (show 0 ≤ 2 ∧ 2 ≤ 4 from ⟨by omega, by omega⟩)
              have hFx57_ : ai_fr (sx_W vw_477) S0_ (sm_pI S0_ 13 0 0 2) := ai_fr_tr hF_ (ai_fr_pI rfl)
              refine sm_T_go 7 (c1 := (88, [some (.inr (.inr (some (13, 0)))), some (.inl a1_), some (.inl a2_), some (.inl a3_)], [.inl 0], sm_pI S0_ 13 0 0 2)) rfl ?_
              refine sm_T_ri rfl ⟨_, _, rfl, _, rfl, hIx56_, hFx57_, ?_⟩
              refine ⟨⟨by omega, by omega⟩, jR_fr hJ_ hIx56_ hFx57_⟩
        · have cx40_ : ¬ (a2_ = (-1)) := of_decide_eq_false cx40_
          refine sm_T_go 3 (c1 := (31, [some (.inr (.inr (some (13, 0)))), some (.inl a1_), some (.inl a2_), some (.inl a3_)], [.inl a2_, .inl a1_, .inr (.inr (some (13, 0))), .inr (.inr (some (13, 0)))], S0_)) rfl ?_
          refine sm_T_cal (d1 := 1) (Q1 := vq_475 a1_ a2_ S0_) rfl rfl (by decide) (vc_475 a1_ a2_ S0_ hI_ (by omega) (by omega)) (fun u_ Sx58_ px61_ => ?_)
          obtain ⟨rfl, vx63_, rfl, px61_⟩ := px61_
          have e31_ := px61_
          refine sm_T_b0 (a := 1) (z := 7) rfl (fun cx64_ => ?_) (fun cx64_ => ?_)
          · have cx64_ : vx63_ ≠ 0 := of_decide_eq_true cx64_
            refine sm_T_go 4 (c1 := (45, [some (.inr (.inr (some (13, 0)))), some (.inl a1_), some (.inl a2_), some (.inl a3_)], [.inl (-1), .inl a2_, .inl 0, .inl a3_, .inr (.inr (some (13, 0)))], S0_)) rfl ?_
            refine sm_T_br (a := 1) (z := 7) rfl (fun cx65_ => ?_) (fun cx65_ => ?_)
            · have cx65_ : a2_ ≠ (-1) := of_decide_eq_true cx65_
              refine sm_T_go 1 (c1 := (53, [some (.inr (.inr (some (13, 0)))), some (.inl a1_), some (.inl a2_), some (.inl a3_)], [.inl 4, .inl 0, .inl a3_, .inr (.inr (some (13, 0)))], S0_)) rfl ?_
              refine sm_T_cal (d1 := 0) (Q1 := vq_278 a3_ 0 4 S0_) rfl rfl (by decide) (vc_278 a3_ 0 4 S0_ hI_ ) (fun u_ Sx66_ px69_ => ?_)
              obtain ⟨rfl, vx71_, rfl, px69_⟩ := px69_
              have e53_ := px69_
              refine sm_T_b0 (a := 1) (z := 7) rfl (fun cx72_ => ?_) (fun cx72_ => ?_)
              · have cx72_ : vx71_ ≠ 0 := of_decide_eq_true cx72_
                refine sm_T_go 3 (c1 := (68, [some (.inr (.inr (some (13, 0)))), some (.inl a1_), some (.inl a2_), some (.inl a3_)], [.inl a1_, .inr (.inr (some (263, 0))), .inr (.inr (some (13, 0)))], S0_)) rfl ?_
                refine sm_T_zald (n := 4) rfl rfl (by omega) (by omega) ?_
                refine sm_T_b0 (a := 1) (z := 7) rfl (fun cx73_ => ?_) (fun cx73_ => ?_)
                · have cx73_ : (S0_.2.2.1 263 0 a1_.toNat) ≠ 0 := of_decide_eq_true cx73_
                  have hIx74_ : gi (sm_pI S0_ 13 0 0 0) := gi_pI hI_ (show 0 ≤ 0 ∧ 0 ≤ 4 from ⟨by omega, by omega⟩)
                  have hFx75_ : ai_fr (sx_W vw_477) S0_ (sm_pI S0_ 13 0 0 0) := ai_fr_tr hF_ (ai_fr_pI rfl)
                  refine sm_T_go 7 (c1 := (91, [some (.inr (.inr (some (13, 0)))), some (.inl a1_), some (.inl a2_), some (.inl a3_)], [.inl (-1), .inl a2_], sm_pI S0_ 13 0 0 0)) rfl ?_
                  refine sm_T_br (a := 1) (z := 12) rfl (fun cx76_ => ?_) (fun cx76_ => ?_)
                  · have cx76_ : a2_ ≠ (-1) := of_decide_eq_true cx76_
                    refine sm_T_go 4 (c1 := (107, [some (.inr (.inr (some (13, 0)))), some (.inl a1_), some (.inl a2_), some (.inl a3_)], [.inl a3_, .inl a2_, .inl a1_, .inr (.inr (some (13, 0)))], sm_pI S0_ 13 0 0 0)) rfl ?_
                    refine sm_T_cal (d1 := 0) (Q1 := vq_476 a1_ a2_ a3_ (sm_pI S0_ 13 0 0 0)) rfl rfl (by decide) (vc_476 a1_ a2_ a3_ (sm_pI S0_ 13 0 0 0) hIx74_ (by omega) (by omega) (by omega)) (fun u_ Sx77_ px80_ => ?_)
                    obtain ⟨rfl, vx82_, rfl, px80_⟩ := px80_
                    refine sm_T_ri rfl ⟨_, _, rfl, _, rfl, hIx74_, hFx75_, ?_⟩
                    refine ⟨⟨by omega, by omega⟩, jR_fr hJ_ hIx74_ hFx75_⟩
                  · have cx76_ : ¬ (a2_ ≠ (-1)) := of_decide_eq_false cx76_
                    exfalso; omega
                · have cx73_ : ¬ ((S0_.2.2.1 263 0 a1_.toNat) ≠ 0) := of_decide_eq_false cx73_
                  have hIx83_ : gi (sm_pI S0_ 13 0 0 3) := gi_pI hI_ (show 0 ≤ 3 ∧ 3 ≤ 4 from ⟨by omega, by omega⟩)
                  have hFx84_ : ai_fr (sx_W vw_477) S0_ (sm_pI S0_ 13 0 0 3) := ai_fr_tr hF_ (ai_fr_pI rfl)
                  refine sm_T_go 7 (c1 := (88, [some (.inr (.inr (some (13, 0)))), some (.inl a1_), some (.inl a2_), some (.inl a3_)], [.inl 0], sm_pI S0_ 13 0 0 3)) rfl ?_
                  refine sm_T_ri rfl ⟨_, _, rfl, _, rfl, hIx83_, hFx84_, ?_⟩
                  refine ⟨⟨by omega, by omega⟩, jR_fr hJ_ hIx83_ hFx84_⟩
              · have cx72_ : ¬ (vx71_ ≠ 0) := of_decide_eq_false cx72_
                have hIx85_ : gi (sm_pI S0_ 13 0 0 2) := gi_pI hI_ (show 0 ≤ 2 ∧ 2 ≤ 4 from ⟨by omega, by omega⟩)
                have hFx86_ : ai_fr (sx_W vw_477) S0_ (sm_pI S0_ 13 0 0 2) := ai_fr_tr hF_ (ai_fr_pI rfl)
                refine sm_T_go 7 (c1 := (88, [some (.inr (.inr (some (13, 0)))), some (.inl a1_), some (.inl a2_), some (.inl a3_)], [.inl 0], sm_pI S0_ 13 0 0 2)) rfl ?_
                refine sm_T_ri rfl ⟨_, _, rfl, _, rfl, hIx85_, hFx86_, ?_⟩
                refine ⟨⟨by omega, by omega⟩, jR_fr hJ_ hIx85_ hFx86_⟩
            · have cx65_ : ¬ (a2_ ≠ (-1)) := of_decide_eq_false cx65_
              exfalso; omega
          · have cx64_ : ¬ (vx63_ ≠ 0) := of_decide_eq_false cx64_
            have hIx87_ : gi (sm_pI S0_ 13 0 0 1) := gi_pI hI_ (show 0 ≤ 1 ∧ 1 ≤ 4 from ⟨by omega, by omega⟩)
            have hFx88_ : ai_fr (sx_W vw_477) S0_ (sm_pI S0_ 13 0 0 1) := ai_fr_tr hF_ (ai_fr_pI rfl)
            refine sm_T_go 7 (c1 := (88, [some (.inr (.inr (some (13, 0)))), some (.inl a1_), some (.inl a2_), some (.inl a3_)], [.inl 0], sm_pI S0_ 13 0 0 1)) rfl ?_
            refine sm_T_ri rfl ⟨_, _, rfl, _, rfl, hIx87_, hFx88_, ?_⟩
            refine ⟨⟨by omega, by omega⟩, jR_fr hJ_ hIx87_ hFx88_⟩
/-! M_.add -/
def vw_479 : sx_Wl := ([(13, 0), (13, 177), (13, 188), (13, 189)], [264, 265], [])
def vq_479 (a1_ : Int) (a2_ : Int) (a3_ : Int) (a4_ : Int) (a5_ : Int) (a6_ : Int) (S0_ : sm_S) (u_ : Option sm_V) (S1_ : sm_S) : Prop := ∃ v_ : Int, u_ = some (.inl v_) ∧ gi S1_ ∧ ai_fr (sx_W vw_479) S0_ S1_ ∧ (((-2147483648) ≤ v_ ∧ v_ ≤ 2147483647) ∧ (jR S1_))
set_option maxHeartbeats 400000 in
set_option maxRecDepth 20000 in
theorem vc_479 {sc_ : Nat × (Nat → Int)} (a1_ : Int) (a2_ : Int) (a3_ : Int) (a4_ : Int) (a5_ : Int) (a6_ : Int) (S0_ : sm_S) (hI_ : gi S0_) (ha1_ : (-2147483648) ≤ a1_ ∧ a1_ ≤ 2147483647) (ha2_ : (-2147483648) ≤ a2_ ∧ a2_ ≤ 2147483647) (ha3_ : (-2147483648) ≤ a3_ ∧ a3_ ≤ 2147483647) (ha4_ : (-2147483648) ≤ a4_ ∧ a4_ ≤ 2147483647) (ha5_ : (-2147483648) ≤ a5_ ∧ a5_ ≤ 2147483647) (ha6_ : (-2147483648) ≤ a6_ ∧ a6_ ≤ 2147483647) (hJ_ : jR S0_) : sm_T (mt_P sc_) 1 479 (0, [some (.inr (.inr (some (13, 0)))), some (.inl a1_), some (.inl a2_), some (.inl a3_), some (.inl a4_), some (.inl a5_), some (.inl a6_)], [], S0_) (fun ro9_ => ∃ u_ S1_, ro9_ = (.inl u_, S1_, 0) ∧ vq_479 a1_ a2_ a3_ a4_ a5_ a6_ S0_ u_ S1_) := by
  have hF_ : ai_fr (sx_W vw_479) S0_ S0_ := ai_fr_rf
  refine sm_T_go 3 (c1 := (3, [some (.inr (.inr (some (13, 0)))), some (.inl a1_), some (.inl a2_), some (.inl a3_), some (.inl a4_), some (.inl a5_), some (.inl a6_)], [.inl a1_, .inr (.inr (some (13, 0))), .inr (.inr (some (13, 0)))], S0_)) rfl ?_
  refine sm_T_cal (d1 := 0) (Q1 := vq_371 a1_ S0_) rfl rfl (by decide) (vc_371 a1_ S0_ hI_ (by omega)) (fun u_ Sx1_ px4_ => ?_)
  obtain ⟨rfl, vx6_, rfl, px4_⟩ := px4_
  have d3_ := px4_
  refine sm_T_b0 (a := 1) (z := 7) rfl (fun cx7_ => ?_) (fun cx7_ => ?_)
  · have cx7_ : vx6_ ≠ 0 := of_decide_eq_true cx7_
    refine sm_T_go 3 (c1 := (16, [some (.inr (.inr (some (13, 0)))), some (.inl a1_), some (.inl a2_), some (.inl a3_), some (.inl a4_), some (.inl a5_), some (.inl a6_)], [.inl 2, .inl 0, .inl a2_, .inr (.inr (some (13, 0)))], S0_)) rfl ?_
    refine sm_T_cal (d1 := 0) (Q1 := vq_278 a2_ 0 2 S0_) rfl rfl (by decide) (vc_278 a2_ 0 2 S0_ hI_ ) (fun u_ Sx8_ px11_ => ?_)
    obtain ⟨rfl, vx13_, rfl, px11_⟩ := px11_
    have e16_ := px11_
    refine sm_T_b0 (a := 0) (z := 22) rfl (fun cx14_ => ?_) (fun cx14_ => ?_)
    · have cx14_ : vx13_ = 0 := of_decide_eq_true cx14_
      have hIx15_ : gi (sm_pI S0_ 13 0 0 2) := gi_pI hI_ (show 0 ≤ 2 ∧ 2 ≤ 4 from ⟨by omega, by omega⟩)
      have hFx16_ : ai_fr (sx_W vw_479) S0_ (sm_pI S0_ 13 0 0 2) := ai_fr_tr hF_ (ai_fr_pI rfl)
      refine sm_T_go 7 (c1 := (86, [some (.inr (.inr (some (13, 0)))), some (.inl a1_), some (.inl a2_), some (.inl a3_), some (.inl a4_), some (.inl a5_), some (.inl a6_)], [.inl 0], sm_pI S0_ 13 0 0 2)) rfl ?_
      refine sm_T_ri rfl ⟨_, _, rfl, _, rfl, hIx15_, hFx16_, ?_⟩
      refine ⟨⟨by omega, by omega⟩, jR_fr hJ_ hIx15_ hFx16_⟩
    · have cx14_ : ¬ (vx13_ = 0) := of_decide_eq_false cx14_
      refine sm_T_go 2 (c1 := (25, [some (.inr (.inr (some (13, 0)))), some (.inl a1_), some (.inl a2_), some (.inl a3_), some (.inl a4_), some (.inl a5_), some (.inl a6_)], [.inl a5_, .inl a3_, .inr (.inr (some (13, 0)))], S0_)) rfl ?_
      refine sm_T_cal (d1 := 0) (Q1 := vq_478 a3_ a5_ S0_) rfl rfl (by decide) (vc_478 a3_ a5_ S0_ hI_ (by omega) (by omega)) (fun u_ Sx17_ px20_ => ?_)
      obtain ⟨rfl, vx22_, rfl, px20_⟩ := px20_
      have e25_ := px20_
      refine sm_T_b0 (a := 0) (z := 13) rfl (fun cx23_ => ?_) (fun cx23_ => ?_)
      · have cx23_ : vx22_ = 0 := of_decide_eq_true cx23_
        have hIx24_ : gi (sm_pI S0_ 13 0 0 2) := gi_pI hI_ (show 0 ≤ 2 ∧ 2 ≤ 4 from ⟨by omega, by omega⟩)
        have hFx25_ : ai_fr (sx_W vw_479) S0_ (sm_pI S0_ 13 0 0 2) := ai_fr_tr hF_ (ai_fr_pI rfl)
        refine sm_T_go 7 (c1 := (86, [some (.inr (.inr (some (13, 0)))), some (.inl a1_), some (.inl a2_), some (.inl a3_), some (.inl a4_), some (.inl a5_), some (.inl a6_)], [.inl 0], sm_pI S0_ 13 0 0 2)) rfl ?_
        refine sm_T_ri rfl ⟨_, _, rfl, _, rfl, hIx24_, hFx25_, ?_⟩
        refine ⟨⟨by omega, by omega⟩, jR_fr hJ_ hIx24_ hFx25_⟩
      · have cx23_ : ¬ (vx22_ = 0) := of_decide_eq_false cx23_
        refine sm_T_go 2 (c1 := (35, [some (.inr (.inr (some (13, 0)))), some (.inl a1_), some (.inl a2_), some (.inl a3_), some (.inl a4_), some (.inl a5_), some (.inl a6_)], [.inl a6_, .inl a4_, .inr (.inr (some (13, 0)))], S0_)) rfl ?_
        refine sm_T_cal (d1 := 0) (Q1 := vq_478 a4_ a6_ S0_) rfl rfl (by decide) (vc_478 a4_ a6_ S0_ hI_ (by omega) (by omega)) (fun u_ Sx26_ px29_ => ?_)
        obtain ⟨rfl, vx31_, rfl, px29_⟩ := px29_
        have e35_ := px29_
        refine sm_T_b0 (a := 1) (z := 7) rfl (fun cx32_ => ?_) (fun cx32_ => ?_)
        · have cx32_ : vx31_ ≠ 0 := of_decide_eq_true cx32_
          refine sm_T_go 3 (c1 := (50, [some (.inr (.inr (some (13, 0)))), some (.inl a1_), some (.inl a2_), some (.inl a3_), some (.inl a4_), some (.inl a5_), some (.inl a6_)], [.inl a1_, .inr (.inr (some (263, 0))), .inr (.inr (some (13, 0)))], S0_)) rfl ?_
          refine sm_T_zald (n := 4) rfl rfl (by omega) (by omega) ?_
          have bx33_ : 0 ≤ S0_.2.2.1 263 0 a1_.toNat ∧ S0_.2.2.1 263 0 a1_.toNat ≤ 1 := hI_.2 263 0 _
          refine sm_T_b0 (a := 1) (z := 7) rfl (fun cx34_ => ?_) (fun cx34_ => ?_)
          · have cx34_ : (S0_.2.2.1 263 0 a1_.toNat) ≠ 0 := of_decide_eq_true cx34_
            refine sm_T_go 3 (c1 := (63, [some (.inr (.inr (some (13, 0)))), some (.inl a1_), some (.inl a2_), some (.inl a3_), some (.inl a4_), some (.inl a5_), some (.inl a6_)], [.inl a1_, .inr (.inr (some (264, 0))), .inr (.inr (some (13, 0)))], S0_)) rfl ?_
            refine sm_T_iald (n := 4) rfl rfl (by omega) (by omega) ?_
            have bx35_ : 0 ≤ S0_.2.2.1 264 0 a1_.toNat ∧ S0_.2.2.1 264 0 a1_.toNat ≤ 2000 := hI_.2 264 0 _
            refine sm_T_go 1 (c1 := (67, [some (.inr (.inr (some (13, 0)))), some (.inl a1_), some (.inl a2_), some (.inl a3_), some (.inl a4_), some (.inl a5_), some (.inl a6_)], [.inl 2000, .inl (S0_.2.2.1 264 0 a1_.toNat), .inr (.inr (some (13, 0)))], S0_)) rfl ?_
            refine sm_T_br (a := 1) (z := 7) rfl (fun cx36_ => ?_) (fun cx36_ => ?_)
            · have cx36_ : (S0_.2.2.1 264 0 a1_.toNat) ≠ 2000 := of_decide_eq_true cx36_
              have hIx37_ : gi (sm_pI S0_ 13 0 0 0) := gi_pI hI_ (show 0 ≤ 0 ∧ 0 ≤ 4 from ⟨by omega, by omega⟩)
              have hFx38_ : ai_fr (sx_W vw_479) S0_ (sm_pI S0_ 13 0 0 0) := ai_fr_tr hF_ (ai_fr_pI rfl)
              have hIx39_ : gi (sm_pI (sm_pI S0_ 13 0 0 0) 13 0 177 a1_) := gi_pI hIx37_ (show 0 ≤ a1_ ∧ a1_ ≤ 3 from ⟨by omega, by omega⟩)
              have hFx40_ : ai_fr (sx_W vw_479) S0_ (sm_pI (sm_pI S0_ 13 0 0 0) 13 0 177 a1_) := ai_fr_tr hFx38_ (ai_fr_pI rfl)
              have hIx41_ : gi (sm_pI (sm_pI (sm_pI S0_ 13 0 0 0) 13 0 177 a1_) 13 0 189 0) := gi_pI hIx39_ (show 0 ≤ 0 ∧ 0 ≤ 1 from ⟨by omega, by omega⟩)
              have hFx42_ : ai_fr (sx_W vw_479) S0_ (sm_pI (sm_pI (sm_pI S0_ 13 0 0 0) 13 0 177 a1_) 13 0 189 0) := ai_fr_tr hFx40_ (ai_fr_pI rfl)
              refine sm_T_go 15 (c1 := (103, [some (.inr (.inr (some (13, 0)))), some (.inl a1_), some (.inl a2_), some (.inl a3_), some (.inl a4_), some (.inl a5_), some (.inl a6_)], [.inl a1_, .inr (.inr (some (264, 0))), .inr (.inr (some (13, 0)))], sm_pI (sm_pI (sm_pI S0_ 13 0 0 0) 13 0 177 a1_) 13 0 189 0)) rfl ?_
              refine sm_T_iald (n := 4) rfl rfl (by omega) (by omega) ?_
              have hIx43_ : gi (sm_pI (sm_pI (sm_pI (sm_pI S0_ 13 0 0 0) 13 0 177 a1_) 13 0 189 0) 13 0 188 (S0_.2.2.1 264 0 a1_.toNat)) := gi_pI hIx41_ (show 0 ≤ (S0_.2.2.1 264 0 a1_.toNat) ∧ (S0_.2.2.1 264 0 a1_.toNat) ≤ 2000000 from ⟨by omega, by omega⟩)
              have hFx44_ : ai_fr (sx_W vw_479) S0_ (sm_pI (sm_pI (sm_pI (sm_pI S0_ 13 0 0 0) 13 0 177 a1_) 13 0 189 0) 13 0 188 (S0_.2.2.1 264 0 a1_.toNat)) := ai_fr_tr hFx42_ (ai_fr_pI rfl)
              refine sm_T_go 7 (c1 := (116, [some (.inr (.inr (some (13, 0)))), some (.inl a1_), some (.inl a2_), some (.inl a3_), some (.inl a4_), some (.inl a5_), some (.inl a6_)], [.inl a6_, .inl a5_, .inl a4_, .inl a3_, .inl a2_, .inr (.inr (some (13, 0)))], sm_pI (sm_pI (sm_pI (sm_pI S0_ 13 0 0 0) 13 0 177 a1_) 13 0 189 0) 13 0 188 (S0_.2.2.1 264 0 a1_.toNat))) rfl ?_
              refine sm_T_cal (d1 := 0) (Q1 := vq_469 a2_ a3_ a4_ a5_ a6_ (sm_pI (sm_pI (sm_pI (sm_pI S0_ 13 0 0 0) 13 0 177 a1_) 13 0 189 0) 13 0 188 (S0_.2.2.1 264 0 a1_.toNat))) rfl rfl (by decide) (vc_469 a2_ a3_ a4_ a5_ a6_ (sm_pI (sm_pI (sm_pI (sm_pI S0_ 13 0 0 0) 13 0 177 a1_) 13 0 189 0) 13 0 188 (S0_.2.2.1 264 0 a1_.toNat)) hIx43_ (by omega) (by omega) (by omega) (by omega) (by omega) (by (have l9_ : lim9 (sm_pI (sm_pI (sm_pI (sm_pI S0_ 13 0 0 0) 13 0 177 a1_) 13 0 189 0) 13 0 188 (S0_.2.2.1 264 0 a1_.toNat)) = 2000 := (by (unfold lim9; (try simp only [rd_eq, rd_ne, rf_eq, rf_nk, rf_nt, rd_fa, rd_af, rd_fl, rd_al, rd_lf, rd_la, rd_leq, rd_lne, rd_fr, rd_ar, ne_eq, Nat.reduceEqDiff, not_false_eq_true]); first | rw [if_pos rfl] | rw [if_pos trivial])); rw [l9_]; (try simp only [rd_eq, rd_ne, rf_eq, rf_nk, rf_nt, rd_fa, rd_af, rd_fl, rd_al, rd_lf, rd_la, rd_leq, rd_lne, rd_fr, rd_ar, ne_eq, Nat.reduceEqDiff, not_false_eq_true]); omega))) (fun u_ Sx45_ px48_ => ?_)
              obtain ⟨rfl, hIx46_, hFx47_, px48_⟩ := px48_
              have hFx49_ : ai_fr (sx_W vw_479) S0_ Sx45_ := ai_fr_tr hFx44_ (fr_le hFx47_ rfl)
              have e116_ := px48_
              rw [rf_eq] at e116_
              have bx50_ : 0 ≤ Sx45_.1 13 0 188 ∧ Sx45_.1 13 0 188 ≤ 2000000 := hIx46_.1 13 0 188 rfl
              refine sm_T_go 5 (c1 := (128, [some (.inr (.inr (some (13, 0)))), some (.inl a1_), some (.inl a2_), some (.inl a3_), some (.inl a4_), some (.inl a5_), some (.inl a6_)], [.inl (Sx45_.1 13 0 188), .inl a1_, .inr (.inr (some (264, 0)))], Sx45_)) rfl ?_
              refine sm_T_iast (n := 4) rfl rfl (by omega) (by omega) ?_
              have hIx51_ : gi (sm_aI Sx45_ 264 0 a1_.toNat (Sx45_.1 13 0 188)) := gi_aI hIx46_ (show 0 ≤ (Sx45_.1 13 0 188) ∧ (Sx45_.1 13 0 188) ≤ 2000 from ⟨by omega, by omega⟩)
              have hFx52_ : ai_fr (sx_W vw_479) S0_ (sm_aI Sx45_ 264 0 a1_.toNat (Sx45_.1 13 0 188)) := ai_fr_tr hFx49_ (ai_fr_aI rfl)
              refine sm_T_go 3 (c1 := (134, [some (.inr (.inr (some (13, 0)))), some (.inl a1_), some (.inl a2_), some (.inl a3_), some (.inl a4_), some (.inl a5_), some (.inl a6_)], [.inl 1, .inl (Sx45_.1 13 0 188)], sm_aI Sx45_ 264 0 a1_.toNat (Sx45_.1 13 0 188))) rfl ?_
              refine sm_T_bin (w := (Sx45_.1 13 0 188) - 1) rfl (bi_sub (by omega) (by omega) (by omega)) ?_ -- pc_ 134
              refine sm_T_ri rfl ⟨_, _, rfl, _, rfl, hIx51_, hFx52_, ?_⟩
              refine ⟨⟨by omega, by omega⟩, jR_fr hJ_ hIx51_ hFx52_⟩
            · have cx36_ : ¬ ((S0_.2.2.1 264 0 a1_.toNat) ≠ 2000) := of_decide_eq_false cx36_
              have hIx53_ : gi (sm_pI S0_ 13 0 0 4) := gi_pI hI_ (show 0 ≤ 4 ∧ 4 ≤ 4 from ⟨by omega, by omega⟩)
              have hFx54_ : ai_fr (sx_W vw_479) S0_ (sm_pI S0_ 13 0 0 4) := ai_fr_tr hF_ (ai_fr_pI rfl)
              refine sm_T_go 7 (c1 := (86, [some (.inr (.inr (some (13, 0)))), some (.inl a1_), some (.inl a2_), some (.inl a3_), some (.inl a4_), some (.inl a5_), some (.inl a6_)], [.inl 0], sm_pI S0_ 13 0 0 4)) rfl ?_
              refine sm_T_ri rfl ⟨_, _, rfl, _, rfl, hIx53_, hFx54_, ?_⟩
              refine ⟨⟨by omega, by omega⟩, jR_fr hJ_ hIx53_ hFx54_⟩
          · have cx34_ : ¬ ((S0_.2.2.1 263 0 a1_.toNat) ≠ 0) := of_decide_eq_false cx34_
            have hIx55_ : gi (sm_pI S0_ 13 0 0 3) := gi_pI hI_ (show 0 ≤ 3 ∧ 3 ≤ 4 from ⟨by omega, by omega⟩)
            have hFx56_ : ai_fr (sx_W vw_479) S0_ (sm_pI S0_ 13 0 0 3) := ai_fr_tr hF_ (ai_fr_pI rfl)
            refine sm_T_go 7 (c1 := (86, [some (.inr (.inr (some (13, 0)))), some (.inl a1_), some (.inl a2_), some (.inl a3_), some (.inl a4_), some (.inl a5_), some (.inl a6_)], [.inl 0], sm_pI S0_ 13 0 0 3)) rfl ?_
            refine sm_T_ri rfl ⟨_, _, rfl, _, rfl, hIx55_, hFx56_, ?_⟩
            refine ⟨⟨by omega, by omega⟩, jR_fr hJ_ hIx55_ hFx56_⟩
        · have cx32_ : ¬ (vx31_ ≠ 0) := of_decide_eq_false cx32_
          have hIx57_ : gi (sm_pI S0_ 13 0 0 2) := gi_pI hI_ (show 0 ≤ 2 ∧ 2 ≤ 4 from ⟨by omega, by omega⟩)
          have hFx58_ : ai_fr (sx_W vw_479) S0_ (sm_pI S0_ 13 0 0 2) := ai_fr_tr hF_ (ai_fr_pI rfl)
          refine sm_T_go 7 (c1 := (86, [some (.inr (.inr (some (13, 0)))), some (.inl a1_), some (.inl a2_), some (.inl a3_), some (.inl a4_), some (.inl a5_), some (.inl a6_)], [.inl 0], sm_pI S0_ 13 0 0 2)) rfl ?_
          refine sm_T_ri rfl ⟨_, _, rfl, _, rfl, hIx57_, hFx58_, ?_⟩
          refine ⟨⟨by omega, by omega⟩, jR_fr hJ_ hIx57_ hFx58_⟩
  · have cx7_ : ¬ (vx6_ ≠ 0) := of_decide_eq_false cx7_
    have hIx59_ : gi (sm_pI S0_ 13 0 0 1) := gi_pI hI_ (show 0 ≤ 1 ∧ 1 ≤ 4 from ⟨by omega, by omega⟩)
    have hFx60_ : ai_fr (sx_W vw_479) S0_ (sm_pI S0_ 13 0 0 1) := ai_fr_tr hF_ (ai_fr_pI rfl)
    refine sm_T_go 7 (c1 := (86, [some (.inr (.inr (some (13, 0)))), some (.inl a1_), some (.inl a2_), some (.inl a3_), some (.inl a4_), some (.inl a5_), some (.inl a6_)], [.inl 0], sm_pI S0_ 13 0 0 1)) rfl ?_
    refine sm_T_ri rfl ⟨_, _, rfl, _, rfl, hIx59_, hFx60_, ?_⟩
    refine ⟨⟨by omega, by omega⟩, jR_fr hJ_ hIx59_ hFx60_⟩
/-! M_.erase -/
def vw_480 : sx_Wl := ([(13, 0)], [264, 265], [])
def vq_480 (a1_ : Int) (a2_ : Int) (S0_ : sm_S) (u_ : Option sm_V) (S1_ : sm_S) : Prop := ∃ v_ : Int, u_ = some (.inl v_) ∧ gi S1_ ∧ ai_fr (sx_W vw_480) S0_ S1_ ∧ ((-2147483648 ≤ v_ ∧ v_ ≤ 2147483647) ∧ jR S1_)
set_option maxHeartbeats 400000 in
set_option maxRecDepth 20000 in
theorem vl_480 {sc_ : Nat × (Nat → Int)} (a1_ : Int) (a2_ : Int) (S0_ : sm_S) (ha1_ : (-2147483648) ≤ a1_ ∧ a1_ ≤ 2147483647) (ha2_ : (-2147483648) ≤ a2_ ∧ a2_ ≤ 2147483647) (hJ_ : jR S0_) : ∀ nn_ : Nat, (∀ (k_ : Int) (S_ : sm_S), gi S_ → ai_fr (sx_W vw_480) S0_ S_ → ((0 ≤ a1_ ∧ a1_ < 4 ∧ 0 ≤ k_ ∧ S_.2.2.1 264 0 a1_.toNat ≤ 1999 ∧ k_ ≤ 40000) ∧ True) → ((90000 - k_).toNat) < nn_ → sm_T (mt_P sc_) 2 480 (81, [some (.inr (.inr (some (13, 0)))), some (.inl a1_), some (.inl a2_), some (.inl k_)], [], S_) (fun ro9_ => ∃ u_ S1_, ro9_ = (.inl u_, S1_, 0) ∧ vq_480 a1_ a2_ S0_ u_ S1_)) := by
  intro nn_
  induction nn_ with
  | zero => exact fun _ _ _ _ _ h_ => absurd h_ (Nat.not_lt_zero _)
  | succ nn_ ih_ =>
    rintro k_ S_ hI_ hF_ ⟨h0_, -⟩ hm_
    have c9_ : 0 ≤ S_.2.2.1 264 0 a1_.toNat := (hI_.2 264 0 _).1
    refine sm_T_go 4 (c1 := (87, [some (.inr (.inr (some (13, 0)))), some (.inl a1_), some (.inl a2_), some (.inl k_)], [.inl a1_, .inl 2000, .inl 5, .inl k_], S_)) rfl ?_
    refine sm_T_bin (w := 2000 * a1_) rfl (bi_mul (by omega) (by omega) (by omega)) ?_ -- pc_ 87
    refine sm_T_go 3 (c1 := (93, [some (.inr (.inr (some (13, 0)))), some (.inl a1_), some (.inl a2_), some (.inl k_)], [.inl a1_, .inr (.inr (some (264, 0))), .inl (2000 * a1_), .inl 5, .inl k_], S_)) rfl ?_
    refine sm_T_iald (n := 4) rfl rfl (by omega) (by omega) ?_
    have bx1_ : 0 ≤ S_.2.2.1 264 0 a1_.toNat ∧ S_.2.2.1 264 0 a1_.toNat ≤ 2000 := hI_.2 264 0 _
    refine sm_T_bin (w := 2000 * a1_ + (S_.2.2.1 264 0 a1_.toNat)) rfl (bi_add (by omega) (by omega) (by omega)) ?_ -- pc_ 94
    refine sm_T_bin (w := 10000 * a1_ + 5 * (S_.2.2.1 264 0 a1_.toNat)) rfl (bi_mul (by omega) (by omega) (by omega)) ?_ -- pc_ 95
    refine sm_T_br (a := 3) (z := 23) rfl (fun cx2_ => ?_) (fun cx2_ => ?_)
    · have cx2_ : 10000 * a1_ + 5 * (S_.2.2.1 264 0 a1_.toNat) ≤ k_ := of_decide_eq_true cx2_
      refine sm_T_go 3 (c1 := (124, [some (.inr (.inr (some (13, 0)))), some (.inl a1_), some (.inl a2_), some (.inl k_)], [.inl a1_, .inr (.inr (some (264, 0)))], S_)) rfl ?_
      refine sm_T_iald (n := 4) rfl rfl (by omega) (by omega) ?_
      refine sm_T_ri rfl ⟨_, _, rfl, _, rfl, hI_, hF_, ?_⟩
      exact ⟨⟨by omega, by omega⟩, jR_fr hJ_ hI_ hF_⟩
    · have cx2_ : ¬ (10000 * a1_ + 5 * (S_.2.2.1 264 0 a1_.toNat) ≤ k_) := of_decide_eq_false cx2_
      refine sm_T_go 7 (c1 := (110, [some (.inr (.inr (some (13, 0)))), some (.inl a1_), some (.inl a2_), some (.inl k_)], [.inl 5, .inl k_, .inr (.inr (some (265, 0))), .inl k_, .inr (.inr (some (265, 0)))], S_)) rfl ?_
      refine sm_T_bin (w := k_ + 5) rfl (bi_add (by omega) (by omega) (by omega)) ?_ -- pc_ 110
      refine sm_T_iald (n := 40000) rfl rfl (by omega) (by omega) ?_
      have bx3_ : (-1000) ≤ S_.2.2.1 265 0 (k_ + 5).toNat ∧ S_.2.2.1 265 0 (k_ + 5).toNat ≤ 1000 := hI_.2 265 0 _
      refine sm_T_iast (n := 40000) rfl rfl (by omega) (by omega) ?_
      have hIx4_ : gi (sm_aI S_ 265 0 k_.toNat (S_.2.2.1 265 0 (k_ + 5).toNat)) := gi_aI hI_ (show (-1000) ≤ (S_.2.2.1 265 0 (k_ + 5).toNat) ∧ (S_.2.2.1 265 0 (k_ + 5).toNat) ≤ 1000 from ⟨by omega, by omega⟩)
      have hFx5_ : ai_fr (sx_W vw_480) S0_ (sm_aI S_ 265 0 k_.toNat (S_.2.2.1 265 0 (k_ + 5).toNat)) := ai_fr_tr hF_ (ai_fr_aI rfl)
      refine sm_T_inc (a := 3) (z := 1) (v := k_) (w := k_ + 1) rfl rfl (by omega) (by omega) (by omega) ?_ -- pc_ 113
      refine sm_T_go 1 (c1 := (81, [some (.inr (.inr (some (13, 0)))), some (.inl a1_), some (.inl a2_), some (.inl (k_ + 1))], [], sm_aI S_ 265 0 k_.toNat (S_.2.2.1 265 0 (k_ + 5).toNat))) rfl ?_
      refine ih_ (k_ + 1) (sm_aI S_ 265 0 k_.toNat (S_.2.2.1 265 0 (k_ + 5).toNat)) hIx4_ hFx5_ ⟨?_, trivial⟩ ?_
      · ((try simp only [rd_eq, rd_ne, rf_eq, rf_nk, rf_nt, rd_fa, rd_af, rd_fl, rd_al, rd_lf, rd_la, rd_leq, rd_lne, rd_fr, rd_ar, ne_eq, Nat.reduceEqDiff, not_false_eq_true]); omega)
      · omega
set_option maxHeartbeats 400000 in
set_option maxRecDepth 20000 in
theorem vc_480 {sc_ : Nat × (Nat → Int)} (a1_ : Int) (a2_ : Int) (S0_ : sm_S) (hI_ : gi S0_) (ha1_ : (-2147483648) ≤ a1_ ∧ a1_ ≤ 2147483647) (ha2_ : (-2147483648) ≤ a2_ ∧ a2_ ≤ 2147483647) (hJ_ : jR S0_) : sm_T (mt_P sc_) 2 480 (0, [some (.inr (.inr (some (13, 0)))), some (.inl a1_), some (.inl a2_), none], [], S0_) (fun ro9_ => ∃ u_ S1_, ro9_ = (.inl u_, S1_, 0) ∧ vq_480 a1_ a2_ S0_ u_ S1_) := by
  have hF_ : ai_fr (sx_W vw_480) S0_ S0_ := ai_fr_rf
  refine sm_T_go 3 (c1 := (3, [some (.inr (.inr (some (13, 0)))), some (.inl a1_), some (.inl a2_), none], [.inl a1_, .inr (.inr (some (13, 0))), .inr (.inr (some (13, 0)))], S0_)) rfl ?_
  refine sm_T_cal (d1 := 0) (Q1 := vq_371 a1_ S0_) rfl rfl (by decide) (vc_371 a1_ S0_ hI_ (by omega)) (fun u_ Sx1_ px4_ => ?_)
  obtain ⟨rfl, vx6_, rfl, px4_⟩ := px4_
  have d3_ := px4_
  refine sm_T_b0 (a := 0) (z := 25) rfl (fun cx7_ => ?_) (fun cx7_ => ?_)
  · have cx7_ : vx6_ = 0 := of_decide_eq_true cx7_
    have hIx8_ : gi (sm_pI S0_ 13 0 0 1) := gi_pI hI_ (show 0 ≤ 1 ∧ 1 ≤ 4 from ⟨by omega, by omega⟩)
    have hFx9_ : ai_fr (sx_W vw_480) S0_ (sm_pI S0_ 13 0 0 1) := ai_fr_tr hF_ (ai_fr_pI rfl)
    refine sm_T_go 7 (c1 := (60, [some (.inr (.inr (some (13, 0)))), some (.inl a1_), some (.inl a2_), none], [.inl 0], sm_pI S0_ 13 0 0 1)) rfl ?_
    refine sm_T_ri rfl ⟨_, _, rfl, _, rfl, hIx8_, hFx9_, ?_⟩
    exact ⟨⟨by omega, by omega⟩, jR_fr hJ_ hIx8_ hFx9_⟩
  · have cx7_ : ¬ (vx6_ = 0) := of_decide_eq_false cx7_
    refine sm_T_go 1 (c1 := (10, [some (.inr (.inr (some (13, 0)))), some (.inl a1_), some (.inl a2_), none], [.inl a2_, .inr (.inr (some (13, 0)))], S0_)) rfl ?_
    refine sm_T_b0 (a := 2) (z := 21) rfl (fun cx10_ => ?_) (fun cx10_ => ?_)
    · have cx10_ : a2_ < 0 := of_decide_eq_true cx10_
      have hIx11_ : gi (sm_pI S0_ 13 0 0 1) := gi_pI hI_ (show 0 ≤ 1 ∧ 1 ≤ 4 from ⟨by omega, by omega⟩)
      have hFx12_ : ai_fr (sx_W vw_480) S0_ (sm_pI S0_ 13 0 0 1) := ai_fr_tr hF_ (ai_fr_pI rfl)
      refine sm_T_go 7 (c1 := (60, [some (.inr (.inr (some (13, 0)))), some (.inl a1_), some (.inl a2_), none], [.inl 0], sm_pI S0_ 13 0 0 1)) rfl ?_
      refine sm_T_ri rfl ⟨_, _, rfl, _, rfl, hIx11_, hFx12_, ?_⟩
      exact ⟨⟨by omega, by omega⟩, jR_fr hJ_ hIx11_ hFx12_⟩
    · have cx10_ : ¬ (a2_ < 0) := of_decide_eq_false cx10_
      refine sm_T_go 3 (c1 := (18, [some (.inr (.inr (some (13, 0)))), some (.inl a1_), some (.inl a2_), none], [.inl a1_, .inr (.inr (some (263, 0))), .inr (.inr (some (13, 0)))], S0_)) rfl ?_
      refine sm_T_zald (n := 4) rfl rfl (by omega) (by omega) ?_
      have bx13_ : 0 ≤ S0_.2.2.1 263 0 a1_.toNat ∧ S0_.2.2.1 263 0 a1_.toNat ≤ 1 := hI_.2 263 0 _
      refine sm_T_b0 (a := 0) (z := 16) rfl (fun cx14_ => ?_) (fun cx14_ => ?_)
      · have cx14_ : (S0_.2.2.1 263 0 a1_.toNat) = 0 := of_decide_eq_true cx14_
        refine sm_T_go 3 (c1 := (40, [some (.inr (.inr (some (13, 0)))), some (.inl a1_), some (.inl a2_), none], [.inl a1_, .inr (.inr (some (263, 0))), .inr (.inr (some (13, 0)))], S0_)) rfl ?_
        refine sm_T_zald (n := 4) rfl rfl (by omega) (by omega) ?_
        refine sm_T_b0 (a := 1) (z := 7) rfl (fun cx15_ => ?_) (fun cx15_ => ?_)
        · have cx15_ : (S0_.2.2.1 263 0 a1_.toNat) ≠ 0 := of_decide_eq_true cx15_
          exfalso; omega
        · have cx15_ : ¬ ((S0_.2.2.1 263 0 a1_.toNat) ≠ 0) := of_decide_eq_false cx15_
          have hIx16_ : gi (sm_pI S0_ 13 0 0 2) := gi_pI hI_ (show 0 ≤ 2 ∧ 2 ≤ 4 from ⟨by omega, by omega⟩)
          have hFx17_ : ai_fr (sx_W vw_480) S0_ (sm_pI S0_ 13 0 0 2) := ai_fr_tr hF_ (ai_fr_pI rfl)
          refine sm_T_go 7 (c1 := (60, [some (.inr (.inr (some (13, 0)))), some (.inl a1_), some (.inl a2_), none], [.inl 0], sm_pI S0_ 13 0 0 2)) rfl ?_
          refine sm_T_ri rfl ⟨_, _, rfl, _, rfl, hIx16_, hFx17_, ?_⟩
          exact ⟨⟨by omega, by omega⟩, jR_fr hJ_ hIx16_ hFx17_⟩
      · have cx14_ : ¬ ((S0_.2.2.1 263 0 a1_.toNat) = 0) := of_decide_eq_false cx14_
        refine sm_T_go 3 (c1 := (25, [some (.inr (.inr (some (13, 0)))), some (.inl a1_), some (.inl a2_), none], [.inl a2_, .inl a1_, .inr (.inr (some (13, 0))), .inr (.inr (some (13, 0)))], S0_)) rfl ?_
        refine sm_T_cal (d1 := 1) (Q1 := vq_475 a1_ a2_ S0_) rfl rfl (by decide) (vc_475 a1_ a2_ S0_ hI_ (by omega) (by omega)) (fun u_ Sx18_ px21_ => ?_)
        obtain ⟨rfl, vx23_, rfl, px21_⟩ := px21_
        have e25_ := px21_
        refine sm_T_b0 (a := 1) (z := 7) rfl (fun cx24_ => ?_) (fun cx24_ => ?_)
        · have cx24_ : vx23_ ≠ 0 := of_decide_eq_true cx24_
          refine sm_T_go 3 (c1 := (40, [some (.inr (.inr (some (13, 0)))), some (.inl a1_), some (.inl a2_), none], [.inl a1_, .inr (.inr (some (263, 0))), .inr (.inr (some (13, 0)))], S0_)) rfl ?_
          refine sm_T_zald (n := 4) rfl rfl (by omega) (by omega) ?_
          refine sm_T_b0 (a := 1) (z := 7) rfl (fun cx25_ => ?_) (fun cx25_ => ?_)
          · have cx25_ : (S0_.2.2.1 263 0 a1_.toNat) ≠ 0 := of_decide_eq_true cx25_
            have hIx26_ : gi (sm_pI S0_ 13 0 0 0) := gi_pI hI_ (show 0 ≤ 0 ∧ 0 ≤ 4 from ⟨by omega, by omega⟩)
            have hFx27_ : ai_fr (sx_W vw_480) S0_ (sm_pI S0_ 13 0 0 0) := ai_fr_tr hF_ (ai_fr_pI rfl)
            refine sm_T_go 9 (c1 := (67, [some (.inr (.inr (some (13, 0)))), some (.inl a1_), some (.inl a2_), none], [.inl a1_, .inr (.inr (some (264, 0))), .inl a1_, .inr (.inr (some (264, 0)))], sm_pI S0_ 13 0 0 0)) rfl ?_
            refine sm_T_iald (n := 4) rfl rfl (by omega) (by omega) ?_
            have bx28_ : 0 ≤ S0_.2.2.1 264 0 a1_.toNat ∧ S0_.2.2.1 264 0 a1_.toNat ≤ 2000 := hI_.2 264 0 _
            refine sm_T_go 1 (c1 := (69, [some (.inr (.inr (some (13, 0)))), some (.inl a1_), some (.inl a2_), none], [.inl 1, .inl (S0_.2.2.1 264 0 a1_.toNat), .inl a1_, .inr (.inr (some (264, 0)))], sm_pI S0_ 13 0 0 0)) rfl ?_
            refine sm_T_bin (w := (S0_.2.2.1 264 0 a1_.toNat) - 1) rfl (bi_sub (by omega) (by omega) (by omega)) ?_ -- pc_ 69
            refine sm_T_iast (n := 4) rfl rfl (by omega) (by omega) ?_
            have hIx29_ : gi (sm_aI (sm_pI S0_ 13 0 0 0) 264 0 a1_.toNat ((S0_.2.2.1 264 0 a1_.toNat) - 1)) := gi_aI hIx26_ (show 0 ≤ (S0_.2.2.1 264 0 a1_.toNat) - 1 ∧ (S0_.2.2.1 264 0 a1_.toNat) - 1 ≤ 2000 from ⟨by omega, by omega⟩)
            have hFx30_ : ai_fr (sx_W vw_480) S0_ (sm_aI (sm_pI S0_ 13 0 0 0) 264 0 a1_.toNat ((S0_.2.2.1 264 0 a1_.toNat) - 1)) := ai_fr_tr hFx27_ (ai_fr_aI rfl)
            refine sm_T_go 3 (c1 := (76, [some (.inr (.inr (some (13, 0)))), some (.inl a1_), some (.inl a2_), none], [.inl a1_, .inl 2000, .inl 5], sm_aI (sm_pI S0_ 13 0 0 0) 264 0 a1_.toNat ((S0_.2.2.1 264 0 a1_.toNat) - 1))) rfl ?_
            refine sm_T_bin (w := 2000 * a1_) rfl (bi_mul (by omega) (by omega) (by omega)) ?_ -- pc_ 76
            refine sm_T_go 1 (c1 := (78, [some (.inr (.inr (some (13, 0)))), some (.inl a1_), some (.inl a2_), none], [.inl a2_, .inl (2000 * a1_), .inl 5], sm_aI (sm_pI S0_ 13 0 0 0) 264 0 a1_.toNat ((S0_.2.2.1 264 0 a1_.toNat) - 1))) rfl ?_
            refine sm_T_bin (w := 2000 * a1_ + a2_) rfl (bi_add (by omega) (by omega) (by omega)) ?_ -- pc_ 78
            refine sm_T_bin (w := 10000 * a1_ + 5 * a2_) rfl (bi_mul (by omega) (by omega) (by omega)) ?_ -- pc_ 79
            refine sm_T_go 1 (c1 := (81, [some (.inr (.inr (some (13, 0)))), some (.inl a1_), some (.inl a2_), some (.inl (10000 * a1_ + 5 * a2_))], [], sm_aI (sm_pI S0_ 13 0 0 0) 264 0 a1_.toNat ((S0_.2.2.1 264 0 a1_.toNat) - 1))) rfl ?_
            refine (vl_480 a1_ a2_ S0_ ha1_ ha2_ hJ_ _) (10000 * a1_ + 5 * a2_) (sm_aI (sm_pI S0_ 13 0 0 0) 264 0 a1_.toNat ((S0_.2.2.1 264 0 a1_.toNat) - 1)) hIx29_ hFx30_ ⟨?_, trivial⟩ (Nat.lt_succ_self _)
            · (rw [rd_eq, if_pos rfl]; have c9_ : 0 ≤ S0_.2.2.1 264 0 a1_.toNat ∧ S0_.2.2.1 264 0 a1_.toNat ≤ 2000 := hI_.2 264 0 _; omega)
          · have cx25_ : ¬ ((S0_.2.2.1 263 0 a1_.toNat) ≠ 0) := of_decide_eq_false cx25_
            have hIx31_ : gi (sm_pI S0_ 13 0 0 2) := gi_pI hI_ (show 0 ≤ 2 ∧ 2 ≤ 4 from ⟨by omega, by omega⟩)
            have hFx32_ : ai_fr (sx_W vw_480) S0_ (sm_pI S0_ 13 0 0 2) := ai_fr_tr hF_ (ai_fr_pI rfl)
            refine sm_T_go 7 (c1 := (60, [some (.inr (.inr (some (13, 0)))), some (.inl a1_), some (.inl a2_), none], [.inl 0], sm_pI S0_ 13 0 0 2)) rfl ?_
            refine sm_T_ri rfl ⟨_, _, rfl, _, rfl, hIx31_, hFx32_, ?_⟩
            exact ⟨⟨by omega, by omega⟩, jR_fr hJ_ hIx31_ hFx32_⟩
        · have cx24_ : ¬ (vx23_ ≠ 0) := of_decide_eq_false cx24_
          have hIx33_ : gi (sm_pI S0_ 13 0 0 1) := gi_pI hI_ (show 0 ≤ 1 ∧ 1 ≤ 4 from ⟨by omega, by omega⟩)
          have hFx34_ : ai_fr (sx_W vw_480) S0_ (sm_pI S0_ 13 0 0 1) := ai_fr_tr hF_ (ai_fr_pI rfl)
          refine sm_T_go 7 (c1 := (60, [some (.inr (.inr (some (13, 0)))), some (.inl a1_), some (.inl a2_), none], [.inl 0], sm_pI S0_ 13 0 0 1)) rfl ?_
          refine sm_T_ri rfl ⟨_, _, rfl, _, rfl, hIx33_, hFx34_, ?_⟩
          exact ⟨⟨by omega, by omega⟩, jR_fr hJ_ hIx33_ hFx34_⟩
/-! M_.gap -/
def vw_481 : sx_Wl := ([], [], [])
def vq_481 (c_ : Int) (a_ : Int) (b_ : Int) (k_ : Int) (S0_ : sm_S) (u_ : Option sm_V) (S1_ : sm_S) : Prop := S0_ = S1_ ∧ ∃ v_ : Int, u_ = some (.inl v_) ∧ (((-2147483648) ≤ v_ ∧ v_ ≤ 2147483647) ∧ (-4000 ≤ v_ ∧ v_ ≤ 4000))
set_option maxHeartbeats 400000 in
set_option maxRecDepth 20000 in
theorem vc_481 {sc_ : Nat × (Nat → Int)} (c_ : Int) (a_ : Int) (b_ : Int) (k_ : Int) (S0_ : sm_S) (hI_ : gi S0_) (hc_ : 0 ≤ c_ ∧ c_ ≤ 3) (ha_ : 0 ≤ a_ ∧ a_ ≤ 1999) (hb_ : 0 ≤ b_ ∧ b_ ≤ 1999) (hk_ : 1 ≤ k_ ∧ k_ ≤ 2) : sm_T (mt_P sc_) 1 481 (0, [some (.inr (.inr (some (13, 0)))), some (.inl c_), some (.inl a_), some (.inl b_), some (.inl k_), none, none], [], S0_) (fun ro9_ => ∃ u_ S1_, ro9_ = (.inl u_, S1_, 0) ∧ vq_481 c_ a_ b_ k_ S0_ u_ S1_) := by
  have hF_ : ai_fr (sx_W vw_481) S0_ S0_ := ai_fr_rf
  refine sm_T_go 4 (c1 := (5, [some (.inr (.inr (some (13, 0)))), some (.inl c_), some (.inl a_), some (.inl b_), some (.inl k_), none, none], [.inl k_, .inl a_, .inl c_, .inr (.inr (some (13, 0)))], S0_)) rfl ?_
  refine sm_T_cal (d1 := 0) (Q1 := vq_476 c_ a_ k_ S0_) rfl rfl (by decide) (vc_476 c_ a_ k_ S0_ hI_ (by omega) (by omega) (by omega)) (fun u_ Sx1_ px4_ => ?_)
  obtain ⟨rfl, vx6_, rfl, px4_⟩ := px4_
  refine sm_T_go 4 (c1 := (13, [some (.inr (.inr (some (13, 0)))), some (.inl c_), some (.inl a_), some (.inl b_), some (.inl k_), none, none], [.inl k_, .inl b_, .inl c_, .inr (.inr (some (13, 0))), .inl vx6_], S0_)) rfl ?_
  refine sm_T_cal (d1 := 0) (Q1 := vq_476 c_ b_ k_ S0_) rfl rfl (by decide) (vc_476 c_ b_ k_ S0_ hI_ (by omega) (by omega) (by omega)) (fun u_ Sx7_ px10_ => ?_)
  obtain ⟨rfl, vx12_, rfl, px10_⟩ := px10_
  refine sm_T_br (a := 5) (z := 14) rfl (fun cx13_ => ?_) (fun cx13_ => ?_)
  · have cx13_ : vx6_ ≤ vx12_ := of_decide_eq_true cx13_
    refine sm_T_go 4 (c1 := (35, [some (.inr (.inr (some (13, 0)))), some (.inl c_), some (.inl a_), some (.inl b_), some (.inl k_), none, none], [.inl k_, .inl b_, .inl c_, .inr (.inr (some (13, 0)))], S0_)) rfl ?_
    refine sm_T_cal (d1 := 0) (Q1 := vq_476 c_ b_ k_ S0_) rfl rfl (by decide) (vc_476 c_ b_ k_ S0_ hI_ (by omega) (by omega) (by omega)) (fun u_ Sx14_ px17_ => ?_)
    obtain ⟨rfl, vx19_, rfl, px17_⟩ := px17_
    refine sm_T_go 6 (c1 := (46, [some (.inr (.inr (some (13, 0)))), some (.inl c_), some (.inl a_), some (.inl b_), some (.inl k_), some (.inl vx19_), none], [.inl 2, .inl k_, .inl a_, .inl c_, .inr (.inr (some (13, 0)))], S0_)) rfl ?_
    refine sm_T_bin (w := k_ + 2) rfl (bi_add (by omega) (by omega) (by omega)) ?_ -- pc_ 46
    refine sm_T_cal (d1 := 0) (Q1 := vq_476 c_ a_ (k_ + 2) S0_) rfl rfl (by decide) (vc_476 c_ a_ (k_ + 2) S0_ hI_ (by omega) (by omega) (by omega)) (fun u_ Sx20_ px23_ => ?_)
    obtain ⟨rfl, vx25_, rfl, px23_⟩ := px23_
    refine sm_T_go 5 (c1 := (56, [some (.inr (.inr (some (13, 0)))), some (.inl c_), some (.inl a_), some (.inl b_), some (.inl k_), some (.inl vx19_), none], [.inl 2, .inl k_, .inl b_, .inl c_, .inr (.inr (some (13, 0))), .inl vx25_], S0_)) rfl ?_
    refine sm_T_bin (w := k_ + 2) rfl (bi_add (by omega) (by omega) (by omega)) ?_ -- pc_ 56
    refine sm_T_cal (d1 := 0) (Q1 := vq_476 c_ b_ (k_ + 2) S0_) rfl rfl (by decide) (vc_476 c_ b_ (k_ + 2) S0_ hI_ (by omega) (by omega) (by omega)) (fun u_ Sx26_ px29_ => ?_)
    obtain ⟨rfl, vx31_, rfl, px29_⟩ := px29_
    refine sm_T_br (a := 3) (z := 16) rfl (fun cx32_ => ?_) (fun cx32_ => ?_)
    · have cx32_ : vx31_ ≤ vx25_ := of_decide_eq_true cx32_
      refine sm_T_go 5 (c1 := (82, [some (.inr (.inr (some (13, 0)))), some (.inl c_), some (.inl a_), some (.inl b_), some (.inl k_), some (.inl vx19_), none], [.inl 2, .inl k_, .inl b_, .inl c_, .inr (.inr (some (13, 0)))], S0_)) rfl ?_
      refine sm_T_bin (w := k_ + 2) rfl (bi_add (by omega) (by omega) (by omega)) ?_ -- pc_ 82
      refine sm_T_cal (d1 := 0) (Q1 := vq_476 c_ b_ (k_ + 2) S0_) rfl rfl (by decide) (vc_476 c_ b_ (k_ + 2) S0_ hI_ (by omega) (by omega) (by omega)) (fun u_ Sx33_ px36_ => ?_)
      obtain ⟨rfl, vx38_, rfl, px36_⟩ := px36_
      refine sm_T_go 3 (c1 := (92, [some (.inr (.inr (some (13, 0)))), some (.inl c_), some (.inl a_), some (.inl b_), some (.inl k_), some (.inl vx19_), some (.inl vx38_)], [.inl vx38_, .inl vx19_], S0_)) rfl ?_
      refine sm_T_bin (w := vx19_ - vx38_) rfl (bi_sub (by omega) (by omega) (by omega)) ?_ -- pc_ 92
      refine sm_T_ri rfl ⟨_, _, rfl, rfl, _, rfl, ?_⟩
      omega
    · have cx32_ : ¬ (vx31_ ≤ vx25_) := of_decide_eq_false cx32_
      refine sm_T_go 5 (c1 := (69, [some (.inr (.inr (some (13, 0)))), some (.inl c_), some (.inl a_), some (.inl b_), some (.inl k_), some (.inl vx19_), none], [.inl 2, .inl k_, .inl a_, .inl c_, .inr (.inr (some (13, 0)))], S0_)) rfl ?_
      refine sm_T_bin (w := k_ + 2) rfl (bi_add (by omega) (by omega) (by omega)) ?_ -- pc_ 69
      refine sm_T_cal (d1 := 0) (Q1 := vq_476 c_ a_ (k_ + 2) S0_) rfl rfl (by decide) (vc_476 c_ a_ (k_ + 2) S0_ hI_ (by omega) (by omega) (by omega)) (fun u_ Sx39_ px42_ => ?_)
      obtain ⟨rfl, vx44_, rfl, px42_⟩ := px42_
      refine sm_T_go 4 (c1 := (92, [some (.inr (.inr (some (13, 0)))), some (.inl c_), some (.inl a_), some (.inl b_), some (.inl k_), some (.inl vx19_), some (.inl vx44_)], [.inl vx44_, .inl vx19_], S0_)) rfl ?_
      refine sm_T_bin (w := vx19_ - vx44_) rfl (bi_sub (by omega) (by omega) (by omega)) ?_ -- pc_ 92
      refine sm_T_ri rfl ⟨_, _, rfl, rfl, _, rfl, ?_⟩
      omega
  · have cx13_ : ¬ (vx6_ ≤ vx12_) := of_decide_eq_false cx13_
    refine sm_T_go 4 (c1 := (24, [some (.inr (.inr (some (13, 0)))), some (.inl c_), some (.inl a_), some (.inl b_), some (.inl k_), none, none], [.inl k_, .inl a_, .inl c_, .inr (.inr (some (13, 0)))], S0_)) rfl ?_
    refine sm_T_cal (d1 := 0) (Q1 := vq_476 c_ a_ k_ S0_) rfl rfl (by decide) (vc_476 c_ a_ k_ S0_ hI_ (by omega) (by omega) (by omega)) (fun u_ Sx45_ px48_ => ?_)
    obtain ⟨rfl, vx50_, rfl, px48_⟩ := px48_
    refine sm_T_go 7 (c1 := (46, [some (.inr (.inr (some (13, 0)))), some (.inl c_), some (.inl a_), some (.inl b_), some (.inl k_), some (.inl vx50_), none], [.inl 2, .inl k_, .inl a_, .inl c_, .inr (.inr (some (13, 0)))], S0_)) rfl ?_
    refine sm_T_bin (w := k_ + 2) rfl (bi_add (by omega) (by omega) (by omega)) ?_ -- pc_ 46
    refine sm_T_cal (d1 := 0) (Q1 := vq_476 c_ a_ (k_ + 2) S0_) rfl rfl (by decide) (vc_476 c_ a_ (k_ + 2) S0_ hI_ (by omega) (by omega) (by omega)) (fun u_ Sx51_ px54_ => ?_)
    obtain ⟨rfl, vx56_, rfl, px54_⟩ := px54_
    refine sm_T_go 5 (c1 := (56, [some (.inr (.inr (some (13, 0)))), some (.inl c_), some (.inl a_), some (.inl b_), some (.inl k_), some (.inl vx50_), none], [.inl 2, .inl k_, .inl b_, .inl c_, .inr (.inr (some (13, 0))), .inl vx56_], S0_)) rfl ?_
    refine sm_T_bin (w := k_ + 2) rfl (bi_add (by omega) (by omega) (by omega)) ?_ -- pc_ 56
    refine sm_T_cal (d1 := 0) (Q1 := vq_476 c_ b_ (k_ + 2) S0_) rfl rfl (by decide) (vc_476 c_ b_ (k_ + 2) S0_ hI_ (by omega) (by omega) (by omega)) (fun u_ Sx57_ px60_ => ?_)
    obtain ⟨rfl, vx62_, rfl, px60_⟩ := px60_
    refine sm_T_br (a := 3) (z := 16) rfl (fun cx63_ => ?_) (fun cx63_ => ?_)
    · have cx63_ : vx62_ ≤ vx56_ := of_decide_eq_true cx63_
      refine sm_T_go 5 (c1 := (82, [some (.inr (.inr (some (13, 0)))), some (.inl c_), some (.inl a_), some (.inl b_), some (.inl k_), some (.inl vx50_), none], [.inl 2, .inl k_, .inl b_, .inl c_, .inr (.inr (some (13, 0)))], S0_)) rfl ?_
      refine sm_T_bin (w := k_ + 2) rfl (bi_add (by omega) (by omega) (by omega)) ?_ -- pc_ 82
      refine sm_T_cal (d1 := 0) (Q1 := vq_476 c_ b_ (k_ + 2) S0_) rfl rfl (by decide) (vc_476 c_ b_ (k_ + 2) S0_ hI_ (by omega) (by omega) (by omega)) (fun u_ Sx64_ px67_ => ?_)
      obtain ⟨rfl, vx69_, rfl, px67_⟩ := px67_
      refine sm_T_go 3 (c1 := (92, [some (.inr (.inr (some (13, 0)))), some (.inl c_), some (.inl a_), some (.inl b_), some (.inl k_), some (.inl vx50_), some (.inl vx69_)], [.inl vx69_, .inl vx50_], S0_)) rfl ?_
      refine sm_T_bin (w := vx50_ - vx69_) rfl (bi_sub (by omega) (by omega) (by omega)) ?_ -- pc_ 92
      refine sm_T_ri rfl ⟨_, _, rfl, rfl, _, rfl, ?_⟩
      omega
    · have cx63_ : ¬ (vx62_ ≤ vx56_) := of_decide_eq_false cx63_
      refine sm_T_go 5 (c1 := (69, [some (.inr (.inr (some (13, 0)))), some (.inl c_), some (.inl a_), some (.inl b_), some (.inl k_), some (.inl vx50_), none], [.inl 2, .inl k_, .inl a_, .inl c_, .inr (.inr (some (13, 0)))], S0_)) rfl ?_
      refine sm_T_bin (w := k_ + 2) rfl (bi_add (by omega) (by omega) (by omega)) ?_ -- pc_ 69
      refine sm_T_cal (d1 := 0) (Q1 := vq_476 c_ a_ (k_ + 2) S0_) rfl rfl (by decide) (vc_476 c_ a_ (k_ + 2) S0_ hI_ (by omega) (by omega) (by omega)) (fun u_ Sx70_ px73_ => ?_)
      obtain ⟨rfl, vx75_, rfl, px73_⟩ := px73_
      refine sm_T_go 4 (c1 := (92, [some (.inr (.inr (some (13, 0)))), some (.inl c_), some (.inl a_), some (.inl b_), some (.inl k_), some (.inl vx50_), some (.inl vx75_)], [.inl vx75_, .inl vx50_], S0_)) rfl ?_
      refine sm_T_bin (w := vx50_ - vx75_) rfl (bi_sub (by omega) (by omega) (by omega)) ?_ -- pc_ 92
      refine sm_T_ri rfl ⟨_, _, rfl, rfl, _, rfl, ?_⟩
      omega
/-! M_.areMet -/
def vw_482 : sx_Wl := ([], [], [])
def vq_482 (c_ : Int) (a_ : Int) (b_ : Int) (S0_ : sm_S) (u_ : Option sm_V) (S1_ : sm_S) : Prop := S0_ = S1_ ∧ ∃ v_ : Int, u_ = some (.inl v_) ∧ (((-2147483648) ≤ v_ ∧ v_ ≤ 2147483647) ∧ (v_ = 0 ∨ v_ = 1))
set_option maxHeartbeats 400000 in
set_option maxRecDepth 20000 in
theorem vc_482 {sc_ : Nat × (Nat → Int)} (c_ : Int) (a_ : Int) (b_ : Int) (S0_ : sm_S) (hI_ : gi S0_) (hc_ : 0 ≤ c_ ∧ c_ ≤ 3) (ha_ : 0 ≤ a_ ∧ a_ ≤ 1999) (hb_ : 0 ≤ b_ ∧ b_ ≤ 1999) : sm_T (mt_P sc_) 2 482 (0, [some (.inr (.inr (some (13, 0)))), some (.inl c_), some (.inl a_), some (.inl b_)], [], S0_) (fun ro9_ => ∃ u_ S1_, ro9_ = (.inl u_, S1_, 0) ∧ vq_482 c_ a_ b_ S0_ u_ S1_) := by
  have hF_ : ai_fr (sx_W vw_482) S0_ S0_ := ai_fr_rf
  refine sm_T_go 5 (c1 := (5, [some (.inr (.inr (some (13, 0)))), some (.inl c_), some (.inl a_), some (.inl b_)], [.inl 1, .inl b_, .inl a_, .inl c_, .inr (.inr (some (13, 0)))], S0_)) rfl ?_
  refine sm_T_cal (d1 := 1) (Q1 := vq_481 c_ a_ b_ 1 S0_) rfl rfl (by decide) (vc_481 c_ a_ b_ 1 S0_ hI_ (by omega) (by omega) (by omega) (by omega)) (fun u_ Sx1_ px4_ => ?_)
  obtain ⟨rfl, vx6_, rfl, px4_⟩ := px4_
  refine sm_T_b0 (a := 4) (z := 18) rfl (fun cx7_ => ?_) (fun cx7_ => ?_)
  · have cx7_ : 0 < vx6_ := of_decide_eq_true cx7_
    refine sm_T_go 1 (c1 := (27, [some (.inr (.inr (some (13, 0)))), some (.inl c_), some (.inl a_), some (.inl b_)], [.inl 0], S0_)) rfl ?_
    refine sm_T_rz rfl (by omega) ⟨_, _, rfl, rfl, _, rfl, ?_⟩
    omega
  · have cx7_ : ¬ (0 < vx6_) := of_decide_eq_false cx7_
    refine sm_T_go 5 (c1 := (16, [some (.inr (.inr (some (13, 0)))), some (.inl c_), some (.inl a_), some (.inl b_)], [.inl 2, .inl b_, .inl a_, .inl c_, .inr (.inr (some (13, 0)))], S0_)) rfl ?_
    refine sm_T_cal (d1 := 1) (Q1 := vq_481 c_ a_ b_ 2 S0_) rfl rfl (by decide) (vc_481 c_ a_ b_ 2 S0_ hI_ (by omega) (by omega) (by omega) (by omega)) (fun u_ Sx8_ px11_ => ?_)
    obtain ⟨rfl, vx13_, rfl, px11_⟩ := px11_
    refine sm_T_b0 (a := 4) (z := 7) rfl (fun cx14_ => ?_) (fun cx14_ => ?_)
    · have cx14_ : 0 < vx13_ := of_decide_eq_true cx14_
      refine sm_T_go 1 (c1 := (27, [some (.inr (.inr (some (13, 0)))), some (.inl c_), some (.inl a_), some (.inl b_)], [.inl 0], S0_)) rfl ?_
      refine sm_T_rz rfl (by omega) ⟨_, _, rfl, rfl, _, rfl, ?_⟩
      omega
    · have cx14_ : ¬ (0 < vx13_) := of_decide_eq_false cx14_
      refine sm_T_go 2 (c1 := (27, [some (.inr (.inr (some (13, 0)))), some (.inl c_), some (.inl a_), some (.inl b_)], [.inl 1], S0_)) rfl ?_
      refine sm_T_rz rfl (by omega) ⟨_, _, rfl, rfl, _, rfl, ?_⟩
      omega
/-! M_.isNear -/
def vw_483 : sx_Wl := ([], [], [])
def vq_483 (c_ : Int) (a_ : Int) (b_ : Int) (S0_ : sm_S) (u_ : Option sm_V) (S1_ : sm_S) : Prop := S0_ = S1_ ∧ ∃ v_ : Int, u_ = some (.inl v_) ∧ (((-2147483648) ≤ v_ ∧ v_ ≤ 2147483647) ∧ (v_ = 0 ∨ v_ = 1))
set_option maxHeartbeats 400000 in
set_option maxRecDepth 20000 in
theorem vc_483 {sc_ : Nat × (Nat → Int)} (c_ : Int) (a_ : Int) (b_ : Int) (S0_ : sm_S) (hI_ : gi S0_) (hc_ : 0 ≤ c_ ∧ c_ ≤ 3) (ha_ : 0 ≤ a_ ∧ a_ ≤ 1999) (hb_ : 0 ≤ b_ ∧ b_ ≤ 1999) : sm_T (mt_P sc_) 3 483 (0, [some (.inr (.inr (some (13, 0)))), some (.inl c_), some (.inl a_), some (.inl b_)], [], S0_) (fun ro9_ => ∃ u_ S1_, ro9_ = (.inl u_, S1_, 0) ∧ vq_483 c_ a_ b_ S0_ u_ S1_) := by
  have hF_ : ai_fr (sx_W vw_483) S0_ S0_ := ai_fr_rf
  refine sm_T_go 4 (c1 := (4, [some (.inr (.inr (some (13, 0)))), some (.inl c_), some (.inl a_), some (.inl b_)], [.inl 0, .inl a_, .inl c_, .inr (.inr (some (13, 0)))], S0_)) rfl ?_
  refine sm_T_cal (d1 := 0) (Q1 := vq_476 c_ a_ 0 S0_) rfl rfl (by decide) (vc_476 c_ a_ 0 S0_ hI_ (by omega) (by omega) (by omega)) (fun u_ Sx1_ px4_ => ?_)
  obtain ⟨rfl, vx6_, rfl, px4_⟩ := px4_
  refine sm_T_go 4 (c1 := (11, [some (.inr (.inr (some (13, 0)))), some (.inl c_), some (.inl a_), some (.inl b_)], [.inl 0, .inl b_, .inl c_, .inr (.inr (some (13, 0))), .inl vx6_], S0_)) rfl ?_
  refine sm_T_cal (d1 := 0) (Q1 := vq_476 c_ b_ 0 S0_) rfl rfl (by decide) (vc_476 c_ b_ 0 S0_ hI_ (by omega) (by omega) (by omega)) (fun u_ Sx7_ px10_ => ?_)
  obtain ⟨rfl, vx12_, rfl, px10_⟩ := px10_
  refine sm_T_br (a := 1) (z := 41) rfl (fun cx13_ => ?_) (fun cx13_ => ?_)
  · have cx13_ : vx6_ ≠ vx12_ := of_decide_eq_true cx13_
    refine sm_T_go 1 (c1 := (56, [some (.inr (.inr (some (13, 0)))), some (.inl c_), some (.inl a_), some (.inl b_)], [.inl 0], S0_)) rfl ?_
    refine sm_T_rz rfl (by omega) ⟨_, _, rfl, rfl, _, rfl, ?_⟩
    omega
  · have cx13_ : ¬ (vx6_ ≠ vx12_) := of_decide_eq_false cx13_
    refine sm_T_go 4 (c1 := (21, [some (.inr (.inr (some (13, 0)))), some (.inl c_), some (.inl a_), some (.inl b_)], [.inl b_, .inl a_, .inl c_, .inr (.inr (some (13, 0)))], S0_)) rfl ?_
    refine sm_T_cal (d1 := 2) (Q1 := vq_482 c_ a_ b_ S0_) rfl rfl (by decide) (vc_482 c_ a_ b_ S0_ hI_ (by omega) (by omega) (by omega)) (fun u_ Sx14_ px17_ => ?_)
    obtain ⟨rfl, vx19_, rfl, px17_⟩ := px17_
    refine sm_T_b0 (a := 1) (z := 31) rfl (fun cx20_ => ?_) (fun cx20_ => ?_)
    · have cx20_ : vx19_ ≠ 0 := of_decide_eq_true cx20_
      refine sm_T_go 1 (c1 := (56, [some (.inr (.inr (some (13, 0)))), some (.inl c_), some (.inl a_), some (.inl b_)], [.inl 0], S0_)) rfl ?_
      refine sm_T_rz rfl (by omega) ⟨_, _, rfl, rfl, _, rfl, ?_⟩
      omega
    · have cx20_ : ¬ (vx19_ ≠ 0) := of_decide_eq_false cx20_
      refine sm_T_go 5 (c1 := (32, [some (.inr (.inr (some (13, 0)))), some (.inl c_), some (.inl a_), some (.inl b_)], [.inl 1, .inl b_, .inl a_, .inl c_, .inr (.inr (some (13, 0)))], S0_)) rfl ?_
      refine sm_T_cal (d1 := 1) (Q1 := vq_481 c_ a_ b_ 1 S0_) rfl rfl (by decide) (vc_481 c_ a_ b_ 1 S0_ hI_ (by omega) (by omega) (by omega) (by omega)) (fun u_ Sx21_ px24_ => ?_)
      obtain ⟨rfl, vx26_, rfl, px24_⟩ := px24_
      refine sm_T_go 1 (c1 := (36, [some (.inr (.inr (some (13, 0)))), some (.inl c_), some (.inl a_), some (.inl b_)], [.inl 2, .inl vx26_], S0_)) rfl ?_
      refine sm_T_br (a := 3) (z := 19) rfl (fun cx27_ => ?_) (fun cx27_ => ?_)
      · have cx27_ : 2 ≤ vx26_ := of_decide_eq_true cx27_
        refine sm_T_go 1 (c1 := (56, [some (.inr (.inr (some (13, 0)))), some (.inl c_), some (.inl a_), some (.inl b_)], [.inl 0], S0_)) rfl ?_
        refine sm_T_rz rfl (by omega) ⟨_, _, rfl, rfl, _, rfl, ?_⟩
        omega
      · have cx27_ : ¬ (2 ≤ vx26_) := of_decide_eq_false cx27_
        refine sm_T_go 5 (c1 := (44, [some (.inr (.inr (some (13, 0)))), some (.inl c_), some (.inl a_), some (.inl b_)], [.inl 2, .inl b_, .inl a_, .inl c_, .inr (.inr (some (13, 0)))], S0_)) rfl ?_
        refine sm_T_cal (d1 := 1) (Q1 := vq_481 c_ a_ b_ 2 S0_) rfl rfl (by decide) (vc_481 c_ a_ b_ 2 S0_ hI_ (by omega) (by omega) (by omega) (by omega)) (fun u_ Sx28_ px31_ => ?_)
        obtain ⟨rfl, vx33_, rfl, px31_⟩ := px31_
        refine sm_T_go 1 (c1 := (48, [some (.inr (.inr (some (13, 0)))), some (.inl c_), some (.inl a_), some (.inl b_)], [.inl 2, .inl vx33_], S0_)) rfl ?_
        refine sm_T_br (a := 3) (z := 7) rfl (fun cx34_ => ?_) (fun cx34_ => ?_)
        · have cx34_ : 2 ≤ vx33_ := of_decide_eq_true cx34_
          refine sm_T_go 1 (c1 := (56, [some (.inr (.inr (some (13, 0)))), some (.inl c_), some (.inl a_), some (.inl b_)], [.inl 0], S0_)) rfl ?_
          refine sm_T_rz rfl (by omega) ⟨_, _, rfl, rfl, _, rfl, ?_⟩
          omega
        · have cx34_ : ¬ (2 ≤ vx33_) := of_decide_eq_false cx34_
          refine sm_T_go 2 (c1 := (56, [some (.inr (.inr (some (13, 0)))), some (.inl c_), some (.inl a_), some (.inl b_)], [.inl 1], S0_)) rfl ?_
          refine sm_T_rz rfl (by omega) ⟨_, _, rfl, rfl, _, rfl, ?_⟩
          omega
/-! M_.isThin -/
def vw_484 : sx_Wl := ([], [], [])
def vq_484 (c_ : Int) (b_ : Int) (S0_ : sm_S) (u_ : Option sm_V) (S1_ : sm_S) : Prop := S0_ = S1_ ∧ ∃ v_ : Int, u_ = some (.inl v_) ∧ (((-2147483648) ≤ v_ ∧ v_ ≤ 2147483647) ∧ (v_ = 0 ∨ v_ = 1))
set_option maxHeartbeats 400000 in
set_option maxRecDepth 20000 in
theorem vc_484 {sc_ : Nat × (Nat → Int)} (c_ : Int) (b_ : Int) (S0_ : sm_S) (hI_ : gi S0_) (hc_ : 0 ≤ c_ ∧ c_ ≤ 3) (hb_ : 0 ≤ b_ ∧ b_ ≤ 1999) : sm_T (mt_P sc_) 1 484 (0, [some (.inr (.inr (some (13, 0)))), some (.inl c_), some (.inl b_)], [], S0_) (fun ro9_ => ∃ u_ S1_, ro9_ = (.inl u_, S1_, 0) ∧ vq_484 c_ b_ S0_ u_ S1_) := by
  have hF_ : ai_fr (sx_W vw_484) S0_ S0_ := ai_fr_rf
  refine sm_T_go 4 (c1 := (4, [some (.inr (.inr (some (13, 0)))), some (.inl c_), some (.inl b_)], [.inl 3, .inl b_, .inl c_, .inr (.inr (some (13, 0)))], S0_)) rfl ?_
  refine sm_T_cal (d1 := 0) (Q1 := vq_476 c_ b_ 3 S0_) rfl rfl (by decide) (vc_476 c_ b_ 3 S0_ hI_ (by omega) (by omega) (by omega)) (fun u_ Sx1_ px4_ => ?_)
  obtain ⟨rfl, vx6_, rfl, px4_⟩ := px4_
  refine sm_T_go 4 (c1 := (11, [some (.inr (.inr (some (13, 0)))), some (.inl c_), some (.inl b_)], [.inl 1, .inl b_, .inl c_, .inr (.inr (some (13, 0))), .inl vx6_], S0_)) rfl ?_
  refine sm_T_cal (d1 := 0) (Q1 := vq_476 c_ b_ 1 S0_) rfl rfl (by decide) (vc_476 c_ b_ 1 S0_ hI_ (by omega) (by omega) (by omega)) (fun u_ Sx7_ px10_ => ?_)
  obtain ⟨rfl, vx12_, rfl, px10_⟩ := px10_
  refine sm_T_bin (w := vx6_ - vx12_) rfl (bi_sub (by omega) (by omega) (by omega)) ?_ -- pc_ 14
  refine sm_T_go 1 (c1 := (16, [some (.inr (.inr (some (13, 0)))), some (.inl c_), some (.inl b_)], [.inl 2, .inl (vx6_ - vx12_)], S0_)) rfl ?_
  refine sm_T_br (a := 2) (z := 22) rfl (fun cx13_ => ?_) (fun cx13_ => ?_)
  · have cx13_ : vx6_ - vx12_ < 2 := of_decide_eq_true cx13_
    refine sm_T_go 2 (c1 := (43, [some (.inr (.inr (some (13, 0)))), some (.inl c_), some (.inl b_)], [.inl 1], S0_)) rfl ?_
    refine sm_T_rz rfl (by omega) ⟨_, _, rfl, rfl, _, rfl, ?_⟩
    omega
  · have cx13_ : ¬ (vx6_ - vx12_ < 2) := of_decide_eq_false cx13_
    refine sm_T_go 4 (c1 := (23, [some (.inr (.inr (some (13, 0)))), some (.inl c_), some (.inl b_)], [.inl 4, .inl b_, .inl c_, .inr (.inr (some (13, 0)))], S0_)) rfl ?_
    refine sm_T_cal (d1 := 0) (Q1 := vq_476 c_ b_ 4 S0_) rfl rfl (by decide) (vc_476 c_ b_ 4 S0_ hI_ (by omega) (by omega) (by omega)) (fun u_ Sx14_ px17_ => ?_)
    obtain ⟨rfl, vx19_, rfl, px17_⟩ := px17_
    refine sm_T_go 4 (c1 := (30, [some (.inr (.inr (some (13, 0)))), some (.inl c_), some (.inl b_)], [.inl 2, .inl b_, .inl c_, .inr (.inr (some (13, 0))), .inl vx19_], S0_)) rfl ?_
    refine sm_T_cal (d1 := 0) (Q1 := vq_476 c_ b_ 2 S0_) rfl rfl (by decide) (vc_476 c_ b_ 2 S0_ hI_ (by omega) (by omega) (by omega)) (fun u_ Sx20_ px23_ => ?_)
    obtain ⟨rfl, vx25_, rfl, px23_⟩ := px23_
    refine sm_T_bin (w := vx19_ - vx25_) rfl (bi_sub (by omega) (by omega) (by omega)) ?_ -- pc_ 33
    refine sm_T_go 1 (c1 := (35, [some (.inr (.inr (some (13, 0)))), some (.inl c_), some (.inl b_)], [.inl 2, .inl (vx19_ - vx25_)], S0_)) rfl ?_
    refine sm_T_br (a := 3) (z := 7) rfl (fun cx26_ => ?_) (fun cx26_ => ?_)
    · have cx26_ : 2 ≤ vx19_ - vx25_ := of_decide_eq_true cx26_
      refine sm_T_go 1 (c1 := (43, [some (.inr (.inr (some (13, 0)))), some (.inl c_), some (.inl b_)], [.inl 0], S0_)) rfl ?_
      refine sm_T_rz rfl (by omega) ⟨_, _, rfl, rfl, _, rfl, ?_⟩
      omega
    · have cx26_ : ¬ (2 ≤ vx19_ - vx25_) := of_decide_eq_false cx26_
      refine sm_T_go 2 (c1 := (43, [some (.inr (.inr (some (13, 0)))), some (.inl c_), some (.inl b_)], [.inl 1], S0_)) rfl ?_
      refine sm_T_rz rfl (by omega) ⟨_, _, rfl, rfl, _, rfl, ?_⟩
      omega
/-! M_.violations -/
def vw_485 : sx_Wl := ([(13, 190), (13, 191)], [], [])
def vq_485 (c_ : Int) (k_ : Int) (S0_ : sm_S) (u_ : Option sm_V) (S1_ : sm_S) : Prop := ∃ v_ : Int, u_ = some (.inl v_) ∧ gi S1_ ∧ ai_fr (sx_W vw_485) S0_ S1_ ∧ (0 ≤ v_ ∧ v_ ≤ 4002000)
set_option maxHeartbeats 400000 in
set_option maxRecDepth 20000 in
theorem vl_485 {sc_ : Nat × (Nat → Int)} (c_ : Int) (k_ : Int) (S0_ : sm_S) (hc_ : 0 ≤ c_ ∧ c_ ≤ 3) (hk_ : k_ ≤ 2147483647) : ∀ nn_ : Nat, (∀ (n_ : Int) (b_ : Int) (S_ : sm_S), gi S_ → ai_fr (sx_W vw_485) S0_ S_ → ((0 ≤ n_ ∧ n_ ≤ b_ ∧ 0 ≤ b_ ∧ b_ ≤ 2000) ∧ True) → ((90000000 - b_).toNat) < nn_ → sm_T (mt_P sc_) 4 485 (5, [some (.inr (.inr (some (13, 0)))), some (.inl c_), some (.inl k_), some (.inl n_), some (.inl b_), none], [], S_) (fun ro9_ => ∃ u_ S1_, ro9_ = (.inl u_, S1_, 0) ∧ vq_485 c_ k_ S0_ u_ S1_)) ∧ (∀ (n_ : Int) (a_ : Int) (S_ : sm_S), gi S_ → ai_fr (sx_W vw_485) S0_ S_ → ((0 ≤ n_ ∧ n_ ≤ 2000 + 2000 * a_ ∧ 0 ≤ a_ ∧ a_ ≤ 2000) ∧ True) → ((10000 * (5000 - a_) + 9000).toNat) < nn_ → sm_T (mt_P sc_) 4 485 (54, [some (.inr (.inr (some (13, 0)))), some (.inl c_), some (.inl k_), some (.inl n_), some (.inl a_), none], [], S_) (fun ro9_ => ∃ u_ S1_, ro9_ = (.inl u_, S1_, 0) ∧ vq_485 c_ k_ S0_ u_ S1_)) ∧ (∀ (n_ : Int) (a_ : Int) (b_ : Int) (S_ : sm_S), gi S_ → ai_fr (sx_W vw_485) S0_ S_ → ((0 ≤ n_ ∧ n_ ≤ 2000 + 2000 * a_ + b_ - 1 ∧ 0 ≤ a_ ∧ a_ < 2000 ∧ a_ < b_ ∧ b_ ≤ 2001) ∧ True) → ((10000 * (5000 - a_) + 8000 - b_).toNat) < nn_ → sm_T (mt_P sc_) 4 485 (76, [some (.inr (.inr (some (13, 0)))), some (.inl c_), some (.inl k_), some (.inl n_), some (.inl a_), some (.inl b_)], [], S_) (fun ro9_ => ∃ u_ S1_, ro9_ = (.inl u_, S1_, 0) ∧ vq_485 c_ k_ S0_ u_ S1_)) := by
  intro nn_
  induction nn_ with
  | zero => exact ⟨fun _ _ _ _ _ _ h_ => absurd h_ (Nat.not_lt_zero _), fun _ _ _ _ _ _ h_ => absurd h_ (Nat.not_lt_zero _), fun _ _ _ _ _ _ _ h_ => absurd h_ (Nat.not_lt_zero _)⟩
  | succ nn_ ih_ =>
    refine ⟨?_, ?_, ?_⟩
    · rintro n_ b_ S_ hI_ hF_ ⟨h0_, -⟩ hm_
      refine sm_T_go 4 (c1 := (12, [some (.inr (.inr (some (13, 0)))), some (.inl c_), some (.inl k_), some (.inl n_), some (.inl b_), none], [.inl c_, .inr (.inr (some (264, 0))), .inl b_], S_)) rfl ?_
      refine sm_T_iald (n := 4) rfl rfl (by omega) (by omega) ?_
      have bx1_ : 0 ≤ S_.2.2.1 264 0 c_.toNat ∧ S_.2.2.1 264 0 c_.toNat ≤ 2000 := hI_.2 264 0 _
      refine sm_T_br (a := 3) (z := 38) rfl (fun cx2_ => ?_) (fun cx2_ => ?_)
      · have cx2_ : (S_.2.2.1 264 0 c_.toNat) ≤ b_ := of_decide_eq_true cx2_
        refine sm_T_go 2 (c1 := (54, [some (.inr (.inr (some (13, 0)))), some (.inl c_), some (.inl k_), some (.inl n_), some (.inl 0), none], [], S_)) rfl ?_
        refine ih_.2.1 n_ 0 S_ hI_ hF_ ⟨?_, trivial⟩ ?_
        · omega
        · omega
      · have cx2_ : ¬ ((S_.2.2.1 264 0 c_.toNat) ≤ b_) := of_decide_eq_false cx2_
        refine sm_T_go 2 (c1 := (18, [some (.inr (.inr (some (13, 0)))), some (.inl c_), some (.inl k_), some (.inl n_), some (.inl b_), none], [.inl k_, .inl n_], S_)) rfl ?_
        refine sm_T_br (a := 4) (z := 33) rfl (fun cx3_ => ?_) (fun cx3_ => ?_)
        · have cx3_ : k_ < n_ := of_decide_eq_true cx3_
          refine sm_T_go 2 (c1 := (54, [some (.inr (.inr (some (13, 0)))), some (.inl c_), some (.inl k_), some (.inl n_), some (.inl 0), none], [], S_)) rfl ?_
          refine ih_.2.1 n_ 0 S_ hI_ hF_ ⟨?_, trivial⟩ ?_
          · omega
          · omega
        · have cx3_ : ¬ (k_ < n_) := of_decide_eq_false cx3_
          refine sm_T_go 3 (c1 := (25, [some (.inr (.inr (some (13, 0)))), some (.inl c_), some (.inl k_), some (.inl n_), some (.inl b_), none], [.inl b_, .inl c_, .inr (.inr (some (13, 0)))], S_)) rfl ?_
          refine sm_T_cal (d1 := 1) (Q1 := vq_484 c_ b_ S_) rfl rfl (by decide) (vc_484 c_ b_ S_ hI_ (by omega) (by omega)) (fun u_ Sx4_ px7_ => ?_)
          obtain ⟨rfl, vx9_, rfl, px7_⟩ := px7_
          refine sm_T_b0 (a := 0) (z := 17) rfl (fun cx10_ => ?_) (fun cx10_ => ?_)
          · have cx10_ : vx9_ = 0 := of_decide_eq_true cx10_
            refine sm_T_inc (a := 4) (z := 1) (v := b_) (w := b_ + 1) rfl rfl (by omega) (by omega) (by omega) ?_ -- pc_ 45
            refine sm_T_go 1 (c1 := (5, [some (.inr (.inr (some (13, 0)))), some (.inl c_), some (.inl k_), some (.inl n_), some (.inl (b_ + 1)), none], [], S_)) rfl ?_
            refine ih_.1 n_ (b_ + 1) S_ hI_ hF_ ⟨?_, trivial⟩ ?_
            · omega
            · omega
          · have cx10_ : ¬ (vx9_ = 0) := of_decide_eq_false cx10_
            have hIx11_ : gi (sm_pI S_ 13 0 190 b_) := gi_pI hI_ (show 0 ≤ b_ ∧ b_ ≤ 2000 from ⟨by omega, by omega⟩)
            have hFx12_ : ai_fr (sx_W vw_485) S0_ (sm_pI S_ 13 0 190 b_) := ai_fr_tr hF_ (ai_fr_pI rfl)
            have hIx13_ : gi (sm_pI (sm_pI S_ 13 0 190 b_) 13 0 191 (-1)) := gi_pI hIx11_ (show (-1) ≤ (-1) ∧ (-1) ≤ 2000 from ⟨by omega, by omega⟩)
            have hFx14_ : ai_fr (sx_W vw_485) S0_ (sm_pI (sm_pI S_ 13 0 190 b_) 13 0 191 (-1)) := ai_fr_tr hFx12_ (ai_fr_pI rfl)
            refine sm_T_go 6 (c1 := (42, [some (.inr (.inr (some (13, 0)))), some (.inl c_), some (.inl k_), some (.inl n_), some (.inl b_), none], [], sm_pI (sm_pI S_ 13 0 190 b_) 13 0 191 (-1))) rfl ?_
            refine sm_T_inc (a := 3) (z := 1) (v := n_) (w := n_ + 1) rfl rfl (by omega) (by omega) (by omega) ?_ -- pc_ 42
            refine sm_T_inc (a := 4) (z := 1) (v := b_) (w := b_ + 1) rfl rfl (by omega) (by omega) (by omega) ?_ -- pc_ 45
            refine sm_T_go 1 (c1 := (5, [some (.inr (.inr (some (13, 0)))), some (.inl c_), some (.inl k_), some (.inl (n_ + 1)), some (.inl (b_ + 1)), none], [], sm_pI (sm_pI S_ 13 0 190 b_) 13 0 191 (-1))) rfl ?_
            refine ih_.1 (n_ + 1) (b_ + 1) (sm_pI (sm_pI S_ 13 0 190 b_) 13 0 191 (-1)) hIx13_ hFx14_ ⟨?_, trivial⟩ ?_
            · omega
            · omega
    · rintro n_ a_ S_ hI_ hF_ ⟨h0_, -⟩ hm_
      refine sm_T_go 4 (c1 := (61, [some (.inr (.inr (some (13, 0)))), some (.inl c_), some (.inl k_), some (.inl n_), some (.inl a_), none], [.inl c_, .inr (.inr (some (264, 0))), .inl a_], S_)) rfl ?_
      refine sm_T_iald (n := 4) rfl rfl (by omega) (by omega) ?_
      have bx1_ : 0 ≤ S_.2.2.1 264 0 c_.toNat ∧ S_.2.2.1 264 0 c_.toNat ≤ 2000 := hI_.2 264 0 _
      refine sm_T_br (a := 3) (z := 69) rfl (fun cx2_ => ?_) (fun cx2_ => ?_)
      · have cx2_ : (S_.2.2.1 264 0 c_.toNat) ≤ a_ := of_decide_eq_true cx2_
        refine sm_T_go 1 (c1 := (132, [some (.inr (.inr (some (13, 0)))), some (.inl c_), some (.inl k_), some (.inl n_), some (.inl a_), none], [.inl n_], S_)) rfl ?_
        refine sm_T_ri rfl ⟨_, _, rfl, _, rfl, hI_, hF_, ?_⟩
        omega
      · have cx2_ : ¬ ((S_.2.2.1 264 0 c_.toNat) ≤ a_) := of_decide_eq_false cx2_
        refine sm_T_go 2 (c1 := (67, [some (.inr (.inr (some (13, 0)))), some (.inl c_), some (.inl k_), some (.inl n_), some (.inl a_), none], [.inl k_, .inl n_], S_)) rfl ?_
        refine sm_T_br (a := 4) (z := 64) rfl (fun cx3_ => ?_) (fun cx3_ => ?_)
        · have cx3_ : k_ < n_ := of_decide_eq_true cx3_
          refine sm_T_go 1 (c1 := (132, [some (.inr (.inr (some (13, 0)))), some (.inl c_), some (.inl k_), some (.inl n_), some (.inl a_), none], [.inl n_], S_)) rfl ?_
          refine sm_T_ri rfl ⟨_, _, rfl, _, rfl, hI_, hF_, ?_⟩
          omega
        · have cx3_ : ¬ (k_ < n_) := of_decide_eq_false cx3_
          refine sm_T_go 2 (c1 := (73, [some (.inr (.inr (some (13, 0)))), some (.inl c_), some (.inl k_), some (.inl n_), some (.inl a_), none], [.inl 1, .inl a_], S_)) rfl ?_
          refine sm_T_bin (w := a_ + 1) rfl (bi_add (by omega) (by omega) (by omega)) ?_ -- pc_ 73
          refine sm_T_go 1 (c1 := (76, [some (.inr (.inr (some (13, 0)))), some (.inl c_), some (.inl k_), some (.inl n_), some (.inl a_), some (.inl (a_ + 1))], [], S_)) rfl ?_
          refine ih_.2.2 n_ a_ (a_ + 1) S_ hI_ hF_ ⟨?_, trivial⟩ ?_
          · omega
          · omega
    · rintro n_ a_ b_ S_ hI_ hF_ ⟨h0_, -⟩ hm_
      refine sm_T_go 4 (c1 := (83, [some (.inr (.inr (some (13, 0)))), some (.inl c_), some (.inl k_), some (.inl n_), some (.inl a_), some (.inl b_)], [.inl c_, .inr (.inr (some (264, 0))), .inl b_], S_)) rfl ?_
      refine sm_T_iald (n := 4) rfl rfl (by omega) (by omega) ?_
      have bx1_ : 0 ≤ S_.2.2.1 264 0 c_.toNat ∧ S_.2.2.1 264 0 c_.toNat ≤ 2000 := hI_.2 264 0 _
      refine sm_T_br (a := 3) (z := 41) rfl (fun cx2_ => ?_) (fun cx2_ => ?_)
      · have cx2_ : (S_.2.2.1 264 0 c_.toNat) ≤ b_ := of_decide_eq_true cx2_
        refine sm_T_inc (a := 4) (z := 1) (v := a_) (w := a_ + 1) rfl rfl (by omega) (by omega) (by omega) ?_ -- pc_ 125
        refine sm_T_go 1 (c1 := (54, [some (.inr (.inr (some (13, 0)))), some (.inl c_), some (.inl k_), some (.inl n_), some (.inl (a_ + 1)), some (.inl b_)], [], S_)) rfl ?_
        refine sm_T_wk [some (.inr (.inr (some (13, 0)))), some (.inl c_), some (.inl k_), some (.inl n_), some (.inl (a_ + 1)), none] (by exact ⟨rfl, rfl, rfl, rfl, rfl, trivial⟩) ?_
        refine ih_.2.1 n_ (a_ + 1) S_ hI_ hF_ ⟨?_, trivial⟩ ?_
        · omega
        · omega
      · have cx2_ : ¬ ((S_.2.2.1 264 0 c_.toNat) ≤ b_) := of_decide_eq_false cx2_
        refine sm_T_go 2 (c1 := (89, [some (.inr (.inr (some (13, 0)))), some (.inl c_), some (.inl k_), some (.inl n_), some (.inl a_), some (.inl b_)], [.inl k_, .inl n_], S_)) rfl ?_
        refine sm_T_br (a := 4) (z := 36) rfl (fun cx3_ => ?_) (fun cx3_ => ?_)
        · have cx3_ : k_ < n_ := of_decide_eq_true cx3_
          refine sm_T_inc (a := 4) (z := 1) (v := a_) (w := a_ + 1) rfl rfl (by omega) (by omega) (by omega) ?_ -- pc_ 125
          refine sm_T_go 1 (c1 := (54, [some (.inr (.inr (some (13, 0)))), some (.inl c_), some (.inl k_), some (.inl n_), some (.inl (a_ + 1)), some (.inl b_)], [], S_)) rfl ?_
          refine sm_T_wk [some (.inr (.inr (some (13, 0)))), some (.inl c_), some (.inl k_), some (.inl n_), some (.inl (a_ + 1)), none] (by exact ⟨rfl, rfl, rfl, rfl, rfl, trivial⟩) ?_
          refine ih_.2.1 n_ (a_ + 1) S_ hI_ hF_ ⟨?_, trivial⟩ ?_
          · omega
          · omega
        · have cx3_ : ¬ (k_ < n_) := of_decide_eq_false cx3_
          refine sm_T_go 4 (c1 := (98, [some (.inr (.inr (some (13, 0)))), some (.inl c_), some (.inl k_), some (.inl n_), some (.inl a_), some (.inl b_)], [.inl b_, .inl a_, .inl c_, .inr (.inr (some (13, 0)))], S_)) rfl ?_
          refine sm_T_cal (d1 := 3) (Q1 := vq_483 c_ a_ b_ S_) rfl rfl (by decide) (vc_483 c_ a_ b_ S_ hI_ (by omega) (by omega) (by omega)) (fun u_ Sx4_ px7_ => ?_)
          obtain ⟨rfl, vx9_, rfl, px7_⟩ := px7_
          refine sm_T_b0 (a := 0) (z := 18) rfl (fun cx10_ => ?_) (fun cx10_ => ?_)
          · have cx10_ : vx9_ = 0 := of_decide_eq_true cx10_
            refine sm_T_inc (a := 5) (z := 1) (v := b_) (w := b_ + 1) rfl rfl (by omega) (by omega) (by omega) ?_ -- pc_ 119
            refine sm_T_go 1 (c1 := (76, [some (.inr (.inr (some (13, 0)))), some (.inl c_), some (.inl k_), some (.inl n_), some (.inl a_), some (.inl (b_ + 1))], [], S_)) rfl ?_
            refine ih_.2.2 n_ a_ (b_ + 1) S_ hI_ hF_ ⟨?_, trivial⟩ ?_
            · omega
            · omega
          · have cx10_ : ¬ (vx9_ = 0) := of_decide_eq_false cx10_
            have hIx11_ : gi (sm_pI S_ 13 0 190 a_) := gi_pI hI_ (show 0 ≤ a_ ∧ a_ ≤ 2000 from ⟨by omega, by omega⟩)
            have hFx12_ : ai_fr (sx_W vw_485) S0_ (sm_pI S_ 13 0 190 a_) := ai_fr_tr hF_ (ai_fr_pI rfl)
            have hIx13_ : gi (sm_pI (sm_pI S_ 13 0 190 a_) 13 0 191 b_) := gi_pI hIx11_ (show (-1) ≤ b_ ∧ b_ ≤ 2000 from ⟨by omega, by omega⟩)
            have hFx14_ : ai_fr (sx_W vw_485) S0_ (sm_pI (sm_pI S_ 13 0 190 a_) 13 0 191 b_) := ai_fr_tr hFx12_ (ai_fr_pI rfl)
            refine sm_T_go 6 (c1 := (116, [some (.inr (.inr (some (13, 0)))), some (.inl c_), some (.inl k_), some (.inl n_), some (.inl a_), some (.inl b_)], [], sm_pI (sm_pI S_ 13 0 190 a_) 13 0 191 b_)) rfl ?_
            refine sm_T_inc (a := 3) (z := 1) (v := n_) (w := n_ + 1) rfl rfl (by omega) (by omega) (by omega) ?_ -- pc_ 116
            refine sm_T_inc (a := 5) (z := 1) (v := b_) (w := b_ + 1) rfl rfl (by omega) (by omega) (by omega) ?_ -- pc_ 119
            refine sm_T_go 1 (c1 := (76, [some (.inr (.inr (some (13, 0)))), some (.inl c_), some (.inl k_), some (.inl (n_ + 1)), some (.inl a_), some (.inl (b_ + 1))], [], sm_pI (sm_pI S_ 13 0 190 a_) 13 0 191 b_)) rfl ?_
            refine ih_.2.2 (n_ + 1) a_ (b_ + 1) (sm_pI (sm_pI S_ 13 0 190 a_) 13 0 191 b_) hIx13_ hFx14_ ⟨?_, trivial⟩ ?_
            · omega
            · omega
set_option maxHeartbeats 400000 in
set_option maxRecDepth 20000 in
theorem vc_485 {sc_ : Nat × (Nat → Int)} (c_ : Int) (k_ : Int) (S0_ : sm_S) (hI_ : gi S0_) (hc_ : 0 ≤ c_ ∧ c_ ≤ 3) (hk_ : k_ ≤ 2147483647) : sm_T (mt_P sc_) 4 485 (0, [some (.inr (.inr (some (13, 0)))), some (.inl c_), some (.inl k_), none, none, none], [], S0_) (fun ro9_ => ∃ u_ S1_, ro9_ = (.inl u_, S1_, 0) ∧ vq_485 c_ k_ S0_ u_ S1_) := by
  have hF_ : ai_fr (sx_W vw_485) S0_ S0_ := ai_fr_rf
  refine sm_T_go 4 (c1 := (5, [some (.inr (.inr (some (13, 0)))), some (.inl c_), some (.inl k_), some (.inl 0), some (.inl 0), none], [], S0_)) rfl ?_
  refine (vl_485 c_ k_ S0_ hc_ hk_ _).1 0 0 S0_ hI_ hF_ ⟨?_, trivial⟩ (Nat.lt_succ_self _)
  · omega
/-! M_.check -/
def vw_486 : sx_Wl := ([(13, 0), (13, 190), (13, 191)], [], [])
def vq_486 (a1_ : Int) (S0_ : sm_S) (u_ : Option sm_V) (S1_ : sm_S) : Prop := ∃ v_ : Int, u_ = some (.inl v_) ∧ gi S1_ ∧ ai_fr (sx_W vw_486) S0_ S1_ ∧ (((-2147483648) ≤ v_ ∧ v_ ≤ 2147483647) ∧ (jR S1_))
set_option maxHeartbeats 400000 in
set_option maxRecDepth 20000 in
theorem vc_486 {sc_ : Nat × (Nat → Int)} (a1_ : Int) (S0_ : sm_S) (hI_ : gi S0_) (ha1_ : (-2147483648) ≤ a1_ ∧ a1_ ≤ 2147483647) (hJ_ : jR S0_) : sm_T (mt_P sc_) 5 486 (0, [some (.inr (.inr (some (13, 0)))), some (.inl a1_)], [], S0_) (fun ro9_ => ∃ u_ S1_, ro9_ = (.inl u_, S1_, 0) ∧ vq_486 a1_ S0_ u_ S1_) := by
  have hF_ : ai_fr (sx_W vw_486) S0_ S0_ := ai_fr_rf
  refine sm_T_go 3 (c1 := (3, [some (.inr (.inr (some (13, 0)))), some (.inl a1_)], [.inl a1_, .inr (.inr (some (13, 0))), .inr (.inr (some (13, 0)))], S0_)) rfl ?_
  refine sm_T_cal (d1 := 0) (Q1 := vq_371 a1_ S0_) rfl rfl (by decide) (vc_371 a1_ S0_ hI_ (by omega)) (fun u_ Sx1_ px4_ => ?_)
  obtain ⟨rfl, vx6_, rfl, px4_⟩ := px4_
  have d3_ := px4_
  refine sm_T_b0 (a := 1) (z := 7) rfl (fun cx7_ => ?_) (fun cx7_ => ?_)
  · have cx7_ : vx6_ ≠ 0 := of_decide_eq_true cx7_
    refine sm_T_go 3 (c1 := (18, [some (.inr (.inr (some (13, 0)))), some (.inl a1_)], [.inl a1_, .inr (.inr (some (263, 0))), .inr (.inr (some (13, 0)))], S0_)) rfl ?_
    refine sm_T_zald (n := 4) rfl rfl (by omega) (by omega) ?_
    have bx8_ : 0 ≤ S0_.2.2.1 263 0 a1_.toNat ∧ S0_.2.2.1 263 0 a1_.toNat ≤ 1 := hI_.2 263 0 _
    refine sm_T_b0 (a := 1) (z := 7) rfl (fun cx9_ => ?_) (fun cx9_ => ?_)
    · have cx9_ : (S0_.2.2.1 263 0 a1_.toNat) ≠ 0 := of_decide_eq_true cx9_
      have hIx10_ : gi (sm_pI S0_ 13 0 0 0) := gi_pI hI_ (show 0 ≤ 0 ∧ 0 ≤ 4 from ⟨by omega, by omega⟩)
      have hFx11_ : ai_fr (sx_W vw_486) S0_ (sm_pI S0_ 13 0 0 0) := ai_fr_tr hF_ (ai_fr_pI rfl)
      refine sm_T_go 7 (c1 := (43, [some (.inr (.inr (some (13, 0)))), some (.inl a1_)], [.inl a1_, .inr (.inr (some (13, 0)))], sm_pI S0_ 13 0 0 0)) rfl ?_
      refine sm_T_nt (u := some (.inl 2147483646)) (S1 := sm_pI S0_ 13 0 0 0) rfl rfl rfl ?_
      refine sm_T_cal (d1 := 4) (Q1 := vq_485 a1_ 2147483646 (sm_pI S0_ 13 0 0 0)) rfl rfl (by decide) (vc_485 a1_ 2147483646 (sm_pI S0_ 13 0 0 0) hIx10_ (by omega) (by omega)) (fun u_ Sx12_ px15_ => ?_)
      obtain ⟨vx17_, rfl, hIx13_, hFx14_, px15_⟩ := px15_
      have hFx16_ : ai_fr (sx_W vw_486) S0_ Sx12_ := ai_fr_tr hFx11_ (fr_le hFx14_ rfl)
      refine sm_T_ri rfl ⟨_, _, rfl, _, rfl, hIx13_, hFx16_, ?_⟩
      refine ⟨⟨by omega, by omega⟩, jR_fr hJ_ hIx13_ hFx16_⟩
    · have cx9_ : ¬ ((S0_.2.2.1 263 0 a1_.toNat) ≠ 0) := of_decide_eq_false cx9_
      have hIx18_ : gi (sm_pI S0_ 13 0 0 2) := gi_pI hI_ (show 0 ≤ 2 ∧ 2 ≤ 4 from ⟨by omega, by omega⟩)
      have hFx19_ : ai_fr (sx_W vw_486) S0_ (sm_pI S0_ 13 0 0 2) := ai_fr_tr hF_ (ai_fr_pI rfl)
      refine sm_T_go 8 (c1 := (49, [some (.inr (.inr (some (13, 0)))), some (.inl a1_)], [.inl 0], sm_pI S0_ 13 0 0 2)) rfl ?_
      refine sm_T_ri rfl ⟨_, _, rfl, _, rfl, hIx18_, hFx19_, ?_⟩
      refine ⟨⟨by omega, by omega⟩, jR_fr hJ_ hIx18_ hFx19_⟩
  · have cx7_ : ¬ (vx6_ ≠ 0) := of_decide_eq_false cx7_
    have hIx20_ : gi (sm_pI S0_ 13 0 0 1) := gi_pI hI_ (show 0 ≤ 1 ∧ 1 ≤ 4 from ⟨by omega, by omega⟩)
    have hFx21_ : ai_fr (sx_W vw_486) S0_ (sm_pI S0_ 13 0 0 1) := ai_fr_tr hF_ (ai_fr_pI rfl)
    refine sm_T_go 8 (c1 := (49, [some (.inr (.inr (some (13, 0)))), some (.inl a1_)], [.inl 0], sm_pI S0_ 13 0 0 1)) rfl ?_
    refine sm_T_ri rfl ⟨_, _, rfl, _, rfl, hIx20_, hFx21_, ?_⟩
    refine ⟨⟨by omega, by omega⟩, jR_fr hJ_ hIx20_ hFx21_⟩
/-! M_.violation -/
def vw_487 : sx_Wl := ([(13, 0), (13, 190), (13, 191)], [], [])
def vq_487 (a1_ : Int) (a2_ : Int) (a3_ : Int) (S0_ : sm_S) (u_ : Option sm_V) (S1_ : sm_S) : Prop := ∃ v_ : Int, u_ = some (.inl v_) ∧ gi S1_ ∧ ai_fr (sx_W vw_487) S0_ S1_ ∧ (((-2147483648) ≤ v_ ∧ v_ ≤ 2147483647) ∧ (jR S1_))
set_option maxHeartbeats 400000 in
set_option maxRecDepth 20000 in
theorem vc_487 {sc_ : Nat × (Nat → Int)} (a1_ : Int) (a2_ : Int) (a3_ : Int) (S0_ : sm_S) (hI_ : gi S0_) (ha1_ : (-2147483648) ≤ a1_ ∧ a1_ ≤ 2147483647) (ha2_ : (-2147483648) ≤ a2_ ∧ a2_ ≤ 2147483647) (ha3_ : (-2147483648) ≤ a3_ ∧ a3_ ≤ 2147483647) (hJ_ : jR S0_) : sm_T (mt_P sc_) 5 487 (0, [some (.inr (.inr (some (13, 0)))), some (.inl a1_), some (.inl a2_), some (.inl a3_)], [], S0_) (fun ro9_ => ∃ u_ S1_, ro9_ = (.inl u_, S1_, 0) ∧ vq_487 a1_ a2_ a3_ S0_ u_ S1_) := by
  have hF_ : ai_fr (sx_W vw_487) S0_ S0_ := ai_fr_rf
  refine sm_T_go 3 (c1 := (3, [some (.inr (.inr (some (13, 0)))), some (.inl a1_), some (.inl a2_), some (.inl a3_)], [.inl a1_, .inr (.inr (some (13, 0))), .inr (.inr (some (13, 0)))], S0_)) rfl ?_
  refine sm_T_cal (d1 := 0) (Q1 := vq_371 a1_ S0_) rfl rfl (by decide) (vc_371 a1_ S0_ hI_ (by omega)) (fun u_ Sx1_ px4_ => ?_)
  obtain ⟨rfl, vx6_, rfl, px4_⟩ := px4_
  have d3_ := px4_
  refine sm_T_b0 (a := 0) (z := 16) rfl (fun cx7_ => ?_) (fun cx7_ => ?_)
  · have cx7_ : vx6_ = 0 := of_decide_eq_true cx7_
    have hIx8_ : gi (sm_pI S0_ 13 0 0 1) := gi_pI hI_ (show 0 ≤ 1 ∧ 1 ≤ 4 from ⟨by omega, by omega⟩)
    have hFx9_ : ai_fr (sx_W vw_487) S0_ (sm_pI S0_ 13 0 0 1) := ai_fr_tr hF_ (ai_fr_pI rfl)
    refine sm_T_go 8 (c1 := (83, [some (.inr (.inr (some (13, 0)))), some (.inl a1_), some (.inl a2_), some (.inl a3_)], [.inl 0], sm_pI S0_ 13 0 0 1)) rfl ?_
    refine sm_T_ri rfl ⟨_, _, rfl, _, rfl, hIx8_, hFx9_, ?_⟩
    refine ⟨⟨by omega, by omega⟩, jR_fr hJ_ hIx8_ hFx9_⟩
  · have cx7_ : ¬ (vx6_ = 0) := of_decide_eq_false cx7_
    refine sm_T_go 3 (c1 := (12, [some (.inr (.inr (some (13, 0)))), some (.inl a1_), some (.inl a2_), some (.inl a3_)], [.inl 1, .inl 0, .inl a3_, .inr (.inr (some (13, 0)))], S0_)) rfl ?_
    refine sm_T_cal (d1 := 0) (Q1 := vq_278 a3_ 0 1 S0_) rfl rfl (by decide) (vc_278 a3_ 0 1 S0_ hI_ ) (fun u_ Sx10_ px13_ => ?_)
    obtain ⟨rfl, vx15_, rfl, px13_⟩ := px13_
    have e12 := px13_
    refine sm_T_b0 (a := 0) (z := 7) rfl (fun cx16_ => ?_) (fun cx16_ => ?_)
    · have cx16_ : vx15_ = 0 := of_decide_eq_true cx16_
      have hIx17_ : gi (sm_pI S0_ 13 0 0 1) := gi_pI hI_ (show 0 ≤ 1 ∧ 1 ≤ 4 from ⟨by omega, by omega⟩)
      have hFx18_ : ai_fr (sx_W vw_487) S0_ (sm_pI S0_ 13 0 0 1) := ai_fr_tr hF_ (ai_fr_pI rfl)
      refine sm_T_go 8 (c1 := (83, [some (.inr (.inr (some (13, 0)))), some (.inl a1_), some (.inl a2_), some (.inl a3_)], [.inl 0], sm_pI S0_ 13 0 0 1)) rfl ?_
      refine sm_T_ri rfl ⟨_, _, rfl, _, rfl, hIx17_, hFx18_, ?_⟩
      refine ⟨⟨by omega, by omega⟩, jR_fr hJ_ hIx17_ hFx18_⟩
    · have cx16_ : ¬ (vx15_ = 0) := of_decide_eq_false cx16_
      refine sm_T_go 1 (c1 := (19, [some (.inr (.inr (some (13, 0)))), some (.inl a1_), some (.inl a2_), some (.inl a3_)], [.inl a2_, .inr (.inr (some (13, 0)))], S0_)) rfl ?_
      refine sm_T_b0 (a := 3) (z := 7) rfl (fun cx19_ => ?_) (fun cx19_ => ?_)
      · have cx19_ : 0 ≤ a2_ := of_decide_eq_true cx19_
        refine sm_T_go 3 (c1 := (31, [some (.inr (.inr (some (13, 0)))), some (.inl a1_), some (.inl a2_), some (.inl a3_)], [.inl a1_, .inr (.inr (some (263, 0))), .inr (.inr (some (13, 0)))], S0_)) rfl ?_
        refine sm_T_zald (n := 4) rfl rfl (by omega) (by omega) ?_
        have bx20_ : 0 ≤ S0_.2.2.1 263 0 a1_.toNat ∧ S0_.2.2.1 263 0 a1_.toNat ≤ 1 := hI_.2 263 0 _
        refine sm_T_b0 (a := 1) (z := 7) rfl (fun cx21_ => ?_) (fun cx21_ => ?_)
        · have cx21_ : (S0_.2.2.1 263 0 a1_.toNat) ≠ 0 := of_decide_eq_true cx21_
          refine sm_T_go 3 (c1 := (42, [some (.inr (.inr (some (13, 0)))), some (.inl a1_), some (.inl a2_), some (.inl a3_)], [.inl a2_, .inl a1_, .inr (.inr (some (13, 0))), .inr (.inr (some (13, 0)))], S0_)) rfl ?_
          refine sm_T_cal (d1 := 4) (Q1 := vq_485 a1_ a2_ S0_) rfl rfl (by decide) (vc_485 a1_ a2_ S0_ hI_ (by omega) (by omega)) (fun u_ Sx22_ px25_ => ?_)
          obtain ⟨vx27_, rfl, hIx23_, hFx24_, px25_⟩ := px25_
          have hFx26_ : ai_fr (sx_W vw_487) S0_ Sx22_ := ai_fr_tr hF_ (fr_le hFx24_ rfl)
          refine sm_T_go 1 (c1 := (46, [some (.inr (.inr (some (13, 0)))), some (.inl a1_), some (.inl a2_), some (.inl a3_)], [.inl a2_, .inl vx27_, .inr (.inr (some (13, 0)))], Sx22_)) rfl ?_
          refine sm_T_br (a := 4) (z := 7) rfl (fun cx28_ => ?_) (fun cx28_ => ?_)
          · have cx28_ : a2_ < vx27_ := of_decide_eq_true cx28_
            have hIx29_ : gi (sm_pI Sx22_ 13 0 0 0) := gi_pI hIx23_ (show 0 ≤ 0 ∧ 0 ≤ 4 from ⟨by omega, by omega⟩)
            have hFx30_ : ai_fr (sx_W vw_487) S0_ (sm_pI Sx22_ 13 0 0 0) := ai_fr_tr hFx26_ (ai_fr_pI rfl)
            refine sm_T_go 6 (c1 := (69, [some (.inr (.inr (some (13, 0)))), some (.inl a1_), some (.inl a2_), some (.inl a3_)], [.inl a3_], sm_pI Sx22_ 13 0 0 0)) rfl ?_
            refine sm_T_b0 (a := 1) (z := 10) rfl (fun cx31_ => ?_) (fun cx31_ => ?_)
            · have cx31_ : a3_ ≠ 0 := of_decide_eq_true cx31_
              have bx32_ : (-1) ≤ Sx22_.1 13 0 191 ∧ Sx22_.1 13 0 191 ≤ 2000 := hIx23_.1 13 0 191 rfl
              refine sm_T_go 2 (c1 := (83, [some (.inr (.inr (some (13, 0)))), some (.inl a1_), some (.inl a2_), some (.inl a3_)], [.inl (Sx22_.1 13 0 191)], sm_pI Sx22_ 13 0 0 0)) rfl ?_
              refine sm_T_ri rfl ⟨_, _, rfl, _, rfl, hIx29_, hFx30_, ?_⟩
              refine ⟨⟨by omega, by omega⟩, jR_fr hJ_ hIx29_ hFx30_⟩
            · have cx31_ : ¬ (a3_ ≠ 0) := of_decide_eq_false cx31_
              have bx33_ : 0 ≤ Sx22_.1 13 0 190 ∧ Sx22_.1 13 0 190 ≤ 2000 := hIx23_.1 13 0 190 rfl
              refine sm_T_go 3 (c1 := (83, [some (.inr (.inr (some (13, 0)))), some (.inl a1_), some (.inl a2_), some (.inl a3_)], [.inl (Sx22_.1 13 0 190)], sm_pI Sx22_ 13 0 0 0)) rfl ?_
              refine sm_T_ri rfl ⟨_, _, rfl, _, rfl, hIx29_, hFx30_, ?_⟩
              refine ⟨⟨by omega, by omega⟩, jR_fr hJ_ hIx29_ hFx30_⟩
          · have cx28_ : ¬ (a2_ < vx27_) := of_decide_eq_false cx28_
            have hIx34_ : gi (sm_pI Sx22_ 13 0 0 1) := gi_pI hIx23_ (show 0 ≤ 1 ∧ 1 ≤ 4 from ⟨by omega, by omega⟩)
            have hFx35_ : ai_fr (sx_W vw_487) S0_ (sm_pI Sx22_ 13 0 0 1) := ai_fr_tr hFx26_ (ai_fr_pI rfl)
            refine sm_T_go 8 (c1 := (83, [some (.inr (.inr (some (13, 0)))), some (.inl a1_), some (.inl a2_), some (.inl a3_)], [.inl 0], sm_pI Sx22_ 13 0 0 1)) rfl ?_
            refine sm_T_ri rfl ⟨_, _, rfl, _, rfl, hIx34_, hFx35_, ?_⟩
            refine ⟨⟨by omega, by omega⟩, jR_fr hJ_ hIx34_ hFx35_⟩
        · have cx21_ : ¬ ((S0_.2.2.1 263 0 a1_.toNat) ≠ 0) := of_decide_eq_false cx21_
          have hIx36_ : gi (sm_pI S0_ 13 0 0 2) := gi_pI hI_ (show 0 ≤ 2 ∧ 2 ≤ 4 from ⟨by omega, by omega⟩)
          have hFx37_ : ai_fr (sx_W vw_487) S0_ (sm_pI S0_ 13 0 0 2) := ai_fr_tr hF_ (ai_fr_pI rfl)
          refine sm_T_go 8 (c1 := (83, [some (.inr (.inr (some (13, 0)))), some (.inl a1_), some (.inl a2_), some (.inl a3_)], [.inl 0], sm_pI S0_ 13 0 0 2)) rfl ?_
          refine sm_T_ri rfl ⟨_, _, rfl, _, rfl, hIx36_, hFx37_, ?_⟩
          refine ⟨⟨by omega, by omega⟩, jR_fr hJ_ hIx36_ hFx37_⟩
      · have cx19_ : ¬ (0 ≤ a2_) := of_decide_eq_false cx19_
        have hIx38_ : gi (sm_pI S0_ 13 0 0 1) := gi_pI hI_ (show 0 ≤ 1 ∧ 1 ≤ 4 from ⟨by omega, by omega⟩)
        have hFx39_ : ai_fr (sx_W vw_487) S0_ (sm_pI S0_ 13 0 0 1) := ai_fr_tr hF_ (ai_fr_pI rfl)
        refine sm_T_go 8 (c1 := (83, [some (.inr (.inr (some (13, 0)))), some (.inl a1_), some (.inl a2_), some (.inl a3_)], [.inl 0], sm_pI S0_ 13 0 0 1)) rfl ?_
        refine sm_T_ri rfl ⟨_, _, rfl, _, rfl, hIx38_, hFx39_, ?_⟩
        refine ⟨⟨by omega, by omega⟩, jR_fr hJ_ hIx38_ hFx39_⟩
end
