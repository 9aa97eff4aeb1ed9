/-! both sides: shown alike; written by wip/p55/gen/vg -/

theorem cgs_e {c_ : Nat} {S_ R_ : sm_S} (hk_ : chk c_ S_ R_) : ∀ g_ : Nat, g_ < (S_.1 2 c_ 8).toNat → gis (c_ : Int) R_ g_ = cgs c_ S_ g_ := fun g_ hg_ => by
  have e_ := (re_n hk_ (g_ := g_) (by omega)).2
  unfold cgs
  rw [← e_]
  rfl
theorem cfu_e {c_ : Nat} {S_ R_ : sm_S} (hk_ : chk c_ S_ R_) : fco (c_ : Int) R_ = cfu9 c_ S_ := by
  obtain ⟨⟨b1_, b2_, b3_, b4_, b8_⟩, -⟩ := id hk_
  unfold fco cfu9 cnc
  rw [Int.toNat_natCast, ← b1_, ← b2_, ← b8_, sn9_cg (cgs_e hk_) _ (Nat.le_refl _)]
/-- a_ pattern shows a_ fault on_ both sides or on_ none -/
theorem csh_e {c_ : Nat} {S_ R_ : sm_S} {f_ : Int} {p_ : Nat} {b_ b'_ : Bool} (hI_ : gi R_) (hk_ : chk c_ S_ R_) (hg_ : cgt (c_ : Int) R_) (ho_ : con (c_ : Int) R_) (F0_ : 0 ≤ S_.1 2 c_ 1 ∧ 0 ≤ S_.1 2 c_ 2 ∧ 0 ≤ S_.1 2 c_ 8 ∧ 0 ≤ S_.1 2 c_ 3) (h_ : cshq c_ S_ f_ p_ b_) (h'_ : rshq (c_ : Int) R_ f_ p_ b'_) : b_ = b'_ := by
  obtain ⟨⟨b1_, b2_, b3_, b4_, b8_⟩, -, -, k5_, k6_⟩ := id hk_
  obtain ⟨st_, pn_, v_, u_, d_, v1_, u1_, i1_⟩ := h_
  obtain ⟨st'_, pn'_, v'_, u'_, d'_, v1'_, u1'_, i1'_⟩ := h'_
  have dd_ : fdq (cnc c_ S_) (cgs c_ S_) (S_.1 2 c_ 8).toNat f_ st'_ pn'_ := by
    unfold rnc at d'_
    rw [Int.toNat_natCast, ← b1_, ← b2_, ← b8_] at d'_
    exact fdq_cg (fun k_ hk9_ => (cgs_e hk_ k_ hk9_).symm) d'_
  obtain ⟨e1_, e2_⟩ := fdq_u d_ dd_
  rw [← e1_, ← e2_] at u1'_
  have ev := re_u hk_ hg_ ⟨F0_.1, F0_.2.1⟩ v1_ v1'_
  have eu_ : ∀ n_, n_ < (S_.1 2 c_ 1 + S_.1 2 c_ 2).toNat + (S_.1 2 c_ 8).toNat → u_ n_ = u'_ n_ := by
    unfold rcf9 at u1'_
    rw [Int.toNat_natCast, ← b1_, ← b2_, ← b8_] at u1'_
    intro n_ hn_
    refine cvf_u (fun g_ hg9_ => re_g hk_ hg_ ⟨F0_.1, F0_.2.1⟩ (by omega)) (fun g_ hg9_ => ?_) u1_ u1'_ (n_ + 1) n_ (Nat.lt_succ_self n_) hn_
    have e_ := re_n hk_ (g_ := g_) (by omega)
    have o_ := (re_g hk_ hg_ ⟨F0_.1, F0_.2.1⟩ (g_ := g_) (by omega)).1
    refine ⟨e_.1, e_.2, ?_, fun z_ => ?_, fun z_ => ?_⟩
    · rw [re_a hk_ (by omega) (by decide), if_pos (by omega)]
    · rw [re_a hk_ (by omega) (by decide), if_pos (by omega)]
    · rw [re_a hk_ (by omega) (by decide), if_pos (by omega)]
  have so_ : ∀ j_ : Nat, j_ < (S_.1 2 c_ 3).toNat → S_.2.2.1 37 (0 + c_) j_ = rno (c_ : Int) R_ j_ ∧ -2 ≤ rno (c_ : Int) R_ j_ ∧ rno (c_ : Int) R_ j_ < (((S_.1 2 c_ 1 + S_.1 2 c_ 2).toNat + (S_.1 2 c_ 8).toNat : Nat) : Int) := fun j_ hj_ => by
    have o_ := ho_.1 (j_ : Int) (by omega) (by rw [Int.toNat_natCast]; omega)
    have i_ := hI_.2 231 0 (16 * c_ + j_)
    have i_ : -2 ≤ R_.2.2.1 231 0 (16 * c_ + j_) := i_.1
    rw [Int.toNat_natCast, ← b1_, ← b2_, ← b8_, show (16 * (c_ : Int) + (j_ : Int)).toNat = 16 * c_ + j_ by omega] at o_
    unfold rno
    rw [show (16 * (c_ : Int) + (j_ : Int)).toNat = 16 * c_ + j_ by omega, k5_ j_ (by omega)]
    exact ⟨rfl, i_, by omega⟩
  have sn_ : ∀ j_ : Nat, j_ < (S_.1 2 c_ 2).toNat → S_.2.2.1 38 (0 + c_) j_ = rnx (c_ : Int) R_ j_ ∧ -2 ≤ rnx (c_ : Int) R_ j_ ∧ rnx (c_ : Int) R_ j_ < (((S_.1 2 c_ 1 + S_.1 2 c_ 2).toNat + (S_.1 2 c_ 8).toNat : Nat) : Int) := fun j_ hj_ => by
    have o_ := ho_.2 (j_ : Int) (by omega) (by rw [Int.toNat_natCast]; omega)
    have i_ := hI_.2 232 0 (6 * c_ + j_)
    have i_ : -2 ≤ R_.2.2.1 232 0 (6 * c_ + j_) := i_.1
    rw [Int.toNat_natCast, ← b1_, ← b2_, ← b8_, show (6 * (c_ : Int) + (j_ : Int)).toNat = 6 * c_ + j_ by omega] at o_
    unfold rnx
    rw [show (6 * (c_ : Int) + (j_ : Int)).toNat = 6 * c_ + j_ by omega, k6_ j_ (by omega)]
    exact ⟨rfl, i_, by omega⟩
  rw [Int.toNat_natCast, ← b3_, ← b2_] at i1'_
  have key_ : shd v_ u_ (S_.2.2.1 37 (0 + c_)) (S_.2.2.1 38 (0 + c_)) (S_.1 2 c_ 3).toNat (S_.1 2 c_ 2).toNat ↔ shd v'_ u'_ (rno (c_ : Int) R_) (rnx (c_ : Int) R_) (S_.1 2 c_ 3).toNat (S_.1 2 c_ 2).toNat := by
    unfold shd
    constructor
    · rintro (⟨j_, hj_, q_⟩ | ⟨j_, hj_, q_⟩)
      · obtain ⟨s1_, s2_, s3_⟩ := so_ j_ hj_
        rw [s1_, nev_cg ev s2_ s3_, nev_cg eu_ s2_ s3_] at q_
        exact Or.inl ⟨j_, hj_, q_⟩
      · obtain ⟨s1_, s2_, s3_⟩ := sn_ j_ hj_
        rw [s1_, nev_cg ev s2_ s3_, nev_cg eu_ s2_ s3_] at q_
        exact Or.inr ⟨j_, hj_, q_⟩
    · rintro (⟨j_, hj_, q_⟩ | ⟨j_, hj_, q_⟩)
      · obtain ⟨s1_, s2_, s3_⟩ := so_ j_ hj_
        rw [← nev_cg ev s2_ s3_, ← nev_cg eu_ s2_ s3_, ← s1_] at q_
        exact Or.inl ⟨j_, hj_, q_⟩
      · obtain ⟨s1_, s2_, s3_⟩ := sn_ j_ hj_
        rw [← nev_cg ev s2_ s3_, ← nev_cg eu_ s2_ s3_, ← s1_] at q_
        exact Or.inr ⟨j_, hj_, q_⟩
  have z_ := i1_.trans (key_.trans i1'_.symm)
  cases b_ <;> cases b'_
  · rfl
  · exact absurd (z_.mpr rfl) (by decide)
  · exact absurd (z_.mp rfl) (by decide)
  · rfl
/-- the_ least pattern that shows a_ fault: the_ class's chip -/
def csl (c_ : Nat) (S_ : sm_S) (f_ v_ : Int) : Prop := (v_ = -1 ∧ ∀ p_ : Nat, (p_ : Int) < 2 ^ (S_.1 2 c_ 1 + S_.1 2 c_ 2).toNat → cshq c_ S_ f_ p_ false) ∨ ∃ q_ : Nat, v_ = (q_ : Int) ∧ (q_ : Int) < 2 ^ (S_.1 2 c_ 1 + S_.1 2 c_ 2).toNat ∧ cshq c_ S_ f_ q_ true ∧ ∀ p_ : Nat, p_ < q_ → cshq c_ S_ f_ p_ false
/-- both sides find the_ same -/
theorem csl_e {c_ : Nat} {S_ R_ : sm_S} {f_ v_ w_ : Int} (hI_ : gi R_) (hk_ : chk c_ S_ R_) (hg_ : cgt (c_ : Int) R_) (ho_ : con (c_ : Int) R_) (F0_ : 0 ≤ S_.1 2 c_ 1 ∧ 0 ≤ S_.1 2 c_ 2 ∧ 0 ≤ S_.1 2 c_ 8 ∧ 0 ≤ S_.1 2 c_ 3) (h_ : csl c_ S_ f_ v_) (h'_ : rsl (c_ : Int) R_ f_ w_) : v_ = w_ := by
  obtain ⟨⟨b1_, b2_, -⟩, -⟩ := id hk_
  unfold rsl at h'_
  rw [Int.toNat_natCast, ← b1_, ← b2_] at h'_
  have no_ : ∀ p_ : Nat, cshq c_ S_ f_ p_ true → rshq (c_ : Int) R_ f_ p_ false → False := fun p_ x_ y_ => absurd (csh_e hI_ hk_ hg_ ho_ F0_ x_ y_) (by decide)
  have no'_ : ∀ p_ : Nat, cshq c_ S_ f_ p_ false → rshq (c_ : Int) R_ f_ p_ true → False := fun p_ x_ y_ => absurd (csh_e hI_ hk_ hg_ ho_ F0_ x_ y_) (by decide)
  rcases h_ with ⟨a1_, a2_⟩ | ⟨q_, a1_, a2_, a3_, a4_⟩
  · rcases h'_ with ⟨c1_, c2_⟩ | ⟨r_, c1_, c2_, c3_, c4_⟩
    · rw [a1_, c1_]
    · exact (no'_ r_ (a2_ r_ c2_) c3_).elim
  · rcases h'_ with ⟨c1_, c2_⟩ | ⟨r_, c1_, c2_, c3_, c4_⟩
    · exact (no_ q_ a3_ (c2_ q_ a2_)).elim
    · rcases Nat.lt_trichotomy q_ r_ with z_ | z_ | z_
      · exact (no_ q_ a3_ (c4_ q_ z_)).elim
      · rw [a1_, c1_, z_]
      · exact (no'_ r_ (a4_ r_ z_) c3_).elim
theorem lb_s0 {x_ k_ : Int} (hk_ : 0 ≤ k_ ∧ k_ ≤ 63) : l_3 (l_s1 x_ k_) 1 ≠ 0 ↔ lbt x_ k_.toNat = true := by
  obtain ⟨u_, rfl⟩ : ∃ u_ : Nat, k_ = (u_ : Int) := ⟨k_.toNat, by omega⟩
  rw [Int.toNat_natCast]
  have q_ : lbt (l_3 (l_s1 x_ (u_ : Int)) 1) 0 = lbt x_ u_ := by
    rw [lbt_3, lbt_1, Bool.and_true, lbt_s1 (by omega)]
  constructor
  · intro h_
    cases c_ : lbt x_ u_
    · exfalso
      apply h_
      refine lbt_e (lcn_i _) (lcn_i 0) (fun i_ hi_ => ?_)
      rw [lbt_3, lbt_0]
      by_cases d_ : i_ = 0
      · rw [d_, lbt_s1 (by omega), c_, Bool.false_and]
      · rw [lb_k1 ⟨i_, hi_⟩ d_, Bool.and_false]
    · rfl
  · intro h_ z_
    rw [z_, lbt_0, h_] at q_
    exact absurd q_ (by decide)
/-! Tester.isShown -/
def vw_176n : sx_Wl := ([], [], [])
def vq_176n (a1_ : Int) (a2_ : Int) (S0_ : sm_S) (u_ : Option sm_V) (S1_ : sm_S) : Prop := S0_ = S1_ ∧ ∃ v_ : Int, u_ = some (.inl v_) ∧ ((0 ≤ v_ ∧ v_ ≤ 1) ∧ lbt (S0_.2.2.2 95 0 (64 * a2_.toNat + a1_.toNat / 64)) (a1_.toNat % 64) = decide (v_ = 1))
set_option maxHeartbeats 400000 in
theorem vc_176n {sc_ : Nat × (Nat → Int)} (a1_ : Int) (a2_ : Int) (S0_ : sm_S) (hI_ : gi S0_) (h1_ : 0 ≤ a1_ ∧ a1_ ≤ 4095) (h2_ : 0 ≤ a2_ ∧ a2_ ≤ 1223) : sm_T (mt_P sc_) 0 176 (0, [some (.inr (.inr (some (9, 0)))), some (.inl a1_), some (.inl a2_)], [], S0_) (fun ro9_ => ∃ u_ S1_, ro9_ = (.inl u_, S1_, 0) ∧ vq_176n a1_ a2_ S0_ u_ S1_) := by
  have hF_ : ai_fr (sx_W vw_176n) S0_ S0_ := ai_fr_rf
  refine sm_T_go 4 (c1 := (7, [some (.inr (.inr (some (9, 0)))), some (.inl a1_), some (.inl a2_)], [.inl 64, .inl a2_, .inr (.inr (some (95, 0)))], S0_)) rfl ?_
  refine sm_T_bin (w := 64 * a2_) rfl (bi_mul (by omega) (by omega) (by omega)) ?_ -- pc_ 7
  refine sm_T_go 2 (c1 := (11, [some (.inr (.inr (some (9, 0)))), some (.inl a1_), some (.inl a2_)], [.inl 6, .inl a1_, .inl (64 * a2_), .inr (.inr (some (95, 0)))], S0_)) rfl ?_
  refine sm_T_bin (w := (a1_ / 64)) rfl (bi_shr (k := 6) (by decide) (by omega) (by omega)) ?_ -- pc_ 11
  refine sm_T_bin (w := 64 * a2_ + (a1_ / 64)) rfl (bi_add (by omega) (by omega) (by omega)) ?_ -- pc_ 12
  refine sm_T_lald (n := 78336) rfl rfl (by omega) (by omega) ?_
  refine sm_T_go 2 (c1 := (17, [some (.inr (.inr (some (9, 0)))), some (.inl a1_), some (.inl a2_)], [.inl 63, .inl a1_, .inr (.inl (S0_.2.2.2 95 0 (64 * a2_ + (a1_ / 64)).toNat))], S0_)) rfl ?_
  refine sm_T_bin (w := (a1_ % 64)) rfl (bi_msk (k := 6) (by decide)) ?_ -- pc_ 17
  refine sm_T_go 5 (c1 := (23, [some (.inr (.inr (some (9, 0)))), some (.inl a1_), some (.inl a2_)], [.inl (sm_lcmp ((l_3 ((l_s1 ((S0_.2.2.2 95 0 (64 * a2_ + (a1_ / 64)).toNat)) (a1_ % 64))) 1)) 0)], S0_)) rfl ?_
  refine sm_T_b0 (a := 0) (z := 7) rfl (fun cx1_ => ?_) (fun cx1_ => ?_)
  · have cx1_ : (sm_lcmp ((l_3 ((l_s1 ((S0_.2.2.2 95 0 (64 * a2_ + (a1_ / 64)).toNat)) (a1_ % 64))) 1)) 0) = 0 := of_decide_eq_true cx1_
    refine sm_T_go 1 (c1 := (31, [some (.inr (.inr (some (9, 0)))), some (.inl a1_), some (.inl a2_)], [.inl 0], S0_)) rfl ?_
    refine sm_T_rz rfl (by omega) ⟨_, _, rfl, rfl, _, rfl, ?_⟩
    refine ⟨by omega, ?_⟩
    have b9_ := lb_s0 (x_ := S0_.2.2.2 95 0 (64 * a2_ + a1_ / 64).toNat) (k_ := a1_ % 64) (by omega)
    rw [show 64 * a2_.toNat + a1_.toNat / 64 = (64 * a2_ + a1_ / 64).toNat by omega, show a1_.toNat % 64 = (a1_ % 64).toNat by omega]
    first | (rw [b9_.mp (fun q9_ => absurd (lcmp_0.mpr q9_) (by assumption))]; rfl) | (cases q8_ : lbt (S0_.2.2.2 95 0 (64 * a2_ + a1_ / 64).toNat) (a1_ % 64).toNat; rfl; exact absurd (lcmp_0.mp (by assumption)) (b9_.mpr q8_))
  · have cx1_ : ¬ ((sm_lcmp ((l_3 ((l_s1 ((S0_.2.2.2 95 0 (64 * a2_ + (a1_ / 64)).toNat)) (a1_ % 64))) 1)) 0) = 0) := of_decide_eq_false cx1_
    refine sm_T_go 2 (c1 := (31, [some (.inr (.inr (some (9, 0)))), some (.inl a1_), some (.inl a2_)], [.inl 1], S0_)) rfl ?_
    refine sm_T_rz rfl (by omega) ⟨_, _, rfl, rfl, _, rfl, ?_⟩
    refine ⟨by omega, ?_⟩
    have b9_ := lb_s0 (x_ := S0_.2.2.2 95 0 (64 * a2_ + a1_ / 64).toNat) (k_ := a1_ % 64) (by omega)
    rw [show 64 * a2_.toNat + a1_.toNat / 64 = (64 * a2_ + a1_ / 64).toNat by omega, show a1_.toNat % 64 = (a1_ % 64).toNat by omega]
    first | (rw [b9_.mp (fun q9_ => absurd (lcmp_0.mpr q9_) (by assumption))]; rfl) | (cases q8_ : lbt (S0_.2.2.2 95 0 (64 * a2_ + a1_ / 64).toNat) (a1_ % 64).toNat; rfl; exact absurd (lcmp_0.mp (by assumption)) (b9_.mpr q8_))
