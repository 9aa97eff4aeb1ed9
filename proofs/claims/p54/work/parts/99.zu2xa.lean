/-! both sides run alike; written by wip/p55/gen/vg -/

/-! a_ chip runs alike on_ both sides -/
theorem nev_cg {v_ u_ : Nat → Bool} {n_ : Int} {N_ : Nat} (h_ : ∀ k_, k_ < N_ → v_ k_ = u_ k_) (h1_ : -2 ≤ n_) (h2_ : n_ < (N_ : Int)) : nev v_ n_ = nev u_ n_ := by
  unfold nev
  by_cases c1_ : n_ = -1
  · rw [if_pos c1_, if_pos c1_]
  · rw [if_neg c1_, if_neg c1_]
    by_cases c2_ : n_ = -2
    · rw [if_pos c2_, if_pos c2_]
    · rw [if_neg c2_, if_neg c2_]
      exact h_ _ (by omega)
section RN_
variable {c_ : Nat} {S_ R_ : sm_S}
theorem re_n (hk_ : chk c_ S_ R_) {g_ : Nat} (hg_ : (g_ : Int) < S_.1 2 c_ 8) : krT (c_ : Int) R_ g_ = kcT c_ S_ g_ ∧ krN (c_ : Int) R_ g_ = kcN c_ S_ g_ := by
  obtain ⟨-, ⟨-, l2_, l3_⟩, g4_, -, -⟩ := hk_
  obtain ⟨⟨q1_, q2_, q3_⟩, -⟩ := g4_ g_ hg_
  have e_ := l3_ (S_.2.2.1 35 (0 + c_) g_).toNat (by omega)
  unfold krT krN kcT kcN
  rw [show (150 * (c_ : Int) + (g_ : Int)).toNat = 150 * c_ + g_ by omega, ← q3_, show (12 * (c_ : Int) + S_.2.2.1 35 (0 + c_) g_).toNat = 12 * c_ + (S_.2.2.1 35 (0 + c_) g_).toNat by omega]
  exact ⟨e_.2.1.symm, e_.1.symm⟩
theorem re_a (hk_ : chk c_ S_ R_) {g_ k_ : Nat} (hg_ : (g_ : Int) < S_.1 2 c_ 8) (h3_ : k_ < 3) : krA (c_ : Int) R_ g_ k_ = if (k_ : Int) < kcN c_ S_ g_ then kcA c_ S_ g_ k_ else -1 := by
  obtain ⟨-, -, g4_, -, -⟩ := hk_
  have e_ := (g4_ g_ hg_).2 k_ h3_
  unfold krA kcN kcA
  rw [show (450 * (c_ : Int) + 3 * (g_ : Int) + (k_ : Int)).toNat = 450 * c_ + (3 * g_ + k_) by omega]
  exact e_
theorem re_g (hk_ : chk c_ S_ R_) (hg_ : cgt (c_ : Int) R_) (F0_ : 0 ≤ S_.1 2 c_ 1 ∧ 0 ≤ S_.1 2 c_ 2) {g_ : Nat} (h_ : (g_ : Int) < S_.1 2 c_ 8) : gio (S_.1 2 c_ 1 + S_.1 2 c_ 2).toNat g_ (kcN c_ S_ g_) (kcA c_ S_ g_) := by
  obtain ⟨⟨b1_, b2_, b3_, b4_, b8_⟩, -⟩ := id hk_
  have n9_ := (re_n hk_ h_).2
  have G_ : ∀ k_ : Nat, k_ < 3 → (k_ = 0 ∨ (k_ : Int) < kcN c_ S_ g_) → 0 ≤ krA (c_ : Int) R_ g_ k_ ∧ krA (c_ : Int) R_ g_ k_ < (((S_.1 2 c_ 1 + S_.1 2 c_ 2).toNat : Nat) : Int) + (g_ : Int) := fun k_ h3_ hq_ => by
    have z_ := hg_ (g_ : Int) (by omega) (by rw [Int.toNat_natCast, ← b8_]; exact h_) (k_ : Int) (by omega) (by omega) (by
      rcases hq_ with q_ | q_
      · exact Or.inl (by omega)
      · right
        rw [← n9_] at q_
        exact q_)
    rw [Int.toNat_natCast, ← b1_, ← b2_] at z_
    unfold krA
    exact ⟨z_.1, by omega⟩
  have m1_ : 1 ≤ kcN c_ S_ g_ := by
    have z_ := (G_ 0 (by decide) (Or.inl rfl)).1
    rw [re_a hk_ h_ (by decide)] at z_
    by_cases q_ : ((0 : Nat) : Int) < kcN c_ S_ g_
    · omega
    · rw [if_neg q_] at z_
      exact absurd z_ (by decide)
  have A_ : ∀ k_ : Nat, k_ < 3 → (k_ : Int) < kcN c_ S_ g_ → 0 ≤ kcA c_ S_ g_ k_ ∧ kcA c_ S_ g_ k_ < (((S_.1 2 c_ 1 + S_.1 2 c_ 2).toNat : Nat) : Int) + (g_ : Int) := fun k_ h3_ hq_ => by
    have z_ := G_ k_ h3_ (Or.inr hq_)
    rw [re_a hk_ h_ h3_, if_pos hq_] at z_
    exact z_
  exact ⟨m1_, A_ 0 (by decide) (by omega), fun z_ => A_ 1 (by decide) (by omega), fun z_ => A_ 2 (by decide) (by omega)⟩
/-- the_ same nets at a_ pattern -/
theorem re_u (hk_ : chk c_ S_ R_) (hg_ : cgt (c_ : Int) R_) (F0_ : 0 ≤ S_.1 2 c_ 1 ∧ 0 ≤ S_.1 2 c_ 2) {q_ : Nat} {v_ u_ : Nat → Bool} (hv_ : cvq (S_.1 2 c_ 1 + S_.1 2 c_ 2).toNat (S_.1 2 c_ 8).toNat (kcT c_ S_) (kcN c_ S_) (kcA c_ S_) q_ v_) (hu_ : rcvq (c_ : Int) R_ q_ u_) : ∀ n_, n_ < (S_.1 2 c_ 1 + S_.1 2 c_ 2).toNat + (S_.1 2 c_ 8).toNat → v_ n_ = u_ n_ := by
  obtain ⟨⟨b1_, b2_, b3_, b4_, b8_⟩, -⟩ := id hk_
  unfold rcvq at hu_
  rw [Int.toNat_natCast, ← b1_, ← b2_, ← b8_] at hu_
  intro n_ hn_
  refine cvq_u (fun g_ hg9_ => re_g hk_ hg_ F0_ (by omega)) (fun g_ hg9_ => ?_) hv_ hu_ (n_ + 1) n_ (Nat.lt_succ_self n_) hn_
  have e_ := re_n hk_ (g_ := g_) (by omega)
  have o_ := (re_g hk_ hg_ F0_ (g_ := g_) (by omega)).1
  refine ⟨e_.1, e_.2, ?_, fun z_ => ?_, fun z_ => ?_⟩
  · rw [re_a hk_ (by omega) (by decide), if_pos (by omega)]
  · rw [re_a hk_ (by omega) (by decide), if_pos (by omega)]
  · rw [re_a hk_ (by omega) (by decide), if_pos (by omega)]
/-- a_ chip's table is_ what the_ reference works out_ -/
theorem run_e (hI_ : gi R_) (hk_ : chk c_ S_ R_) (hg_ : cgt (c_ : Int) R_) (ho_ : con (c_ : Int) R_) (F0_ : 0 ≤ S_.1 2 c_ 1 ∧ 0 ≤ S_.1 2 c_ 2 ∧ 0 ≤ S_.1 2 c_ 8 ∧ 0 ≤ S_.1 2 c_ 3) (ht_ : kctb c_ S_) {p_ : Nat} (hp_ : (p_ : Int) < 2 ^ (S_.1 2 c_ 1 + S_.1 2 c_ 2).toNat) {u_ : Nat → Bool} (hu_ : rcvq (c_ : Int) R_ p_ u_) : S_.2.2.1 34 (0 + c_) p_ % 65536 = tbv (revq (c_ : Int) R_ u_) (R_.2.2.1 225 0 c_).toNat ∧ S_.2.2.1 34 (0 + c_) p_ / 65536 = tbv (rexq (c_ : Int) R_ u_) (R_.2.2.1 224 0 c_).toNat := by
  obtain ⟨⟨b1_, b2_, b3_, b4_, b8_⟩, -, -, k5_, k6_⟩ := id hk_
  obtain ⟨v_, hv_, h1_, h2_⟩ := ht_ p_ hp_
  have e_ := re_u hk_ hg_ ⟨F0_.1, F0_.2.1⟩ hv_ hu_
  rw [h1_, h2_, b3_, b2_]
  refine ⟨tbv_cg _ (fun j_ hj_ => ?_), tbv_cg _ (fun j_ hj_ => ?_)⟩
  · have o_ := ho_.1 (j_ : Int) (by omega) (by rw [Int.toNat_natCast]; omega)
    have i_ := hI_.2 231 0 (16 * c_ + j_)
    have i_ : -2 ≤ R_.2.2.1 231 0 (16 * c_ + j_) := i_.1
    rw [Int.toNat_natCast, ← b1_, ← b2_, ← b8_, show (16 * (c_ : Int) + (j_ : Int)).toNat = 16 * c_ + j_ by omega] at o_
    unfold revq
    rw [show (16 * (c_ : Int) + (j_ : Int)).toNat = 16 * c_ + j_ by omega, k5_ j_ (by omega)]
    exact nev_cg e_ i_ (by omega)
  · have o_ := ho_.2 (j_ : Int) (by omega) (by rw [Int.toNat_natCast]; omega)
    have i_ := hI_.2 232 0 (6 * c_ + j_)
    have i_ : -2 ≤ R_.2.2.1 232 0 (6 * c_ + j_) := i_.1
    rw [Int.toNat_natCast, ← b1_, ← b2_, ← b8_, show (6 * (c_ : Int) + (j_ : Int)).toNat = 6 * c_ + j_ by omega] at o_
    unfold rexq
    rw [show (6 * (c_ : Int) + (j_ : Int)).toNat = 6 * c_ + j_ by omega, k6_ j_ (by omega)]
    exact nev_cg e_ i_ (by omega)
end RN_

