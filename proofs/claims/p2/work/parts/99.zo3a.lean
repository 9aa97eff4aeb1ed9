/-! all gates of a chip; written by wip/p55/gen/vg -/

/-! all_ gates of_ a_ chip -/
/-- the_ literal that stands for_ a_ root -/
def slv (dd_ : Nat) (S_ : sm_S) (i_ : Int) : Int := i_xor (S_.2.2.1 44 (0 + dd_) (rtv dd_ S_ i_ / 2).toNat) (rtv dd_ S_ i_ % 2)
/-- every root can_ be_ made -/
def rgt (dd_ ll_ : Nat) (S_ : sm_S) : Prop := ∀ i_ : Int, 0 ≤ i_ → i_ < S_.1 3 dd_ 3 + S_.1 3 dd_ 2 → 1 < slv dd_ S_ i_ → gtk (1 + S_.1 3 dd_ 1 + S_.1 3 dd_ 2) (S_.1 3 dd_ 4) (S_.1 5 ll_ 2) (S_.2.2.1 59 0) (S_.2.2.1 62 0) (3 * (slv dd_ S_ i_ / 2) + 2 * (slv dd_ S_ i_ % 2))
theorem rgt_of {dd_ F_ ll_ : Nat} {S_ : sm_S} (hg_ : dgr dd_ F_ S_) (hr_ : drt dd_ S_) (hs_ : swp dd_ F_ S_) (hk_ : mkd dd_ F_ S_ (S_.2.2.1 59 0)) (n13_ : S_.1 3 dd_ 4 ≤ 1013) (hrr_ : ∀ i_ : Int, 0 ≤ i_ → i_ < S_.1 3 dd_ 3 + S_.1 3 dd_ 2 → S_.2.2.1 60 0 (srp dd_ S_ (rtv dd_ S_ i_)) ≠ 0) (hw_ : wal (1 + S_.1 3 dd_ 1 + S_.1 3 dd_ 2) (S_.1 3 dd_ 4) ll_ S_) (hiv_ : S_.1 5 ll_ 2 ≠ -1 ∨ ∀ i_ : Int, 0 ≤ i_ → i_ < S_.1 3 dd_ 3 + S_.1 3 dd_ 2 → slv dd_ S_ i_ ≤ 1 ∨ slv dd_ S_ i_ % 2 = 0) : rgt dd_ ll_ S_ := by
  intro i_ h0_ h1_ h2_
  have a_ := rtv_b hr_ hs_ h0_ h1_
  have b_ := swl_n hs_ a_.1.1 a_.1.2 n13_
  have c_ := hk_.2.1 i_ h0_ h1_
  have r_ := hrr_ i_ h0_ h1_
  have e_ : slv dd_ S_ i_ / 2 = (srp dd_ S_ (rtv dd_ S_ i_) : Int) := b_.1
  obtain ⟨x_, hx_⟩ : ∃ x_, x_ = srp dd_ S_ (rtv dd_ S_ i_) := ⟨_, rfl⟩
  obtain ⟨l_, hl_⟩ : ∃ l_, l_ = slv dd_ S_ i_ := ⟨_, rfl⟩
  rw [← hx_] at a_ c_ r_ e_
  have hv_ : l_ % 2 = 1 → S_.1 5 ll_ 2 ≠ -1 := by
    intro q_
    rcases hiv_ with z_ | z_
    · exact z_
    · have y_ := z_ i_ h0_ h1_
      rw [← hl_] at y_
      omega
  rw [← hl_] at e_ h2_ ⊢
  have g1_ := hg_.1
  have d1_ : (3 * (l_ / 2) + 2 * (l_ % 2)) / 3 = l_ / 2 := by omega
  have lw_ : lwy (1 + S_.1 3 dd_ 1 + S_.1 3 dd_ 2) (S_.2.2.1 62 0) (l_ / 2) 0 := by
    by_cases xf_ : l_ / 2 < 1 + S_.1 3 dd_ 1 + S_.1 3 dd_ 2
    · exact Or.inl ⟨xf_, rfl⟩
    · right
      have w_ := (hw_ x_ (by omega) (by omega) c_).2.2 r_
      refine ⟨by omega, wal_c hw_ (by omega) (by omega) (by omega) (by rw [show (l_ / 2).toNat = x_ by omega]; exact c_) (by omega) ?_⟩
      rw [show (2 * (l_ / 2) + 0).toNat = 2 * x_ by omega]; exact w_
  refine ⟨by omega, by omega, by rw [d1_, show (l_ / 2).toNat = x_ by omega]; exact c_, ?_⟩
  rw [d1_]
  by_cases o_ : l_ % 2 = 1
  · left
    exact ⟨by omega, hv_ o_, lw_⟩
  · right
    rw [show (3 * (l_ / 2) + 2 * (l_ % 2)) % 3 = 0 by omega]
    exact ⟨by decide, lw_⟩
theorem cdf5 {cc_ ll_ : Nat} {S_ S'_ : sm_S} (h_ : cdf cc_ S_ S'_) (hl_ : ll_ < 3) : S'_.1 5 ll_ 2 = S_.1 5 ll_ 2 ∧ S'_.2.2.1 55 (0 + ll_) = S_.2.2.1 55 (0 + ll_) :=
  ⟨(h_ 5 rfl ll_ (by rw [show cof 5 = 3 from rfl]; omega)).1 2, (h_ 55 rfl (0 + ll_) (by rw [show cof 55 = 3 from rfl]; omega)).2⟩
theorem rgt_cd {w_ : sx_Wl} {dd_ ll_ cc_ : Nat} {S0_ S_ S'_ : sm_S} (h_ : rgt dd_ ll_ S_) (g_ : ai_fr (sx_W w_) S_ S'_) (c_ : cdf cc_ S0_ S_) (c'_ : cdf cc_ S0_ S'_) (hl_ : ll_ < 3) (h1_ : (sx_W w_).1 3 1 = false := by rfl) (h2_ : (sx_W w_).1 3 2 = false := by rfl) (h3_ : (sx_W w_).1 3 3 = false := by rfl) (h4_ : (sx_W w_).1 3 4 = false := by rfl) (a3_ : (sx_W w_).2.1 44 = false := by rfl) (a4_ : (sx_W w_).2.1 45 = false := by rfl) (a5_ : (sx_W w_).2.1 46 = false := by rfl) (a6_ : (sx_W w_).2.1 59 = false := by rfl) (a7_ : (sx_W w_).2.1 62 = false := by rfl) : rgt dd_ ll_ S'_ := by
  unfold rgt slv rtv
  rw [g_.1 3 dd_ 1 h1_, g_.1 3 dd_ 2 h2_, g_.1 3 dd_ 3 h3_, g_.1 3 dd_ 4 h4_, fr_arr g_ a3_, fr_arr g_ a4_, fr_arr g_ a5_, fr_arr g_ a6_, fr_arr g_ a7_, (cdf5 c'_ hl_).1, ← (cdf5 c_ hl_).1]
  exact h_
theorem wok_eq {F_ n_ : Int} {ll_ l_ m_ : Nat} {S_ S'_ : sm_S} (h_ : wok F_ n_ ll_ S_ l_ m_) (a1_ : S'_.2.2.1 61 0 = S_.2.2.1 61 0) (a2_ : S'_.2.2.1 62 0 = S_.2.2.1 62 0) (a3_ : S'_.2.2.1 63 0 = S_.2.2.1 63 0) (a4_ : S'_.2.2.1 64 0 = S_.2.2.1 64 0) (a5_ : S'_.2.2.1 55 (0 + ll_) = S_.2.2.1 55 (0 + ll_)) (a6_ : S'_.2.2.1 59 0 = S_.2.2.1 59 0) (a7_ : S'_.2.2.1 60 0 = S_.2.2.1 60 0) (a8_ : S'_.1 5 ll_ 2 = S_.1 5 ll_ 2) : wok F_ n_ ll_ S'_ l_ m_ := by
  unfold wok wo3
  rw [a1_, a2_, a3_, a4_, a5_, a6_, a7_, a8_]
  exact h_
theorem wal_cd {w_ : sx_Wl} {f_ N_ : Int} {ll_ cc_ : Nat} {S0_ S_ S'_ : sm_S} (h_ : wal f_ N_ ll_ S_) (g_ : ai_fr (sx_W w_) S_ S'_) (c_ : cdf cc_ S0_ S_) (c'_ : cdf cc_ S0_ S'_) (hl_ : ll_ < 3) (a1_ : (sx_W w_).2.1 61 = false := by rfl) (a2_ : (sx_W w_).2.1 62 = false := by rfl) (a3_ : (sx_W w_).2.1 63 = false := by rfl) (a4_ : (sx_W w_).2.1 64 = false := by rfl) (a6_ : (sx_W w_).2.1 59 = false := by rfl) (a7_ : (sx_W w_).2.1 60 = false := by rfl) : wal f_ N_ ll_ S'_ := fun n_ h1_ h2_ h3_ => by
  rw [fr_arr g_ a6_] at h3_
  have q_ := h_ n_ h1_ h2_ h3_
  have e5_ := (cdf5 c'_ hl_).1.trans (cdf5 c_ hl_).1.symm
  have e55_ := (cdf5 c'_ hl_).2.trans (cdf5 c_ hl_).2.symm
  rw [fr_arr g_ a7_, fr_arr g_ a1_]
  exact ⟨wok_eq q_.1 (fr_arr g_ a1_) (fr_arr g_ a2_) (fr_arr g_ a3_) (fr_arr g_ a4_) e55_ (fr_arr g_ a6_) (fr_arr g_ a7_) e5_, wok_eq q_.2.1 (fr_arr g_ a1_) (fr_arr g_ a2_) (fr_arr g_ a3_) (fr_arr g_ a4_) e55_ (fr_arr g_ a6_) (fr_arr g_ a7_) e5_, q_.2.2⟩
/-- ways of_ lower nodes stay -/
theorem wok_n {F_ : Int} {n_ k_ ll_ l_ m_ : Nat} {S_ S'_ : sm_S} (h_ : wok F_ (k_ : Int) ll_ S_ l_ m_) (g_ : wfn n_ S_ S'_) (hk_ : k_ < n_) (h1_ : l_ = 2 * k_ ∨ l_ = 2 * k_ + 1) (h2_ : m_ = 2 * k_ ∨ m_ = 2 * k_ + 1) (c55_ : ∀ k_, S_.2.2.1 55 (0 + ll_) k_ ≤ 3) (a5_ : S'_.2.2.1 55 (0 + ll_) = S_.2.2.1 55 (0 + ll_)) (a6_ : S'_.2.2.1 59 0 = S_.2.2.1 59 0) (a7_ : S'_.2.2.1 60 0 = S_.2.2.1 60 0) (a8_ : S'_.1 5 ll_ 2 = S_.1 5 ll_ 2) : wok F_ (k_ : Int) ll_ S'_ l_ m_ := by
  have el_ := g_.1 l_ (by omega) (by omega)
  have em_ := g_.1 m_ (by omega) (by omega)
  rcases h_ with (h_ | h_) | h_
  · left; left
    rw [el_.1, el_.2.1]; exact h_
  · left; right
    rw [el_.1, el_.2.1, el_.2.2, a5_, a6_, a7_, a8_]
    refine ⟨h_.1, h_.2.1, fun j_ hj_ => ?_⟩
    have w_ := c55_ (S_.2.2.1 62 0 l_).toNat
    rw [g_.2 (3 * l_ + j_) (by omega)]
    exact wpt_cg (h_.2.2 j_ hj_) (by omega) (fun q_ hq_ => (g_.1 q_ (by omega) (by omega)).1)
  · right
    rw [el_.1, el_.2.1, em_.2.1, a8_]; exact h_
theorem wal_s {f_ : Int} {n_ ll_ : Nat} {S_ S'_ : sm_S} (h_ : wal f_ (n_ : Int) ll_ S_) (g_ : wfn n_ S_ S'_) (w1_ : wok f_ (n_ : Int) ll_ S'_ (2 * n_) (2 * n_ + 1)) (w2_ : wok f_ (n_ : Int) ll_ S'_ (2 * n_ + 1) (2 * n_)) (c55_ : ∀ k_, S_.2.2.1 55 (0 + ll_) k_ ≤ 3) (a5_ : S'_.2.2.1 55 (0 + ll_) = S_.2.2.1 55 (0 + ll_)) (a6_ : S'_.2.2.1 59 0 = S_.2.2.1 59 0) (a7_ : S'_.2.2.1 60 0 = S_.2.2.1 60 0) (a8_ : S'_.1 5 ll_ 2 = S_.1 5 ll_ 2) (hn_ : S'_.2.2.1 60 0 n_ = 0 ∨ S'_.2.2.1 61 0 (2 * n_) < 268435456) : wal f_ ((n_ : Int) + 1) ll_ S'_ := fun k_ h1_ h2_ h3_ => by
  by_cases e_ : k_ = n_
  · subst e_
    exact ⟨w1_, w2_, fun q_ => hn_.resolve_left q_⟩
  · rw [a6_] at h3_
    have q_ := h_ k_ h1_ (by omega) h3_
    rw [a7_, (g_.1 (2 * k_) (by omega) (by omega)).1]
    exact ⟨wok_n q_.1 g_ (by omega) (by omega) (by omega) c55_ a5_ a6_ a7_ a8_, wok_n q_.2.1 g_ (by omega) (by omega) (by omega) c55_ a5_ a6_ a7_ a8_, q_.2.2⟩
/-! java/util/Arrays.fill -/
def vw_2q72 : sx_Wl := ([], [72], [])
def vq_2q72 (v0_ : Int) (S0_ : sm_S) (u_ : Option sm_V) (S1_ : sm_S) : Prop := u_ = none ∧ gi S1_ ∧ ai_fr (sx_W vw_2q72) S0_ S1_ ∧ (∀ j_, j_ < 3039 → S1_.2.2.1 72 0 j_ = v0_)
set_option maxHeartbeats 400000 in
theorem vl_2q72 {sc_ : Nat × (Nat → Int)} (v0_ : Int) (S0_ : sm_S) (hv_ : (-1) ≤ v0_ ∧ v0_ ≤ 161) : ∀ nn_ : Nat, (∀ (k_ : Int) (S_ : sm_S), gi S_ → ai_fr (sx_W vw_2q72) S0_ S_ → ((0 ≤ k_ ∧ k_ ≤ 3039) ∧ (∀ j_, j_ < k_.toNat → S_.2.2.1 72 0 j_ = v0_) ∧ True) → ((3039 - k_).toNat) < nn_ → sm_T (mt_P sc_) 0 2 (5, [some (.inr (.inr (some (72, 0)))), some (.inl v0_), some (.inl k_), some (.inl 3039)], [], S_) (fun ro9_ => ∃ u_ S1_, ro9_ = (.inl u_, S1_, 0) ∧ vq_2q72 v0_ S0_ u_ S1_)) := by
  intro nn_
  induction nn_ with
  | zero => exact fun _ _ _ _ _ h_ => absurd h_ (Nat.not_lt_zero _)
  | succ nn_ ih_ =>
    rintro k_ S_ hI_ hF_ ⟨h0_, h1_, -⟩ hm_
    refine sm_T_go 2 (c1 := (7, [some (.inr (.inr (some (72, 0)))), some (.inl v0_), some (.inl k_), some (.inl 3039)], [.inl 3039, .inl k_], S_)) rfl ?_
    refine sm_T_br (a := 3) (z := 13) rfl (fun cx1_ => ?_) (fun cx1_ => ?_)
    · have cx1_ : 3039 ≤ k_ := of_decide_eq_true cx1_
      refine sm_T_rv rfl ⟨_, _, rfl, rfl, hI_, hF_, ?_⟩
      exact fun j_ hj_ => h1_ j_ (by omega)
    · have cx1_ : ¬ (3039 ≤ k_) := of_decide_eq_false cx1_
      refine sm_T_go 3 (c1 := (13, [some (.inr (.inr (some (72, 0)))), some (.inl v0_), some (.inl k_), some (.inl 3039)], [.inl v0_, .inl k_, .inr (.inr (some (72, 0)))], S_)) rfl ?_
      refine sm_T_iast (n := 3039) rfl rfl (by omega) (by omega) ?_
      have hIx2_ : gi (sm_aI S_ 72 0 k_.toNat v0_) := gi_aI hI_ (show (-1) ≤ v0_ ∧ v0_ ≤ 161 from ⟨by omega, by omega⟩)
      have hFx3_ : ai_fr (sx_W vw_2q72) S0_ (sm_aI S_ 72 0 k_.toNat v0_) := ai_fr_tr hF_ (ai_fr_aI rfl)
      refine sm_T_inc (a := 2) (z := 1) (v := k_) (w := k_ + 1) rfl rfl (by omega) (by omega) (by omega) ?_ -- pc_ 14
      refine sm_T_go 1 (c1 := (5, [some (.inr (.inr (some (72, 0)))), some (.inl v0_), some (.inl (k_ + 1)), some (.inl 3039)], [], sm_aI S_ 72 0 k_.toNat v0_)) rfl ?_
      refine ih_ (k_ + 1) (sm_aI S_ 72 0 k_.toNat v0_) hIx2_ hFx3_ ⟨?_, ?_, trivial⟩ ?_
      · omega
      · intro j_ hj_
        rw [rd_eq]
        by_cases z_ : j_ = k_.toNat
        · rw [if_pos z_]
        · rw [if_neg z_]; exact h1_ j_ (by omega)
      · omega
set_option maxHeartbeats 400000 in
theorem vc_2q72 {sc_ : Nat × (Nat → Int)} (v0_ : Int) (S0_ : sm_S) (hI_ : gi S0_) (hv_ : (-1) ≤ v0_ ∧ v0_ ≤ 161) : sm_T (mt_P sc_) 0 2 (0, [some (.inr (.inr (some (72, 0)))), some (.inl v0_), none, none], [], S0_) (fun ro9_ => ∃ u_ S1_, ro9_ = (.inl u_, S1_, 0) ∧ vq_2q72 v0_ S0_ u_ S1_) := by
  have hF_ : ai_fr (sx_W vw_2q72) S0_ S0_ := ai_fr_rf
  refine sm_T_go 5 (c1 := (5, [some (.inr (.inr (some (72, 0)))), some (.inl v0_), some (.inl 0), some (.inl 3039)], [], S0_)) rfl ?_
  refine (vl_2q72 v0_ S0_ hv_ _) 0 S0_ hI_ hF_ ⟨?_, ?_, trivial⟩ (Nat.lt_succ_self _)
  · omega
  · (intro j_ hj_; exact absurd hj_ (Nat.not_lt_zero _))
