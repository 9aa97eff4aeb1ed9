/-! 99.ztZa -/
section
/-! gates made for all roots: the class; written by wip/p55/gen/vg -/

/-! gates made for_ all_ roots -/
def rtq (pn_ : Nat → Nat) (pv_ : Nat → Nat → Nat) (gc_ : Nat → Int) (b0_ : Int) (L_ : Nat → Int) : Nat → (Nat → Int) × List (Int × List Int) → (Nat → Int) × List (Int × List Int)
  | 0, s_ => s_
  | k_ + 1, s_ => if L_ k_ ≤ 1 then rtq pn_ pv_ gc_ b0_ L_ k_ s_ else gmk pn_ pv_ gc_ b0_ 4000 (3 * (L_ k_ / 2) + 2 * (L_ k_ % 2)).toNat (rtq pn_ pv_ gc_ b0_ L_ k_ s_)
def ntq (L_ md_ : Nat → Int) (k_ : Nat) : Int := if L_ k_ ≤ 1 then -1 - L_ k_ else md_ (3 * (L_ k_ / 2) + 2 * (L_ k_ % 2)).toNat
/-- nothing is_ made but_ the_ nets of_ inputs and registers -/
def inm (F_ : Int) (M_ : Nat → Int) : Prop := ∀ u_ : Nat, u_ < 3039 → M_ u_ = if 3 ≤ u_ ∧ u_ % 3 = 0 ∧ ((u_ / 3 : Nat) : Int) < F_ then ((u_ / 3 : Nat) : Int) - 1 else -1
theorem rtq_l {pn_ : Nat → Nat} {pv_ : Nat → Nat → Nat} {gc_ : Nat → Int} {b0_ : Int} {rk_ : Nat → Nat} {G_ I_ : Nat → Prop} {L_ : Nat → Int} (hb_ : 0 ≤ b0_) (hg_ : gdg pn_ pv_ rk_ G_ I_) : ∀ (m_ k_ : Nat) (s_ : (Nat → Int) × List (Int × List Int)), k_ ≤ m_ → (∀ j_, j_ < m_ → 1 < L_ j_ → G_ (3 * (L_ j_ / 2) + 2 * (L_ j_ % 2)).toNat ∧ rk_ (3 * (L_ j_ / 2) + 2 * (L_ j_ % 2)).toNat < 4000) → (∀ x_, I_ x_ → s_.1 x_ ≠ -1) → gle (rtq pn_ pv_ gc_ b0_ L_ k_ s_) (rtq pn_ pv_ gc_ b0_ L_ m_ s_) ∧ ∀ x_, I_ x_ → (rtq pn_ pv_ gc_ b0_ L_ m_ s_).1 x_ ≠ -1
  | 0, k_, s_, h_, _, hI_ => by
    rw [show k_ = 0 by omega]
    exact ⟨gle_rf, hI_⟩
  | m_ + 1, k_, s_, h_, hG_, hI_ => by
    have q0_ := rtq_l hb_ hg_ (gc_ := gc_) (L_ := L_) m_ m_ s_ (Nat.le_refl _) (fun j_ hj_ => hG_ j_ (by omega)) hI_
    have one_ : gle (rtq pn_ pv_ gc_ b0_ L_ m_ s_) (rtq pn_ pv_ gc_ b0_ L_ (m_ + 1) s_) ∧ ∀ x_, I_ x_ → (rtq pn_ pv_ gc_ b0_ L_ (m_ + 1) s_).1 x_ ≠ -1 := by
      show gle (rtq pn_ pv_ gc_ b0_ L_ m_ s_) (if L_ m_ ≤ 1 then rtq pn_ pv_ gc_ b0_ L_ m_ s_ else gmk pn_ pv_ gc_ b0_ 4000 (3 * (L_ m_ / 2) + 2 * (L_ m_ % 2)).toNat (rtq pn_ pv_ gc_ b0_ L_ m_ s_)) ∧ ∀ x_, I_ x_ → (if L_ m_ ≤ 1 then rtq pn_ pv_ gc_ b0_ L_ m_ s_ else gmk pn_ pv_ gc_ b0_ 4000 (3 * (L_ m_ / 2) + 2 * (L_ m_ % 2)).toNat (rtq pn_ pv_ gc_ b0_ L_ m_ s_)).1 x_ ≠ -1
      by_cases z_ : L_ m_ ≤ 1
      · rw [if_pos z_]
        exact ⟨gle_rf, q0_.2⟩
      · rw [if_neg z_]
        have g_ := hG_ m_ (Nat.lt_succ_self m_) (by omega)
        have r_ := (gmk_r (gc_ := gc_) hb_ hg_ 4000 _ (rtq pn_ pv_ gc_ b0_ L_ m_ s_) g_.1 q0_.2 g_.2).1
        exact ⟨r_, fun x_ hx_ => by rw [r_.1 x_ (q0_.2 x_ hx_)]; exact q0_.2 x_ hx_⟩
    by_cases e_ : k_ = m_ + 1
    · rw [e_]
      exact ⟨gle_rf, one_.2⟩
    · have q_ := rtq_l hb_ hg_ (gc_ := gc_) (L_ := L_) m_ k_ s_ (by omega) (fun j_ hj_ => hG_ j_ (by omega)) hI_
      exact ⟨gle_tr q_.1 one_.1, one_.2⟩
theorem ntq_a {L_ md_ : Nat → Int} {k_ : Nat} {x_ : Int} (e_ : L_ k_ = x_) (h_ : x_ ≤ 1) : ntq L_ md_ k_ = -1 - x_ := by
  unfold ntq
  rw [e_, if_pos h_]
theorem ntq_b {L_ md_ : Nat → Int} {k_ : Nat} {x_ : Int} (e_ : L_ k_ = x_) (h_ : ¬ x_ ≤ 1) : ntq L_ md_ k_ = md_ (3 * (x_ / 2) + 2 * (x_ % 2)).toNat := by
  unfold ntq
  rw [e_, if_neg h_]
theorem ntq_cg {L_ md_ md'_ : Nat → Int} {k_ : Nat} (h_ : L_ k_ ≤ 1 ∨ md'_ (3 * (L_ k_ / 2) + 2 * (L_ k_ % 2)).toNat = md_ (3 * (L_ k_ / 2) + 2 * (L_ k_ % 2)).toNat) : ntq L_ md'_ k_ = ntq L_ md_ k_ := by
  unfold ntq
  by_cases z_ : L_ k_ ≤ 1
  · rw [if_pos z_, if_pos z_]
  · rw [if_neg z_, if_neg z_]
    exact h_.resolve_left z_

/-! Mapper.makeGates -/
def vw_109n : sx_Wl := ([(2, 8)], [35, 36, 37, 38, 72, 73], [])
def vq_109n (dd_ : Nat) (ll_ : Nat) (cc_ : Nat) (S0_ : sm_S) (u_ : Option sm_V) (S1_ : sm_S) : Prop := ∃ v_ : Int, u_ = some (.inl v_) ∧ gi S1_ ∧ ai_fr (sx_W vw_109n) S0_ S1_ ∧ (cdf cc_ S0_ S1_ ∧ ((v_ = 0 ∨ v_ = 1) ∧ ∃ M_ : Nat → Int, inm (1 + S0_.1 3 dd_ 1 + S0_.1 3 dd_ 2) M_ ∧ imq (v_ = 1) (∃ g9_ : List (Int × List Int), cgz cc_ S1_ g9_ ∧ (S1_.2.2.1 72 0, g9_) = rtq (cpn ll_ S0_) (cpv (1 + S0_.1 3 dd_ 1 + S0_.1 3 dd_ 2) S0_) (cgc ll_ S0_) (S0_.1 2 cc_ 1 + S0_.1 2 cc_ 2) (fun j_ => slv dd_ S0_ (j_ : Int)) ((S0_.1 3 dd_ 3 + S0_.1 3 dd_ 2).toNat) (M_, []) ∧ (∀ j_ : Nat, j_ < (S0_.1 3 dd_ 3 + S0_.1 3 dd_ 2).toNat → (if (j_ : Int) < S0_.1 3 dd_ 3 then S1_.2.2.1 37 (0 + cc_) j_ else S1_.2.2.1 38 (0 + cc_) (j_ - (S0_.1 3 dd_ 3).toNat)) = ntq (fun j_ => slv dd_ S0_ (j_ : Int)) (S1_.2.2.1 72 0) j_)) ∧ imq (v_ = 0) (150 < (rtq (cpn ll_ S0_) (cpv (1 + S0_.1 3 dd_ 1 + S0_.1 3 dd_ 2) S0_) (cgc ll_ S0_) (S0_.1 2 cc_ 1 + S0_.1 2 cc_ 2) (fun j_ => slv dd_ S0_ (j_ : Int)) ((S0_.1 3 dd_ 3 + S0_.1 3 dd_ 2).toNat) (M_, [])).2.length)))
set_option maxHeartbeats 3000000 in
theorem vl_109n {sc_ : Nat × (Nat → Int)} (dd_ : Nat) (ll_ : Nat) (cc_ : Nat) (S0_ : sm_S) (hg0_ : S0_.1 2 cc_ 8 = 0) (hd_ : S0_.2.1 6 0 0 = some dd_) (hc_ : S0_.2.1 6 0 1 = some ll_) (hw_ : wal (1 + S0_.1 3 dd_ 1 + S0_.1 3 dd_ 2) (S0_.1 3 dd_ 4) ll_ S0_) (hs2_ : S0_.1 2 cc_ 1 + S0_.1 2 cc_ 2 ≤ 12) (hr_ : drt dd_ S0_) (hdd_ : S0_.1 3 dd_ 1 + S0_.1 3 dd_ 2 ≤ 12) (hrt_ : rgt dd_ ll_ S0_) : ∀ nn_ : Nat, (∀ (n_ : Int) (S_ : sm_S), gi S_ → ai_fr (sx_W vw_109n) S0_ S_ → ((1 ≤ n_ ∧ n_ ≤ 13) ∧ (∀ x_ : Int, 1 ≤ x_ → x_ < n_ → S_.2.2.1 72 0 (3 * x_).toNat ≠ -1) ∧ ((inm n_ (S_.2.2.1 72 0) ∧ n_ ≤ (1 + S0_.1 3 dd_ 1 + S0_.1 3 dd_ 2)) ∧ S_.1 2 cc_ 8 = 0) ∧ (cdf cc_ S0_ S_) ∧ True) → ((9000 - n_).toNat) < nn_ → sm_T (mt_P sc_) 5 109 (10, [some (.inr (.inr (some (6, 0)))), some (.inr (.inr (some (2, cc_)))), some (.inl n_), none, none, none], [], S_) (fun ro9_ => ∃ u_ S1_, ro9_ = (.inl u_, S1_, 0) ∧ vq_109n dd_ ll_ cc_ S0_ u_ S1_)) ∧ (∀ (k_ : Int) (S_ : sm_S), gi S_ → ai_fr (sx_W vw_109n) S0_ S_ → ((0 ≤ k_ ∧ k_ ≤ 22 ∧ k_ ≤ S0_.1 3 dd_ 3 + S0_.1 3 dd_ 2) ∧ (∀ x_ : Int, 1 ≤ x_ → x_ < (1 + S0_.1 3 dd_ 1 + S0_.1 3 dd_ 2) → S_.2.2.1 72 0 (3 * x_).toNat ≠ -1) ∧ (∃ (M_ : Nat → Int) (g9_ : List (Int × List Int)), inm (1 + S0_.1 3 dd_ 1 + S0_.1 3 dd_ 2) M_ ∧ cgz cc_ S_ g9_ ∧ (S_.2.2.1 72 0, g9_) = rtq (cpn ll_ S0_) (cpv (1 + S0_.1 3 dd_ 1 + S0_.1 3 dd_ 2) S0_) (cgc ll_ S0_) (S0_.1 2 cc_ 1 + S0_.1 2 cc_ 2) (fun j_ => slv dd_ S0_ (j_ : Int)) (k_.toNat) (M_, []) ∧ ∀ j_ : Nat, (j_ : Int) < k_ → (if (j_ : Int) < S0_.1 3 dd_ 3 then S_.2.2.1 37 (0 + cc_) j_ else S_.2.2.1 38 (0 + cc_) (j_ - (S0_.1 3 dd_ 3).toNat)) = ntq (fun j_ => slv dd_ S0_ (j_ : Int)) (S_.2.2.1 72 0) j_ ∧ (slv dd_ S0_ (j_ : Int) ≤ 1 ∨ S_.2.2.1 72 0 (3 * (slv dd_ S0_ (j_ : Int) / 2) + 2 * (slv dd_ S0_ (j_ : Int) % 2)).toNat ≠ -1)) ∧ (cdf cc_ S0_ S_) ∧ True) → ((2000 - k_).toNat) < nn_ → sm_T (mt_P sc_) 5 109 (40, [some (.inr (.inr (some (6, 0)))), some (.inr (.inr (some (2, cc_)))), some (.inl k_), none, none, none], [], S_) (fun ro9_ => ∃ u_ S1_, ro9_ = (.inl u_, S1_, 0) ∧ vq_109n dd_ ll_ cc_ S0_ u_ S1_)) := by
  intro nn_
  induction nn_ with
  | zero => exact ⟨fun _ _ _ _ _ h_ => absurd h_ (Nat.not_lt_zero _), fun _ _ _ _ _ h_ => absurd h_ (Nat.not_lt_zero _)⟩
  | succ nn_ ih_ =>
    refine ⟨?_, ?_⟩
    · rintro n_ S_ hI_ hF_ ⟨h0_, hA_, hM_, hC_, -⟩ hm_
      have f59_ : S_.2.2.1 59 0 = S0_.2.2.1 59 0 := fr_arr hF_ rfl
      have f60_ : S_.2.2.1 60 0 = S0_.2.2.1 60 0 := fr_arr hF_ rfl
      have f62_ : S_.2.2.1 62 0 = S0_.2.2.1 62 0 := fr_arr hF_ rfl
      have f63_ : S_.2.2.1 63 0 = S0_.2.2.1 63 0 := fr_arr hF_ rfl
      have f64_ : S_.2.2.1 64 0 = S0_.2.2.1 64 0 := fr_arr hF_ rfl
      have f55_ : S_.2.2.1 55 (0 + ll_) = S0_.2.2.1 55 (0 + ll_) := fr_arr hF_ rfl
      have f1_ : S_.1 3 dd_ 1 = S0_.1 3 dd_ 1 := hF_.1 3 dd_ 1 rfl
      have f2_ : S_.1 3 dd_ 2 = S0_.1 3 dd_ 2 := hF_.1 3 dd_ 2 rfl
      have f4_ : S_.1 3 dd_ 4 = S0_.1 3 dd_ 4 := hF_.1 3 dd_ 4 rfl
      have f5_ : S_.1 5 ll_ 2 = S0_.1 5 ll_ 2 := hF_.1 5 ll_ 2 rfl
      have cI_ : 0 ≤ S_.1 3 dd_ 1 ∧ S_.1 3 dd_ 1 ≤ 320 := hI_.1 3 dd_ 1 rfl
      have cR_ : 0 ≤ S_.1 3 dd_ 2 ∧ S_.1 3 dd_ 2 ≤ 100000 := hI_.1 3 dd_ 2 rfl
      have cN_ : 0 ≤ S_.1 3 dd_ 4 ∧ S_.1 3 dd_ 4 ≤ 1013 := hI_.1 3 dd_ 4 rfl
      have hf_ : 1 ≤ (1 + S0_.1 3 dd_ 1 + S0_.1 3 dd_ 2) := by omega
      have f44_ : S_.2.2.1 44 (0 + dd_) = S0_.2.2.1 44 (0 + dd_) := fr_arr hF_ rfl
      have f45_ : S_.2.2.1 45 (0 + dd_) = S0_.2.2.1 45 (0 + dd_) := fr_arr hF_ rfl
      have f46_ : S_.2.2.1 46 (0 + dd_) = S0_.2.2.1 46 (0 + dd_) := fr_arr hF_ rfl
      have f3_ : S_.1 3 dd_ 3 = S0_.1 3 dd_ 3 := hF_.1 3 dd_ 3 rfl
      have e1_ : S_.1 2 cc_ 1 = S0_.1 2 cc_ 1 := hF_.1 2 cc_ 1 rfl
      have e2_ : S_.1 2 cc_ 2 = S0_.1 2 cc_ 2 := hF_.1 2 cc_ 2 rfl
      have r1_ := hr_.1
      refine sm_T_go 2 (c1 := (12, [some (.inr (.inr (some (6, 0)))), some (.inr (.inr (some (2, cc_)))), some (.inl n_), none, none, none], [.inr (.inr (some (6, 0))), .inl n_], S_)) rfl ?_
      refine sm_T_gr rfl rfl ((hF_.2.1 6 0 0 rfl).trans hd_) ?_
      refine sm_T_cal (d1 := 0) (Q1 := vq_63 dd_ S_) rfl rfl (by decide) (vc_63 dd_ S_ hI_ (by omega)) (fun u_ Sx1_ px4_ => ?_)
      obtain ⟨rfl, vx6_, rfl, px4_⟩ := px4_
      have a15_ := px4_
      refine sm_T_br (a := 3) (z := 20) rfl (fun cx7_ => ?_) (fun cx7_ => ?_)
      · have cx7_ : vx6_ ≤ n_ := of_decide_eq_true cx7_
        refine sm_T_go 2 (c1 := (40, [some (.inr (.inr (some (6, 0)))), some (.inr (.inr (some (2, cc_)))), some (.inl 0), none, none, none], [], S_)) rfl ?_
        refine ih_.2 0 S_ hI_ hF_ ⟨?_, ?_, ?_, ?_, trivial⟩ ?_
        · omega
        · (intro x_ u_ w_; exact hA_ x_ u_ (by omega))
        · refine ⟨S_.2.2.1 72 0, [], ?_, ⟨by (rw [hM_.2]; rfl), fun g_ c_ ns_ q_ => ?_⟩, rfl, fun j_ u_ => by (exfalso; omega)⟩
          · rw [show (1 + S0_.1 3 dd_ 1 + S0_.1 3 dd_ 2) = n_ by omega]; exact hM_.1.1
          · have q_ : (none : Option (Int × List Int)) = some (c_, ns_) := q_
            cases q_
        · exact hC_
        · omega
      · have cx7_ : ¬ (vx6_ ≤ n_) := of_decide_eq_false cx7_
        refine sm_T_go 4 (c1 := (27, [some (.inr (.inr (some (6, 0)))), some (.inr (.inr (some (2, cc_)))), some (.inl n_), none, none, none], [.inl n_, .inl 3, .inr (.inr (some (72, 0)))], S_)) rfl ?_
        refine sm_T_bin (w := 3 * n_) rfl (bi_mul (by omega) (by omega) (by omega)) ?_ -- pc_ 27
        refine sm_T_go 2 (c1 := (30, [some (.inr (.inr (some (6, 0)))), some (.inr (.inr (some (2, cc_)))), some (.inl n_), none, none, none], [.inl 1, .inl n_, .inl (3 * n_), .inr (.inr (some (72, 0)))], S_)) rfl ?_
        refine sm_T_bin (w := n_ - 1) rfl (bi_sub (by omega) (by omega) (by omega)) ?_ -- pc_ 30
        refine sm_T_iast (n := 3039) rfl rfl (by omega) (by omega) ?_
        have hIx8_ : gi (sm_aI S_ 72 0 (3 * n_).toNat (n_ - 1)) := gi_aI hI_ (show (-1) ≤ n_ - 1 ∧ n_ - 1 ≤ 161 from ⟨by omega, by omega⟩)
        have hFx9_ : ai_fr (sx_W vw_109n) S0_ (sm_aI S_ 72 0 (3 * n_).toNat (n_ - 1)) := ai_fr_tr hF_ (ai_fr_aI rfl)
        have hCx10_ : cdf cc_ S0_ (sm_aI S_ 72 0 (3 * n_).toNat (n_ - 1)) := cdf_aI hC_ (Or.inl rfl)
        refine sm_T_inc (a := 2) (z := 1) (v := n_) (w := n_ + 1) rfl rfl (by omega) (by omega) (by omega) ?_ -- pc_ 32
        refine sm_T_go 1 (c1 := (10, [some (.inr (.inr (some (6, 0)))), some (.inr (.inr (some (2, cc_)))), some (.inl (n_ + 1)), none, none, none], [], sm_aI S_ 72 0 (3 * n_).toNat (n_ - 1))) rfl ?_
        refine ih_.1 (n_ + 1) (sm_aI S_ 72 0 (3 * n_).toNat (n_ - 1)) hIx8_ hFx9_ ⟨?_, ?_, ?_, ?_, trivial⟩ ?_
        · omega
        · intro x_ u_ w_
          rw [rd_eq]
          by_cases y_ : x_ = n_
          · rw [if_pos (by omega)]; omega
          · rw [if_neg (by omega)]; exact hA_ x_ u_ (by omega)
        · refine ⟨⟨fun u_ hu_ => ?_, by omega⟩, hM_.2⟩
          have y9_ := hM_.1.1 u_ hu_
          rw [rd_eq]
          by_cases z9_ : u_ = (3 * n_).toNat
          · rw [if_pos z9_, if_pos ⟨by omega, by omega, by omega⟩]; omega
          · rw [if_neg z9_, y9_]
            by_cases x9_ : 3 ≤ u_ ∧ u_ % 3 = 0 ∧ ((u_ / 3 : Nat) : Int) < n_
            · rw [if_pos x9_, if_pos ⟨x9_.1, x9_.2.1, by omega⟩]
            · rw [if_neg x9_, if_neg (by omega)]
        · exact hCx10_
        · omega
    · rintro k_ S_ hI_ hF_ ⟨h0_, hi9_, hX_, hC_, -⟩ hm_
      have f59_ : S_.2.2.1 59 0 = S0_.2.2.1 59 0 := fr_arr hF_ rfl
      have f60_ : S_.2.2.1 60 0 = S0_.2.2.1 60 0 := fr_arr hF_ rfl
      have f62_ : S_.2.2.1 62 0 = S0_.2.2.1 62 0 := fr_arr hF_ rfl
      have f63_ : S_.2.2.1 63 0 = S0_.2.2.1 63 0 := fr_arr hF_ rfl
      have f64_ : S_.2.2.1 64 0 = S0_.2.2.1 64 0 := fr_arr hF_ rfl
      have f55_ : S_.2.2.1 55 (0 + ll_) = S0_.2.2.1 55 (0 + ll_) := fr_arr hF_ rfl
      have f1_ : S_.1 3 dd_ 1 = S0_.1 3 dd_ 1 := hF_.1 3 dd_ 1 rfl
      have f2_ : S_.1 3 dd_ 2 = S0_.1 3 dd_ 2 := hF_.1 3 dd_ 2 rfl
      have f4_ : S_.1 3 dd_ 4 = S0_.1 3 dd_ 4 := hF_.1 3 dd_ 4 rfl
      have f5_ : S_.1 5 ll_ 2 = S0_.1 5 ll_ 2 := hF_.1 5 ll_ 2 rfl
      have cI_ : 0 ≤ S_.1 3 dd_ 1 ∧ S_.1 3 dd_ 1 ≤ 320 := hI_.1 3 dd_ 1 rfl
      have cR_ : 0 ≤ S_.1 3 dd_ 2 ∧ S_.1 3 dd_ 2 ≤ 100000 := hI_.1 3 dd_ 2 rfl
      have cN_ : 0 ≤ S_.1 3 dd_ 4 ∧ S_.1 3 dd_ 4 ≤ 1013 := hI_.1 3 dd_ 4 rfl
      have hf_ : 1 ≤ (1 + S0_.1 3 dd_ 1 + S0_.1 3 dd_ 2) := by omega
      have f44_ : S_.2.2.1 44 (0 + dd_) = S0_.2.2.1 44 (0 + dd_) := fr_arr hF_ rfl
      have f45_ : S_.2.2.1 45 (0 + dd_) = S0_.2.2.1 45 (0 + dd_) := fr_arr hF_ rfl
      have f46_ : S_.2.2.1 46 (0 + dd_) = S0_.2.2.1 46 (0 + dd_) := fr_arr hF_ rfl
      have f3_ : S_.1 3 dd_ 3 = S0_.1 3 dd_ 3 := hF_.1 3 dd_ 3 rfl
      have e1_ : S_.1 2 cc_ 1 = S0_.1 2 cc_ 1 := hF_.1 2 cc_ 1 rfl
      have e2_ : S_.1 2 cc_ 2 = S0_.1 2 cc_ 2 := hF_.1 2 cc_ 2 rfl
      have r1_ := hr_.1
      refine sm_T_go 2 (c1 := (42, [some (.inr (.inr (some (6, 0)))), some (.inr (.inr (some (2, cc_)))), some (.inl k_), none, none, none], [.inr (.inr (some (6, 0))), .inl k_], S_)) rfl ?_
      refine sm_T_gr rfl rfl ((hF_.2.1 6 0 0 rfl).trans hd_) ?_
      refine sm_T_cal (d1 := 0) (Q1 := vq_66 dd_ S_) rfl rfl (by decide) (vc_66 dd_ S_ hI_ (by omega)) (fun u_ Sx1_ px4_ => ?_)
      obtain ⟨rfl, vx6_, rfl, px4_⟩ := px4_
      have r45_ := px4_
      refine sm_T_br (a := 3) (z := 107) rfl (fun cx7_ => ?_) (fun cx7_ => ?_)
      · have cx7_ : vx6_ ≤ k_ := of_decide_eq_true cx7_
        refine sm_T_go 1 (c1 := (156, [some (.inr (.inr (some (6, 0)))), some (.inr (.inr (some (2, cc_)))), some (.inl k_), none, none, none], [.inl 1], S_)) rfl ?_
        refine sm_T_rz rfl (by omega) ⟨_, _, rfl, _, rfl, hI_, hF_, ?_⟩
        refine ⟨hC_, ?_⟩
        obtain ⟨M9_, g9_, i9_, c9_, x9_, n9_⟩ := hX_
        refine ⟨Or.inr rfl, M9_, i9_, fun _ => ⟨g9_, c9_, ?_, fun j_ hj_ => (n9_ j_ (by omega)).1⟩, fun u_ => absurd u_ (by decide)⟩
        rw [show (S0_.1 3 dd_ 3 + S0_.1 3 dd_ 2).toNat = k_.toNat by omega]
        exact x9_
      · have cx7_ : ¬ (vx6_ ≤ k_) := of_decide_eq_false cx7_
        obtain ⟨M9_, g9_, i9_, c9_, x9_, n9_⟩ := hX_
        have zc1_ : 0 ≤ S_.1 2 cc_ 1 ∧ S_.1 2 cc_ 1 ≤ 12 := hI_.1 2 cc_ 1 rfl
        have zc2_ : 0 ≤ S_.1 2 cc_ 2 ∧ S_.1 2 cc_ 2 ≤ 6 := hI_.1 2 cc_ 2 rfl
        have ze1_ : S_.1 2 cc_ 1 = S0_.1 2 cc_ 1 := hF_.1 2 cc_ 1 rfl
        have ze2_ : S_.1 2 cc_ 2 = S0_.1 2 cc_ 2 := hF_.1 2 cc_ 2 rfl
        refine sm_T_go 1 (c1 := (52, [some (.inr (.inr (some (6, 0)))), some (.inr (.inr (some (2, cc_)))), some (.inl k_), none, none, none], [.inr (.inr (some (6, 0)))], S_)) rfl ?_
        refine sm_T_gr rfl rfl ((hF_.2.1 6 0 0 rfl).trans hd_) ?_
        refine sm_T_go 1 (c1 := (56, [some (.inr (.inr (some (6, 0)))), some (.inr (.inr (some (2, cc_)))), some (.inl k_), none, none, none], [.inr (.inr (some (6, 0))), .inr (.inr (some (3, dd_)))], S_)) rfl ?_
        refine sm_T_gr rfl rfl ((hF_.2.1 6 0 0 rfl).trans hd_) ?_
        refine sm_T_go 1 (c1 := (60, [some (.inr (.inr (some (6, 0)))), some (.inr (.inr (some (2, cc_)))), some (.inl k_), none, none, none], [.inl k_, .inr (.inr (some (3, dd_))), .inr (.inr (some (3, dd_)))], S_)) rfl ?_
        refine sm_T_cal (d1 := 0) (Q1 := vq_65 k_ dd_ S_) rfl rfl (by decide) (vc_65 k_ dd_ S_ hI_ (by exact drt_fr hr_ hF_ rfl rfl rfl rfl rfl) (by omega)) (fun u_ Sx8_ px11_ => ?_)
        obtain ⟨rfl, vx13_, rfl, px11_⟩ := px11_
        have t60_ := px11_
        have v60_ : vx13_ = rtv dd_ S0_ k_ := by (rw [t60_.1]; unfold rtv; rw [f3_, f45_, f46_])
        refine sm_T_cal (d1 := 0) (Q1 := vq_64 vx13_ dd_ S_) rfl rfl (by decide) (vc_64 vx13_ dd_ S_ hI_ (by omega)) (fun u_ Sx14_ px17_ => ?_)
        obtain ⟨rfl, vx19_, rfl, px17_⟩ := px17_
        have e63_ := px17_
        have x63_ : 0 ≤ vx19_ ∧ vx19_ ≤ 2025 := by (rw [e63_]; exact swx (hI_.2 44 (0 + dd_) _) (by omega))
        rw [f44_, v60_] at e63_
        have s63_ : vx19_ = slv dd_ S0_ k_ := e63_
        have g63_ := hrt_ k_ h0_.1 (by omega)
        rw [← s63_] at g63_
        refine sm_T_go 3 (c1 := (69, [some (.inr (.inr (some (6, 0)))), some (.inr (.inr (some (2, cc_)))), some (.inl k_), some (.inl vx19_), none, none], [.inl vx19_, .inl (-1)], S_)) rfl ?_
        refine sm_T_bin (w := -vx19_ - 1) rfl (bi_sub (by omega) (by omega) (by omega)) ?_ -- pc_ 69
        refine sm_T_go 3 (c1 := (74, [some (.inr (.inr (some (6, 0)))), some (.inr (.inr (some (2, cc_)))), some (.inl k_), some (.inl vx19_), some (.inl (-vx19_ - 1)), none], [.inl 1, .inl vx19_], S_)) rfl ?_
        refine sm_T_br (a := 5) (z := 37) rfl (fun cx20_ => ?_) (fun cx20_ => ?_)
        · have cx20_ : vx19_ ≤ 1 := of_decide_eq_true cx20_
          refine sm_T_go 2 (c1 := (113, [some (.inr (.inr (some (6, 0)))), some (.inr (.inr (some (2, cc_)))), some (.inl k_), some (.inl vx19_), some (.inl (-vx19_ - 1)), none], [.inr (.inr (some (6, 0))), .inl k_], S_)) rfl ?_
          refine sm_T_gr rfl rfl ((hF_.2.1 6 0 0 rfl).trans hd_) ?_
          have bx21_ : 0 ≤ S_.1 3 dd_ 3 ∧ S_.1 3 dd_ 3 ≤ 320 := hI_.1 3 dd_ 3 rfl
          refine sm_T_go 1 (c1 := (119, [some (.inr (.inr (some (6, 0)))), some (.inr (.inr (some (2, cc_)))), some (.inl k_), some (.inl vx19_), some (.inl (-vx19_ - 1)), none], [.inl (S_.1 3 dd_ 3), .inl k_], S_)) rfl ?_
          refine sm_T_br (a := 3) (z := 14) rfl (fun cx22_ => ?_) (fun cx22_ => ?_)
          · have cx22_ : (S_.1 3 dd_ 3) ≤ k_ := of_decide_eq_true cx22_
            refine sm_T_go 4 (c1 := (139, [some (.inr (.inr (some (6, 0)))), some (.inr (.inr (some (2, cc_)))), some (.inl k_), some (.inl vx19_), some (.inl (-vx19_ - 1)), none], [.inr (.inr (some (6, 0))), .inl k_, .inr (.inr (some (38, (0 + cc_))))], S_)) rfl ?_
            refine sm_T_gr rfl rfl ((hF_.2.1 6 0 0 rfl).trans hd_) ?_
            refine sm_T_go 1 (c1 := (145, [some (.inr (.inr (some (6, 0)))), some (.inr (.inr (some (2, cc_)))), some (.inl k_), some (.inl vx19_), some (.inl (-vx19_ - 1)), none], [.inl (S_.1 3 dd_ 3), .inl k_, .inr (.inr (some (38, (0 + cc_))))], S_)) rfl ?_
            refine sm_T_bin (w := k_ - (S_.1 3 dd_ 3)) rfl (bi_sub (by omega) (by omega) (by omega)) ?_ -- pc_ 145
            refine sm_T_go 1 (c1 := (148, [some (.inr (.inr (some (6, 0)))), some (.inr (.inr (some (2, cc_)))), some (.inl k_), some (.inl vx19_), some (.inl (-vx19_ - 1)), none], [.inl (-vx19_ - 1), .inl (k_ - (S_.1 3 dd_ 3)), .inr (.inr (some (38, (0 + cc_))))], S_)) rfl ?_
            refine sm_T_iast (n := 6) rfl rfl (by omega) (by omega) ?_
            have hIx23_ : gi (sm_aI S_ 38 (0 + cc_) (k_ - (S_.1 3 dd_ 3)).toNat (-vx19_ - 1)) := gi_aI hI_ (show (-2) ≤ -vx19_ - 1 ∧ -vx19_ - 1 ≤ 161 from ⟨by omega, by omega⟩)
            have hFx24_ : ai_fr (sx_W vw_109n) S0_ (sm_aI S_ 38 (0 + cc_) (k_ - (S_.1 3 dd_ 3)).toNat (-vx19_ - 1)) := ai_fr_tr hF_ (ai_fr_aI rfl)
            have hCx25_ : cdf cc_ S0_ (sm_aI S_ 38 (0 + cc_) (k_ - (S_.1 3 dd_ 3)).toNat (-vx19_ - 1)) := cdf_aI hC_ (Or.inr (by rw [show cof 38 = 0 from rfl] <;> omega))
            refine sm_T_inc (a := 2) (z := 1) (v := k_) (w := k_ + 1) rfl rfl (by omega) (by omega) (by omega) ?_ -- pc_ 149
            refine sm_T_go 1 (c1 := (40, [some (.inr (.inr (some (6, 0)))), some (.inr (.inr (some (2, cc_)))), some (.inl (k_ + 1)), some (.inl vx19_), some (.inl (-vx19_ - 1)), none], [], sm_aI S_ 38 (0 + cc_) (k_ - (S_.1 3 dd_ 3)).toNat (-vx19_ - 1))) rfl ?_
            refine sm_T_wk [some (.inr (.inr (some (6, 0)))), some (.inr (.inr (some (2, cc_)))), some (.inl (k_ + 1)), none, none, none] (by exact ⟨rfl, rfl, rfl, trivial⟩) ?_
            refine ih_.2 (k_ + 1) (sm_aI S_ 38 (0 + cc_) (k_ - (S_.1 3 dd_ 3)).toNat (-vx19_ - 1)) hIx23_ hFx24_ ⟨?_, ?_, ?_, ?_, trivial⟩ ?_
            · omega
            · first | (intro x_ u_ w_; rw [rd_ne (by decide)]; exact hi9_ x_ u_ w_) | (intro x_ u_ w_; rw [rd_ne (by decide)]; exact a94_ x_ u_ w_)
            · first | (have y8_ := X94_; obtain ⟨g8_, c8_, w8_⟩ := X94_.1 (by omega); rw [s63_, ← k94_] at w8_; have GD9_ := gdg_c hw_ hf_; have r8_ := gmk_r (gc_ := cgc ll_ S0_) (show 0 ≤ (S0_.1 2 cc_ 1 + S0_.1 2 cc_ 2) by omega) GD9_ 4000 (3 * (slv dd_ S0_ k_ / 2) + 2 * (slv dd_ S0_ k_ % 2)).toNat (rtq (cpn ll_ S0_) (cpv (1 + S0_.1 3 dd_ 1 + S0_.1 3 dd_ 2) S0_) (cgc ll_ S0_) (S0_.1 2 cc_ 1 + S0_.1 2 cc_ 2) (fun j_ => slv dd_ S0_ (j_ : Int)) (k_.toNat) (M9_, [])) (by (unfold cgk; rw [show (((3 * (slv dd_ S0_ k_ / 2) + 2 * (slv dd_ S0_ k_ % 2)).toNat : Nat) : Int) = 3 * (slv dd_ S0_ k_ / 2) + 2 * (slv dd_ S0_ k_ % 2) by (have y9_ := (g63_ (by omega)).1; rw [s63_] at y9_; omega)]; exact (by (have y9_ := g63_ (by omega); rw [s63_] at y9_; exact y9_)))) (fun x_ hx_ => by (rw [← x9_]; have z9_ := hi9_ ((x_ : Int) / 3) (by have := hx_.1; omega) hx_.2.1; have y9_ := hx_.2.2; rw [show (3 * ((x_ : Int) / 3)).toNat = x_ by omega] at z9_; exact z9_)) (by (unfold crk; rw [show (((3 * (slv dd_ S0_ k_ / 2) + 2 * (slv dd_ S0_ k_ % 2)).toNat : Nat) : Int) = 3 * (slv dd_ S0_ k_ / 2) + 2 * (slv dd_ S0_ k_ % 2) by (have y9_ := (g63_ (by omega)).1; rw [s63_] at y9_; omega)]; have y9_ := grk_b (S0_.2.2.1 62 0) (3 * (slv dd_ S0_ k_ / 2) + 2 * (slv dd_ S0_ k_ % 2)); have y7_ := (g63_ (by omega)).2.1; rw [s63_] at y7_; omega)); refine ⟨M9_, g8_, i9_, cgz_fr (w_ := ([], [37, 38], [])) c8_ (ai_fr_aI rfl), ?_, ?_⟩; (rw [rd_ne_ (by decide)]; exact w8_); (rw [← k94_, ← w8_, ← x9_] at r8_; intro j_ u_; rw [rd_ne_ (t'_ := 72) (by decide)]; by_cases z9_ : (j_ : Int) = k_; (refine ⟨?_, Or.inr (by (rw [z9_]; exact r8_.2.1))⟩; rw [ntq_b (x_ := slv dd_ S0_ k_) (by (show slv dd_ S0_ (j_ : Int) = _; rw [z9_])) (by (rw [← s63_]; omega)), z9_, ← s63_]; first | (rw [if_pos (by omega), rd_eq, if_pos (by omega)]) | (rw [if_neg (by omega), rd_eq, if_pos (by omega)])); (have y9_ := n9_ j_ (by omega); have v9_ : slv dd_ S0_ (j_ : Int) ≤ 1 ∨ _ = _ := y9_.2.imp id (fun q9_ => r8_.1.1 _ q9_); refine ⟨?_, y9_.2.imp id (fun q9_ => fun e9_ => q9_ ((r8_.1.1 _ q9_).symm.trans e9_))⟩; rw [ntq_cg v9_, ← y9_.1]; first | (rw [rd_ne (show (38 : Nat) ≠ 37 by decide), o38_]; split; (rw [rd_eq, if_neg (by omega), o37_]); rfl) | (rw [rd_ne (show (37 : Nat) ≠ 38 by decide), o37_]; split; rfl; (rw [rd_eq, if_neg (by omega), o38_]))))) | (refine ⟨M9_, g9_, i9_, cgz_fr (w_ := ([], [37, 38], [])) c9_ (ai_fr_aI rfl), ?_, ?_⟩; (rw [rd_ne_ (by decide), x9_, show (k_ + 1).toNat = k_.toNat + 1 by omega]; show _ = (if slv dd_ S0_ ((k_.toNat : Nat) : Int) ≤ 1 then _ else _); rw [if_pos (by (rw [show ((k_.toNat : Nat) : Int) = k_ by omega, ← s63_]; omega))]); (intro j_ u_; rw [rd_ne_ (t'_ := 72) (by decide)]; by_cases z9_ : (j_ : Int) = k_; (refine ⟨?_, Or.inl (by (rw [z9_, ← s63_]; omega))⟩; rw [ntq_a (x_ := slv dd_ S0_ k_) (by (show slv dd_ S0_ (j_ : Int) = _; rw [z9_])) (by (rw [← s63_]; omega)), z9_, ← s63_]; first | (rw [if_pos (by omega), rd_eq, if_pos (by omega)]; omega) | (rw [if_neg (by omega), rd_eq, if_pos (by omega)]; omega)); (have y9_ := n9_ j_ (by omega); refine ⟨?_, y9_.2⟩; rw [← y9_.1]; first | (rw [rd_ne (show (38 : Nat) ≠ 37 by decide)]; split; (rw [rd_eq, if_neg (by omega)]); rfl) | (rw [rd_ne (show (37 : Nat) ≠ 38 by decide)]; split; rfl; (rw [rd_eq, if_neg (by omega)])))))
            · exact hCx25_
            · omega
          · have cx22_ : ¬ ((S_.1 3 dd_ 3) ≤ k_) := of_decide_eq_false cx22_
            refine sm_T_go 4 (c1 := (129, [some (.inr (.inr (some (6, 0)))), some (.inr (.inr (some (2, cc_)))), some (.inl k_), some (.inl vx19_), some (.inl (-vx19_ - 1)), none], [.inl (-vx19_ - 1), .inl k_, .inr (.inr (some (37, (0 + cc_))))], S_)) rfl ?_
            refine sm_T_iast (n := 16) rfl rfl (by omega) (by omega) ?_
            have hIx26_ : gi (sm_aI S_ 37 (0 + cc_) k_.toNat (-vx19_ - 1)) := gi_aI hI_ (show (-2) ≤ -vx19_ - 1 ∧ -vx19_ - 1 ≤ 161 from ⟨by omega, by omega⟩)
            have hFx27_ : ai_fr (sx_W vw_109n) S0_ (sm_aI S_ 37 (0 + cc_) k_.toNat (-vx19_ - 1)) := ai_fr_tr hF_ (ai_fr_aI rfl)
            have hCx28_ : cdf cc_ S0_ (sm_aI S_ 37 (0 + cc_) k_.toNat (-vx19_ - 1)) := cdf_aI hC_ (Or.inr (by rw [show cof 37 = 0 from rfl] <;> omega))
            refine sm_T_go 1 (c1 := (149, [some (.inr (.inr (some (6, 0)))), some (.inr (.inr (some (2, cc_)))), some (.inl k_), some (.inl vx19_), some (.inl (-vx19_ - 1)), none], [], sm_aI S_ 37 (0 + cc_) k_.toNat (-vx19_ - 1))) rfl ?_
            refine sm_T_inc (a := 2) (z := 1) (v := k_) (w := k_ + 1) rfl rfl (by omega) (by omega) (by omega) ?_ -- pc_ 149
            refine sm_T_go 1 (c1 := (40, [some (.inr (.inr (some (6, 0)))), some (.inr (.inr (some (2, cc_)))), some (.inl (k_ + 1)), some (.inl vx19_), some (.inl (-vx19_ - 1)), none], [], sm_aI S_ 37 (0 + cc_) k_.toNat (-vx19_ - 1))) rfl ?_
            refine sm_T_wk [some (.inr (.inr (some (6, 0)))), some (.inr (.inr (some (2, cc_)))), some (.inl (k_ + 1)), none, none, none] (by exact ⟨rfl, rfl, rfl, trivial⟩) ?_
            refine ih_.2 (k_ + 1) (sm_aI S_ 37 (0 + cc_) k_.toNat (-vx19_ - 1)) hIx26_ hFx27_ ⟨?_, ?_, ?_, ?_, trivial⟩ ?_
            · omega
            · first | (intro x_ u_ w_; rw [rd_ne (by decide)]; exact hi9_ x_ u_ w_) | (intro x_ u_ w_; rw [rd_ne (by decide)]; exact a94_ x_ u_ w_)
            · first | (have y8_ := X94_; obtain ⟨g8_, c8_, w8_⟩ := X94_.1 (by omega); rw [s63_, ← k94_] at w8_; have GD9_ := gdg_c hw_ hf_; have r8_ := gmk_r (gc_ := cgc ll_ S0_) (show 0 ≤ (S0_.1 2 cc_ 1 + S0_.1 2 cc_ 2) by omega) GD9_ 4000 (3 * (slv dd_ S0_ k_ / 2) + 2 * (slv dd_ S0_ k_ % 2)).toNat (rtq (cpn ll_ S0_) (cpv (1 + S0_.1 3 dd_ 1 + S0_.1 3 dd_ 2) S0_) (cgc ll_ S0_) (S0_.1 2 cc_ 1 + S0_.1 2 cc_ 2) (fun j_ => slv dd_ S0_ (j_ : Int)) (k_.toNat) (M9_, [])) (by (unfold cgk; rw [show (((3 * (slv dd_ S0_ k_ / 2) + 2 * (slv dd_ S0_ k_ % 2)).toNat : Nat) : Int) = 3 * (slv dd_ S0_ k_ / 2) + 2 * (slv dd_ S0_ k_ % 2) by (have y9_ := (g63_ (by omega)).1; rw [s63_] at y9_; omega)]; exact (by (have y9_ := g63_ (by omega); rw [s63_] at y9_; exact y9_)))) (fun x_ hx_ => by (rw [← x9_]; have z9_ := hi9_ ((x_ : Int) / 3) (by have := hx_.1; omega) hx_.2.1; have y9_ := hx_.2.2; rw [show (3 * ((x_ : Int) / 3)).toNat = x_ by omega] at z9_; exact z9_)) (by (unfold crk; rw [show (((3 * (slv dd_ S0_ k_ / 2) + 2 * (slv dd_ S0_ k_ % 2)).toNat : Nat) : Int) = 3 * (slv dd_ S0_ k_ / 2) + 2 * (slv dd_ S0_ k_ % 2) by (have y9_ := (g63_ (by omega)).1; rw [s63_] at y9_; omega)]; have y9_ := grk_b (S0_.2.2.1 62 0) (3 * (slv dd_ S0_ k_ / 2) + 2 * (slv dd_ S0_ k_ % 2)); have y7_ := (g63_ (by omega)).2.1; rw [s63_] at y7_; omega)); refine ⟨M9_, g8_, i9_, cgz_fr (w_ := ([], [37, 38], [])) c8_ (ai_fr_aI rfl), ?_, ?_⟩; (rw [rd_ne_ (by decide)]; exact w8_); (rw [← k94_, ← w8_, ← x9_] at r8_; intro j_ u_; rw [rd_ne_ (t'_ := 72) (by decide)]; by_cases z9_ : (j_ : Int) = k_; (refine ⟨?_, Or.inr (by (rw [z9_]; exact r8_.2.1))⟩; rw [ntq_b (x_ := slv dd_ S0_ k_) (by (show slv dd_ S0_ (j_ : Int) = _; rw [z9_])) (by (rw [← s63_]; omega)), z9_, ← s63_]; first | (rw [if_pos (by omega), rd_eq, if_pos (by omega)]) | (rw [if_neg (by omega), rd_eq, if_pos (by omega)])); (have y9_ := n9_ j_ (by omega); have v9_ : slv dd_ S0_ (j_ : Int) ≤ 1 ∨ _ = _ := y9_.2.imp id (fun q9_ => r8_.1.1 _ q9_); refine ⟨?_, y9_.2.imp id (fun q9_ => fun e9_ => q9_ ((r8_.1.1 _ q9_).symm.trans e9_))⟩; rw [ntq_cg v9_, ← y9_.1]; first | (rw [rd_ne (show (38 : Nat) ≠ 37 by decide), o38_]; split; (rw [rd_eq, if_neg (by omega), o37_]); rfl) | (rw [rd_ne (show (37 : Nat) ≠ 38 by decide), o37_]; split; rfl; (rw [rd_eq, if_neg (by omega), o38_]))))) | (refine ⟨M9_, g9_, i9_, cgz_fr (w_ := ([], [37, 38], [])) c9_ (ai_fr_aI rfl), ?_, ?_⟩; (rw [rd_ne_ (by decide), x9_, show (k_ + 1).toNat = k_.toNat + 1 by omega]; show _ = (if slv dd_ S0_ ((k_.toNat : Nat) : Int) ≤ 1 then _ else _); rw [if_pos (by (rw [show ((k_.toNat : Nat) : Int) = k_ by omega, ← s63_]; omega))]); (intro j_ u_; rw [rd_ne_ (t'_ := 72) (by decide)]; by_cases z9_ : (j_ : Int) = k_; (refine ⟨?_, Or.inl (by (rw [z9_, ← s63_]; omega))⟩; rw [ntq_a (x_ := slv dd_ S0_ k_) (by (show slv dd_ S0_ (j_ : Int) = _; rw [z9_])) (by (rw [← s63_]; omega)), z9_, ← s63_]; first | (rw [if_pos (by omega), rd_eq, if_pos (by omega)]; omega) | (rw [if_neg (by omega), rd_eq, if_pos (by omega)]; omega)); (have y9_ := n9_ j_ (by omega); refine ⟨?_, y9_.2⟩; rw [← y9_.1]; first | (rw [rd_ne (show (38 : Nat) ≠ 37 by decide)]; split; (rw [rd_eq, if_neg (by omega)]); rfl) | (rw [rd_ne (show (37 : Nat) ≠ 38 by decide)]; split; rfl; (rw [rd_eq, if_neg (by omega)])))))
            · exact hCx28_
            · omega
        · have cx20_ : ¬ (vx19_ ≤ 1) := of_decide_eq_false cx20_
          refine sm_T_go 3 (c1 := (80, [some (.inr (.inr (some (6, 0)))), some (.inr (.inr (some (2, cc_)))), some (.inl k_), some (.inl vx19_), some (.inl (-vx19_ - 1)), none], [.inl 1, .inl vx19_, .inl 3], S_)) rfl ?_
          refine sm_T_bin (w := (vx19_ / 2)) rfl (bi_shr (k := 1) (by decide) (by omega) (by omega)) ?_ -- pc_ 80
          refine sm_T_bin (w := 3 * (vx19_ / 2)) rfl (bi_mul (by omega) (by omega) (by omega)) ?_ -- pc_ 81
          refine sm_T_go 3 (c1 := (85, [some (.inr (.inr (some (6, 0)))), some (.inr (.inr (some (2, cc_)))), some (.inl k_), some (.inl vx19_), some (.inl (-vx19_ - 1)), none], [.inl 1, .inl vx19_, .inl 2, .inl (3 * (vx19_ / 2))], S_)) rfl ?_
          refine sm_T_bin (w := (vx19_ % 2)) rfl (bi_msk (k := 1) (by decide)) ?_ -- pc_ 85
          refine sm_T_bin (w := 2 * (vx19_ % 2)) rfl (bi_mul (by omega) (by omega) (by omega)) ?_ -- pc_ 86
          refine sm_T_bin (w := 3 * (vx19_ / 2) + 2 * (vx19_ % 2)) rfl (bi_add (by omega) (by omega) (by omega)) ?_ -- pc_ 87
          refine sm_T_go 4 (c1 := (94, [some (.inr (.inr (some (6, 0)))), some (.inr (.inr (some (2, cc_)))), some (.inl k_), some (.inl vx19_), some (.inl (-vx19_ - 1)), some (.inl (3 * (vx19_ / 2) + 2 * (vx19_ % 2)))], [.inr (.inr (some (2, cc_))), .inl (3 * (vx19_ / 2) + 2 * (vx19_ % 2)), .inr (.inr (some (6, 0)))], S_)) rfl ?_
          refine sm_T_cal (d1 := 4) (Q1 := vq_110n (3 * (vx19_ / 2) + 2 * (vx19_ % 2)) dd_ ll_ cc_ g9_ S_) rfl rfl (by decide) (vc_110n (3 * (vx19_ / 2) + 2 * (vx19_ % 2)) dd_ ll_ cc_ g9_ S_ hI_ (by exact c9_) (by exact (hF_.2.1 6 0 0 rfl).trans hd_) (by exact (hF_.2.1 6 0 1 rfl).trans hc_) (by (rw [f1_, f2_, f4_]; exact wal_fr hw_ hF_)) (by (rw [f1_, f2_, f4_, f5_, f59_, f62_]; exact g63_ (by omega))) (by omega) (by (rw [f1_, f2_]; exact hi9_))) (fun u_ Sx29_ px32_ => ?_)
          obtain ⟨vx34_, rfl, hIx30_, hFx31_, px32_⟩ := px32_
          have hFx33_ : ai_fr (sx_W vw_109n) S0_ Sx29_ := ai_fr_tr hF_ (fr_le hFx31_ rfl)
          obtain ⟨dx36_, px32_⟩ := px32_
          have hCx35_ : cdf cc_ S0_ Sx29_ := cdf_tr hC_ (cdf_cg (by omega) dx36_)
          have o94_ : Sx29_.1 3 dd_ 3 = S_.1 3 dd_ 3 := hFx31_.1 3 dd_ 3 rfl
          have o37_ : Sx29_.2.2.1 37 (0 + cc_) = S_.2.2.1 37 (0 + cc_) := fr_arr hFx31_ rfl
          have o38_ : Sx29_.2.2.1 38 (0 + cc_) = S_.2.2.1 38 (0 + cc_) := fr_arr hFx31_ rfl
          have a94_ := (px32_).1.2
          have b94_ := (px32_).1.1
          rw [f1_, f2_] at a94_
          have X94_ := (px32_).2
          have fg9_ : cgc ll_ S_ = cgc ll_ S0_ ∧ cpn ll_ S_ = cpn ll_ S0_ ∧ cpv (1 + S_.1 3 dd_ 1 + S_.1 3 dd_ 2) S_ = cpv (1 + S0_.1 3 dd_ 1 + S0_.1 3 dd_ 2) S0_ := ⟨by (funext u_; unfold cgc; rw [f62_, f5_]), by (funext u_; unfold cpn; rw [f62_, f55_]), by (funext u_ k_; unfold cpv; rw [f1_, f2_, f60_, f62_, f63_, f64_])⟩
          rw [fg9_.1, fg9_.2.1, fg9_.2.2, e1_, e2_, x9_] at X94_
          have k94_ : rtq (cpn ll_ S0_) (cpv (1 + S0_.1 3 dd_ 1 + S0_.1 3 dd_ 2) S0_) (cgc ll_ S0_) (S0_.1 2 cc_ 1 + S0_.1 2 cc_ 2) (fun j_ => slv dd_ S0_ (j_ : Int)) ((k_ + 1).toNat) (M9_, []) = gmk (cpn ll_ S0_) (cpv (1 + S0_.1 3 dd_ 1 + S0_.1 3 dd_ 2) S0_) (cgc ll_ S0_) (S0_.1 2 cc_ 1 + S0_.1 2 cc_ 2) 4000 (3 * (slv dd_ S0_ k_ / 2) + 2 * (slv dd_ S0_ k_ % 2)).toNat (rtq (cpn ll_ S0_) (cpv (1 + S0_.1 3 dd_ 1 + S0_.1 3 dd_ 2) S0_) (cgc ll_ S0_) (S0_.1 2 cc_ 1 + S0_.1 2 cc_ 2) (fun j_ => slv dd_ S0_ (j_ : Int)) (k_.toNat) (M9_, [])) := by (rw [show (k_ + 1).toNat = k_.toNat + 1 by omega]; show (if slv dd_ S0_ ((k_.toNat : Nat) : Int) ≤ 1 then _ else gmk _ _ _ _ 4000 (3 * (slv dd_ S0_ ((k_.toNat : Nat) : Int) / 2) + 2 * (slv dd_ S0_ ((k_.toNat : Nat) : Int) % 2)).toNat _) = _; rw [show ((k_.toNat : Nat) : Int) = k_ by omega, if_neg (by omega)])
          have t94_ : 3 * ((slv dd_ S0_ k_) / 2) + 2 * ((slv dd_ S0_ k_) % 2) = 3 * (slv dd_ S0_ k_ / 2) + 2 * (slv dd_ S0_ k_ % 2) := by (rw [← s63_])
          have g62_ := g63_ (by omega)
          have g61_ := g62_.1
          have g60_ := g62_.2.1
          refine sm_T_b0 (a := 1) (z := 5) rfl (fun cx37_ => ?_) (fun cx37_ => ?_)
          · have cx37_ : vx34_ ≠ 0 := of_decide_eq_true cx37_
            refine sm_T_go 3 (c1 := (108, [some (.inr (.inr (some (6, 0)))), some (.inr (.inr (some (2, cc_)))), some (.inl k_), some (.inl vx19_), some (.inl (-vx19_ - 1)), some (.inl (3 * (vx19_ / 2) + 2 * (vx19_ % 2)))], [.inl (3 * (vx19_ / 2) + 2 * (vx19_ % 2)), .inr (.inr (some (72, 0)))], Sx29_)) rfl ?_
            refine sm_T_iald (n := 3039) rfl rfl (by omega) (by omega) ?_
            have bx38_ : (-1) ≤ Sx29_.2.2.1 72 0 (3 * (vx19_ / 2) + 2 * (vx19_ % 2)).toNat ∧ Sx29_.2.2.1 72 0 (3 * (vx19_ / 2) + 2 * (vx19_ % 2)).toNat ≤ 161 := hIx30_.2 72 0 _
            refine sm_T_go 3 (c1 := (113, [some (.inr (.inr (some (6, 0)))), some (.inr (.inr (some (2, cc_)))), some (.inl k_), some (.inl vx19_), some (.inl (Sx29_.2.2.1 72 0 (3 * (vx19_ / 2) + 2 * (vx19_ % 2)).toNat)), some (.inl (3 * (vx19_ / 2) + 2 * (vx19_ % 2)))], [.inr (.inr (some (6, 0))), .inl k_], Sx29_)) rfl ?_
            refine sm_T_gr rfl rfl ((hFx33_.2.1 6 0 0 rfl).trans hd_) ?_
            have bx39_ : 0 ≤ Sx29_.1 3 dd_ 3 ∧ Sx29_.1 3 dd_ 3 ≤ 320 := hIx30_.1 3 dd_ 3 rfl
            refine sm_T_go 1 (c1 := (119, [some (.inr (.inr (some (6, 0)))), some (.inr (.inr (some (2, cc_)))), some (.inl k_), some (.inl vx19_), some (.inl (Sx29_.2.2.1 72 0 (3 * (vx19_ / 2) + 2 * (vx19_ % 2)).toNat)), some (.inl (3 * (vx19_ / 2) + 2 * (vx19_ % 2)))], [.inl (Sx29_.1 3 dd_ 3), .inl k_], Sx29_)) rfl ?_
            refine sm_T_br (a := 3) (z := 14) rfl (fun cx40_ => ?_) (fun cx40_ => ?_)
            · have cx40_ : (Sx29_.1 3 dd_ 3) ≤ k_ := of_decide_eq_true cx40_
              refine sm_T_go 4 (c1 := (139, [some (.inr (.inr (some (6, 0)))), some (.inr (.inr (some (2, cc_)))), some (.inl k_), some (.inl vx19_), some (.inl (Sx29_.2.2.1 72 0 (3 * (vx19_ / 2) + 2 * (vx19_ % 2)).toNat)), some (.inl (3 * (vx19_ / 2) + 2 * (vx19_ % 2)))], [.inr (.inr (some (6, 0))), .inl k_, .inr (.inr (some (38, (0 + cc_))))], Sx29_)) rfl ?_
              refine sm_T_gr rfl rfl ((hFx33_.2.1 6 0 0 rfl).trans hd_) ?_
              refine sm_T_go 1 (c1 := (145, [some (.inr (.inr (some (6, 0)))), some (.inr (.inr (some (2, cc_)))), some (.inl k_), some (.inl vx19_), some (.inl (Sx29_.2.2.1 72 0 (3 * (vx19_ / 2) + 2 * (vx19_ % 2)).toNat)), some (.inl (3 * (vx19_ / 2) + 2 * (vx19_ % 2)))], [.inl (Sx29_.1 3 dd_ 3), .inl k_, .inr (.inr (some (38, (0 + cc_))))], Sx29_)) rfl ?_
              refine sm_T_bin (w := k_ - (Sx29_.1 3 dd_ 3)) rfl (bi_sub (by omega) (by omega) (by omega)) ?_ -- pc_ 145
              refine sm_T_go 1 (c1 := (148, [some (.inr (.inr (some (6, 0)))), some (.inr (.inr (some (2, cc_)))), some (.inl k_), some (.inl vx19_), some (.inl (Sx29_.2.2.1 72 0 (3 * (vx19_ / 2) + 2 * (vx19_ % 2)).toNat)), some (.inl (3 * (vx19_ / 2) + 2 * (vx19_ % 2)))], [.inl (Sx29_.2.2.1 72 0 (3 * (vx19_ / 2) + 2 * (vx19_ % 2)).toNat), .inl (k_ - (Sx29_.1 3 dd_ 3)), .inr (.inr (some (38, (0 + cc_))))], Sx29_)) rfl ?_
              refine sm_T_iast (n := 6) rfl rfl (by omega) (by omega) ?_
              have hIx41_ : gi (sm_aI Sx29_ 38 (0 + cc_) (k_ - (Sx29_.1 3 dd_ 3)).toNat (Sx29_.2.2.1 72 0 (3 * (vx19_ / 2) + 2 * (vx19_ % 2)).toNat)) := gi_aI hIx30_ (show (-2) ≤ (Sx29_.2.2.1 72 0 (3 * (vx19_ / 2) + 2 * (vx19_ % 2)).toNat) ∧ (Sx29_.2.2.1 72 0 (3 * (vx19_ / 2) + 2 * (vx19_ % 2)).toNat) ≤ 161 from ⟨by omega, by omega⟩)
              have hFx42_ : ai_fr (sx_W vw_109n) S0_ (sm_aI Sx29_ 38 (0 + cc_) (k_ - (Sx29_.1 3 dd_ 3)).toNat (Sx29_.2.2.1 72 0 (3 * (vx19_ / 2) + 2 * (vx19_ % 2)).toNat)) := ai_fr_tr hFx33_ (ai_fr_aI rfl)
              have hCx43_ : cdf cc_ S0_ (sm_aI Sx29_ 38 (0 + cc_) (k_ - (Sx29_.1 3 dd_ 3)).toNat (Sx29_.2.2.1 72 0 (3 * (vx19_ / 2) + 2 * (vx19_ % 2)).toNat)) := cdf_aI hCx35_ (Or.inr (by rw [show cof 38 = 0 from rfl] <;> omega))
              refine sm_T_inc (a := 2) (z := 1) (v := k_) (w := k_ + 1) rfl rfl (by omega) (by omega) (by omega) ?_ -- pc_ 149
              refine sm_T_go 1 (c1 := (40, [some (.inr (.inr (some (6, 0)))), some (.inr (.inr (some (2, cc_)))), some (.inl (k_ + 1)), some (.inl vx19_), some (.inl (Sx29_.2.2.1 72 0 (3 * (vx19_ / 2) + 2 * (vx19_ % 2)).toNat)), some (.inl (3 * (vx19_ / 2) + 2 * (vx19_ % 2)))], [], sm_aI Sx29_ 38 (0 + cc_) (k_ - (Sx29_.1 3 dd_ 3)).toNat (Sx29_.2.2.1 72 0 (3 * (vx19_ / 2) + 2 * (vx19_ % 2)).toNat))) rfl ?_
              refine sm_T_wk [some (.inr (.inr (some (6, 0)))), some (.inr (.inr (some (2, cc_)))), some (.inl (k_ + 1)), none, none, none] (by exact ⟨rfl, rfl, rfl, trivial⟩) ?_
              refine ih_.2 (k_ + 1) (sm_aI Sx29_ 38 (0 + cc_) (k_ - (Sx29_.1 3 dd_ 3)).toNat (Sx29_.2.2.1 72 0 (3 * (vx19_ / 2) + 2 * (vx19_ % 2)).toNat)) hIx41_ hFx42_ ⟨?_, ?_, ?_, ?_, trivial⟩ ?_
              · omega
              · first | (intro x_ u_ w_; rw [rd_ne (by decide)]; exact hi9_ x_ u_ w_) | (intro x_ u_ w_; rw [rd_ne (by decide)]; exact a94_ x_ u_ w_)
              · first | (have y8_ := X94_; obtain ⟨g8_, c8_, w8_⟩ := X94_.1 (by omega); rw [s63_, ← k94_] at w8_; have GD9_ := gdg_c hw_ hf_; have r8_ := gmk_r (gc_ := cgc ll_ S0_) (show 0 ≤ (S0_.1 2 cc_ 1 + S0_.1 2 cc_ 2) by omega) GD9_ 4000 (3 * (slv dd_ S0_ k_ / 2) + 2 * (slv dd_ S0_ k_ % 2)).toNat (rtq (cpn ll_ S0_) (cpv (1 + S0_.1 3 dd_ 1 + S0_.1 3 dd_ 2) S0_) (cgc ll_ S0_) (S0_.1 2 cc_ 1 + S0_.1 2 cc_ 2) (fun j_ => slv dd_ S0_ (j_ : Int)) (k_.toNat) (M9_, [])) (by (unfold cgk; rw [show (((3 * (slv dd_ S0_ k_ / 2) + 2 * (slv dd_ S0_ k_ % 2)).toNat : Nat) : Int) = 3 * (slv dd_ S0_ k_ / 2) + 2 * (slv dd_ S0_ k_ % 2) by (have y9_ := (g63_ (by omega)).1; rw [s63_] at y9_; omega)]; exact (by (have y9_ := g63_ (by omega); rw [s63_] at y9_; exact y9_)))) (fun x_ hx_ => by (rw [← x9_]; have z9_ := hi9_ ((x_ : Int) / 3) (by have := hx_.1; omega) hx_.2.1; have y9_ := hx_.2.2; rw [show (3 * ((x_ : Int) / 3)).toNat = x_ by omega] at z9_; exact z9_)) (by (unfold crk; rw [show (((3 * (slv dd_ S0_ k_ / 2) + 2 * (slv dd_ S0_ k_ % 2)).toNat : Nat) : Int) = 3 * (slv dd_ S0_ k_ / 2) + 2 * (slv dd_ S0_ k_ % 2) by (have y9_ := (g63_ (by omega)).1; rw [s63_] at y9_; omega)]; have y9_ := grk_b (S0_.2.2.1 62 0) (3 * (slv dd_ S0_ k_ / 2) + 2 * (slv dd_ S0_ k_ % 2)); have y7_ := (g63_ (by omega)).2.1; rw [s63_] at y7_; omega)); refine ⟨M9_, g8_, i9_, cgz_fr (w_ := ([], [37, 38], [])) c8_ (ai_fr_aI rfl), ?_, ?_⟩; (rw [rd_ne_ (by decide)]; exact w8_); (rw [← k94_, ← w8_, ← x9_] at r8_; intro j_ u_; rw [rd_ne_ (t'_ := 72) (by decide)]; by_cases z9_ : (j_ : Int) = k_; (refine ⟨?_, Or.inr (by (rw [z9_]; exact r8_.2.1))⟩; rw [ntq_b (x_ := slv dd_ S0_ k_) (by (show slv dd_ S0_ (j_ : Int) = _; rw [z9_])) (by (rw [← s63_]; omega)), z9_, ← s63_]; first | (rw [if_pos (by omega), rd_eq, if_pos (by omega)]) | (rw [if_neg (by omega), rd_eq, if_pos (by omega)])); (have y9_ := n9_ j_ (by omega); have v9_ : slv dd_ S0_ (j_ : Int) ≤ 1 ∨ _ = _ := y9_.2.imp id (fun q9_ => r8_.1.1 _ q9_); refine ⟨?_, y9_.2.imp id (fun q9_ => fun e9_ => q9_ ((r8_.1.1 _ q9_).symm.trans e9_))⟩; rw [ntq_cg v9_, ← y9_.1]; first | (rw [rd_ne (show (38 : Nat) ≠ 37 by decide), o38_]; split; (rw [rd_eq, if_neg (by omega), o37_]); rfl) | (rw [rd_ne (show (37 : Nat) ≠ 38 by decide), o37_]; split; rfl; (rw [rd_eq, if_neg (by omega), o38_]))))) | (refine ⟨M9_, g9_, i9_, cgz_fr (w_ := ([], [37, 38], [])) c9_ (ai_fr_aI rfl), ?_, ?_⟩; (rw [rd_ne_ (by decide), x9_, show (k_ + 1).toNat = k_.toNat + 1 by omega]; show _ = (if slv dd_ S0_ ((k_.toNat : Nat) : Int) ≤ 1 then _ else _); rw [if_pos (by (rw [show ((k_.toNat : Nat) : Int) = k_ by omega, ← s63_]; omega))]); (intro j_ u_; rw [rd_ne_ (t'_ := 72) (by decide)]; by_cases z9_ : (j_ : Int) = k_; (refine ⟨?_, Or.inl (by (rw [z9_, ← s63_]; omega))⟩; rw [ntq_a (x_ := slv dd_ S0_ k_) (by (show slv dd_ S0_ (j_ : Int) = _; rw [z9_])) (by (rw [← s63_]; omega)), z9_, ← s63_]; first | (rw [if_pos (by omega), rd_eq, if_pos (by omega)]; omega) | (rw [if_neg (by omega), rd_eq, if_pos (by omega)]; omega)); (have y9_ := n9_ j_ (by omega); refine ⟨?_, y9_.2⟩; rw [← y9_.1]; first | (rw [rd_ne (show (38 : Nat) ≠ 37 by decide)]; split; (rw [rd_eq, if_neg (by omega)]); rfl) | (rw [rd_ne (show (37 : Nat) ≠ 38 by decide)]; split; rfl; (rw [rd_eq, if_neg (by omega)])))))
              · exact hCx43_
              · omega
            · have cx40_ : ¬ ((Sx29_.1 3 dd_ 3) ≤ k_) := of_decide_eq_false cx40_
              refine sm_T_go 4 (c1 := (129, [some (.inr (.inr (some (6, 0)))), some (.inr (.inr (some (2, cc_)))), some (.inl k_), some (.inl vx19_), some (.inl (Sx29_.2.2.1 72 0 (3 * (vx19_ / 2) + 2 * (vx19_ % 2)).toNat)), some (.inl (3 * (vx19_ / 2) + 2 * (vx19_ % 2)))], [.inl (Sx29_.2.2.1 72 0 (3 * (vx19_ / 2) + 2 * (vx19_ % 2)).toNat), .inl k_, .inr (.inr (some (37, (0 + cc_))))], Sx29_)) rfl ?_
              refine sm_T_iast (n := 16) rfl rfl (by omega) (by omega) ?_
              have hIx44_ : gi (sm_aI Sx29_ 37 (0 + cc_) k_.toNat (Sx29_.2.2.1 72 0 (3 * (vx19_ / 2) + 2 * (vx19_ % 2)).toNat)) := gi_aI hIx30_ (show (-2) ≤ (Sx29_.2.2.1 72 0 (3 * (vx19_ / 2) + 2 * (vx19_ % 2)).toNat) ∧ (Sx29_.2.2.1 72 0 (3 * (vx19_ / 2) + 2 * (vx19_ % 2)).toNat) ≤ 161 from ⟨by omega, by omega⟩)
              have hFx45_ : ai_fr (sx_W vw_109n) S0_ (sm_aI Sx29_ 37 (0 + cc_) k_.toNat (Sx29_.2.2.1 72 0 (3 * (vx19_ / 2) + 2 * (vx19_ % 2)).toNat)) := ai_fr_tr hFx33_ (ai_fr_aI rfl)
              have hCx46_ : cdf cc_ S0_ (sm_aI Sx29_ 37 (0 + cc_) k_.toNat (Sx29_.2.2.1 72 0 (3 * (vx19_ / 2) + 2 * (vx19_ % 2)).toNat)) := cdf_aI hCx35_ (Or.inr (by rw [show cof 37 = 0 from rfl] <;> omega))
              refine sm_T_go 1 (c1 := (149, [some (.inr (.inr (some (6, 0)))), some (.inr (.inr (some (2, cc_)))), some (.inl k_), some (.inl vx19_), some (.inl (Sx29_.2.2.1 72 0 (3 * (vx19_ / 2) + 2 * (vx19_ % 2)).toNat)), some (.inl (3 * (vx19_ / 2) + 2 * (vx19_ % 2)))], [], sm_aI Sx29_ 37 (0 + cc_) k_.toNat (Sx29_.2.2.1 72 0 (3 * (vx19_ / 2) + 2 * (vx19_ % 2)).toNat))) rfl ?_
              refine sm_T_inc (a := 2) (z := 1) (v := k_) (w := k_ + 1) rfl rfl (by omega) (by omega) (by omega) ?_ -- pc_ 149
              refine sm_T_go 1 (c1 := (40, [some (.inr (.inr (some (6, 0)))), some (.inr (.inr (some (2, cc_)))), some (.inl (k_ + 1)), some (.inl vx19_), some (.inl (Sx29_.2.2.1 72 0 (3 * (vx19_ / 2) + 2 * (vx19_ % 2)).toNat)), some (.inl (3 * (vx19_ / 2) + 2 * (vx19_ % 2)))], [], sm_aI Sx29_ 37 (0 + cc_) k_.toNat (Sx29_.2.2.1 72 0 (3 * (vx19_ / 2) + 2 * (vx19_ % 2)).toNat))) rfl ?_
              refine sm_T_wk [some (.inr (.inr (some (6, 0)))), some (.inr (.inr (some (2, cc_)))), some (.inl (k_ + 1)), none, none, none] (by exact ⟨rfl, rfl, rfl, trivial⟩) ?_
              refine ih_.2 (k_ + 1) (sm_aI Sx29_ 37 (0 + cc_) k_.toNat (Sx29_.2.2.1 72 0 (3 * (vx19_ / 2) + 2 * (vx19_ % 2)).toNat)) hIx44_ hFx45_ ⟨?_, ?_, ?_, ?_, trivial⟩ ?_
              · omega
              · first | (intro x_ u_ w_; rw [rd_ne (by decide)]; exact hi9_ x_ u_ w_) | (intro x_ u_ w_; rw [rd_ne (by decide)]; exact a94_ x_ u_ w_)
              · first | (have y8_ := X94_; obtain ⟨g8_, c8_, w8_⟩ := X94_.1 (by omega); rw [s63_, ← k94_] at w8_; have GD9_ := gdg_c hw_ hf_; have r8_ := gmk_r (gc_ := cgc ll_ S0_) (show 0 ≤ (S0_.1 2 cc_ 1 + S0_.1 2 cc_ 2) by omega) GD9_ 4000 (3 * (slv dd_ S0_ k_ / 2) + 2 * (slv dd_ S0_ k_ % 2)).toNat (rtq (cpn ll_ S0_) (cpv (1 + S0_.1 3 dd_ 1 + S0_.1 3 dd_ 2) S0_) (cgc ll_ S0_) (S0_.1 2 cc_ 1 + S0_.1 2 cc_ 2) (fun j_ => slv dd_ S0_ (j_ : Int)) (k_.toNat) (M9_, [])) (by (unfold cgk; rw [show (((3 * (slv dd_ S0_ k_ / 2) + 2 * (slv dd_ S0_ k_ % 2)).toNat : Nat) : Int) = 3 * (slv dd_ S0_ k_ / 2) + 2 * (slv dd_ S0_ k_ % 2) by (have y9_ := (g63_ (by omega)).1; rw [s63_] at y9_; omega)]; exact (by (have y9_ := g63_ (by omega); rw [s63_] at y9_; exact y9_)))) (fun x_ hx_ => by (rw [← x9_]; have z9_ := hi9_ ((x_ : Int) / 3) (by have := hx_.1; omega) hx_.2.1; have y9_ := hx_.2.2; rw [show (3 * ((x_ : Int) / 3)).toNat = x_ by omega] at z9_; exact z9_)) (by (unfold crk; rw [show (((3 * (slv dd_ S0_ k_ / 2) + 2 * (slv dd_ S0_ k_ % 2)).toNat : Nat) : Int) = 3 * (slv dd_ S0_ k_ / 2) + 2 * (slv dd_ S0_ k_ % 2) by (have y9_ := (g63_ (by omega)).1; rw [s63_] at y9_; omega)]; have y9_ := grk_b (S0_.2.2.1 62 0) (3 * (slv dd_ S0_ k_ / 2) + 2 * (slv dd_ S0_ k_ % 2)); have y7_ := (g63_ (by omega)).2.1; rw [s63_] at y7_; omega)); refine ⟨M9_, g8_, i9_, cgz_fr (w_ := ([], [37, 38], [])) c8_ (ai_fr_aI rfl), ?_, ?_⟩; (rw [rd_ne_ (by decide)]; exact w8_); (rw [← k94_, ← w8_, ← x9_] at r8_; intro j_ u_; rw [rd_ne_ (t'_ := 72) (by decide)]; by_cases z9_ : (j_ : Int) = k_; (refine ⟨?_, Or.inr (by (rw [z9_]; exact r8_.2.1))⟩; rw [ntq_b (x_ := slv dd_ S0_ k_) (by (show slv dd_ S0_ (j_ : Int) = _; rw [z9_])) (by (rw [← s63_]; omega)), z9_, ← s63_]; first | (rw [if_pos (by omega), rd_eq, if_pos (by omega)]) | (rw [if_neg (by omega), rd_eq, if_pos (by omega)])); (have y9_ := n9_ j_ (by omega); have v9_ : slv dd_ S0_ (j_ : Int) ≤ 1 ∨ _ = _ := y9_.2.imp id (fun q9_ => r8_.1.1 _ q9_); refine ⟨?_, y9_.2.imp id (fun q9_ => fun e9_ => q9_ ((r8_.1.1 _ q9_).symm.trans e9_))⟩; rw [ntq_cg v9_, ← y9_.1]; first | (rw [rd_ne (show (38 : Nat) ≠ 37 by decide), o38_]; split; (rw [rd_eq, if_neg (by omega), o37_]); rfl) | (rw [rd_ne (show (37 : Nat) ≠ 38 by decide), o37_]; split; rfl; (rw [rd_eq, if_neg (by omega), o38_]))))) | (refine ⟨M9_, g9_, i9_, cgz_fr (w_ := ([], [37, 38], [])) c9_ (ai_fr_aI rfl), ?_, ?_⟩; (rw [rd_ne_ (by decide), x9_, show (k_ + 1).toNat = k_.toNat + 1 by omega]; show _ = (if slv dd_ S0_ ((k_.toNat : Nat) : Int) ≤ 1 then _ else _); rw [if_pos (by (rw [show ((k_.toNat : Nat) : Int) = k_ by omega, ← s63_]; omega))]); (intro j_ u_; rw [rd_ne_ (t'_ := 72) (by decide)]; by_cases z9_ : (j_ : Int) = k_; (refine ⟨?_, Or.inl (by (rw [z9_, ← s63_]; omega))⟩; rw [ntq_a (x_ := slv dd_ S0_ k_) (by (show slv dd_ S0_ (j_ : Int) = _; rw [z9_])) (by (rw [← s63_]; omega)), z9_, ← s63_]; first | (rw [if_pos (by omega), rd_eq, if_pos (by omega)]; omega) | (rw [if_neg (by omega), rd_eq, if_pos (by omega)]; omega)); (have y9_ := n9_ j_ (by omega); refine ⟨?_, y9_.2⟩; rw [← y9_.1]; first | (rw [rd_ne (show (38 : Nat) ≠ 37 by decide)]; split; (rw [rd_eq, if_neg (by omega)]); rfl) | (rw [rd_ne (show (37 : Nat) ≠ 38 by decide)]; split; rfl; (rw [rd_eq, if_neg (by omega)])))))
              · exact hCx46_
              · omega
          · have cx37_ : ¬ (vx34_ ≠ 0) := of_decide_eq_false cx37_
            refine sm_T_go 1 (c1 := (101, [some (.inr (.inr (some (6, 0)))), some (.inr (.inr (some (2, cc_)))), some (.inl k_), some (.inl vx19_), some (.inl (-vx19_ - 1)), some (.inl (3 * (vx19_ / 2) + 2 * (vx19_ % 2)))], [.inl 0], Sx29_)) rfl ?_
            refine sm_T_rz rfl (by omega) ⟨_, _, rfl, _, rfl, hIx30_, hFx33_, ?_⟩
            refine ⟨hCx35_, ?_⟩
            refine ⟨Or.inl rfl, M9_, i9_, fun u_ => absurd u_ (by decide), fun _ => ?_⟩
            have z9_ := X94_.2 (by omega)
            rw [s63_, ← k94_] at z9_
            have GD9_ := gdg_c hw_ hf_
            have q9_ := (rtq_l (gc_ := cgc ll_ S0_) (L_ := (fun j_ => slv dd_ S0_ (j_ : Int))) (show 0 ≤ (S0_.1 2 cc_ 1 + S0_.1 2 cc_ 2) by omega) GD9_ (S0_.1 3 dd_ 3 + S0_.1 3 dd_ 2).toNat (k_ + 1).toNat (M9_, []) (by omega) (fun j_ hj_ u_ => ?_) (fun x_ hx_ => ?_)).1
            · obtain ⟨l9_, e9_⟩ := q9_.2
              rw [e9_, List.length_append]
              omega
            · have y9_ := hrt_ (j_ : Int) (by omega) (by omega) u_
              have y8_ := y9_.1
              have y7_ := grk_b (S0_.2.2.1 62 0) (3 * (slv dd_ S0_ (j_ : Int) / 2) + 2 * (slv dd_ S0_ (j_ : Int) % 2))
              have y6_ := y9_.2.1
              have y5_ : (((3 * (slv dd_ S0_ (j_ : Int) / 2) + 2 * (slv dd_ S0_ (j_ : Int) % 2)).toNat : Nat) : Int) = 3 * (slv dd_ S0_ (j_ : Int) / 2) + 2 * (slv dd_ S0_ (j_ : Int) % 2) := by omega
              exact ⟨by (unfold cgk; rw [y5_]; exact y9_), by (unfold crk; rw [y5_]; omega)⟩
            · have y9_ := i9_ x_ (by (have := hx_.2.1; have := hx_.2.2; omega))
              have y8_ := hx_.1
              have y7_ := hx_.2.1
              have y6_ := hx_.2.2
              show M9_ x_ ≠ -1
              rw [y9_, if_pos ⟨y8_, by omega, by omega⟩]
              omega
set_option maxHeartbeats 3000000 in
theorem vc_109n {sc_ : Nat × (Nat → Int)} (dd_ : Nat) (ll_ : Nat) (cc_ : Nat) (S0_ : sm_S) (hI_ : gi S0_) (hg0_ : S0_.1 2 cc_ 8 = 0) (hd_ : S0_.2.1 6 0 0 = some dd_) (hc_ : S0_.2.1 6 0 1 = some ll_) (hw_ : wal (1 + S0_.1 3 dd_ 1 + S0_.1 3 dd_ 2) (S0_.1 3 dd_ 4) ll_ S0_) (hs2_ : S0_.1 2 cc_ 1 + S0_.1 2 cc_ 2 ≤ 12) (hr_ : drt dd_ S0_) (hdd_ : S0_.1 3 dd_ 1 + S0_.1 3 dd_ 2 ≤ 12) (hrt_ : rgt dd_ ll_ S0_) : sm_T (mt_P sc_) 5 109 (0, [some (.inr (.inr (some (6, 0)))), some (.inr (.inr (some (2, cc_)))), none, none, none, none], [], S0_) (fun ro9_ => ∃ u_ S1_, ro9_ = (.inl u_, S1_, 0) ∧ vq_109n dd_ ll_ cc_ S0_ u_ S1_) := by
  have hF_ : ai_fr (sx_W vw_109n) S0_ S0_ := ai_fr_rf
  have hC_ : cdf cc_ S0_ S0_ := cdf_rf
  have cI_ : 0 ≤ S0_.1 3 dd_ 1 ∧ S0_.1 3 dd_ 1 ≤ 320 := hI_.1 3 dd_ 1 rfl
  have cR_ : 0 ≤ S0_.1 3 dd_ 2 ∧ S0_.1 3 dd_ 2 ≤ 100000 := hI_.1 3 dd_ 2 rfl
  have cN_ : 0 ≤ S0_.1 3 dd_ 4 ∧ S0_.1 3 dd_ 4 ≤ 1013 := hI_.1 3 dd_ 4 rfl
  have hf_ : 1 ≤ (1 + S0_.1 3 dd_ 1 + S0_.1 3 dd_ 2) := by omega
  have r1_ := hr_.1
  refine sm_T_go 3 (c1 := (5, [some (.inr (.inr (some (6, 0)))), some (.inr (.inr (some (2, cc_)))), none, none, none, none], [.inl (-1), .inr (.inr (some (72, 0)))], S0_)) rfl ?_
  refine sm_T_cal (d1 := 0) (Q1 := vq_2q72 (-1) S0_) rfl rfl (by decide) (vc_2q72 (-1) S0_ hI_ (by decide)) (fun u_ Sx1_ px4_ => ?_)
  obtain ⟨rfl, hIx2_, hFx3_, px4_⟩ := px4_
  have hFx5_ : ai_fr (sx_W vw_109n) S0_ Sx1_ := ai_fr_tr hF_ (fr_le hFx3_ rfl)
  have hCx6_ : cdf cc_ S0_ Sx1_ := cdf_tr hC_ (cdf_fr hFx3_ rfl)
  have e5_ := px4_
  have g5_ : Sx1_.1 2 cc_ 8 = 0 := (hFx3_.1 2 cc_ 8 rfl).trans hg0_
  refine sm_T_go 2 (c1 := (10, [some (.inr (.inr (some (6, 0)))), some (.inr (.inr (some (2, cc_)))), some (.inl 1), none, none, none], [], Sx1_)) rfl ?_
  refine (vl_109n dd_ ll_ cc_ S0_ hg0_ hd_ hc_ hw_ hs2_ hr_ hdd_ hrt_ _).1 1 Sx1_ hIx2_ hFx5_ ⟨?_, ?_, ?_, ?_, trivial⟩ (Nat.lt_succ_self _)
  · omega
  · (intro x_ u_ w_; exfalso; omega)
  · refine ⟨⟨fun u_ hu_ => ?_, by omega⟩, g5_⟩
    rw [e5_ u_ hu_, if_neg (by omega)]
  · exact hCx6_
end
/-! 99.ztZb -/
section
/-! gates made: the reference; written by wip/p55/gen/vg -/

/-! gates made, the_ reference -/
def rcw (S_ : sm_S) (w_ : Nat) : Int := if S_.2.2.1 211 0 w_ = 0 then S_.2.2.1 207 0 w_ else -2
def rnp (S_ : sm_S) (c_ : Nat) : Int := S_.2.2.1 185 0 (12 * S_.1 13 0 106 + (c_ : Int)).toNat
def rpn (S_ : sm_S) (u_ : Nat) : Nat := (pno (rcw S_) (rnp S_) (u_ : Int)).toNat
def rpv (F_ : Int) (S_ : sm_S) (u_ k_ : Nat) : Nat := (ptv F_ (S_.2.2.1 203 0) (rcw S_) (S_.2.2.1 209 0) (S_.2.2.1 208 0) (u_ : Int) (k_ : Int)).toNat
def rgc (S_ : sm_S) (u_ : Nat) : Int := if (u_ : Int) % 3 = 2 then S_.1 13 0 107 else if rcw S_ (2 * ((u_ : Int) / 3) + (u_ : Int) % 3).toNat < 0 then S_.1 13 0 107 else rcw S_ (2 * ((u_ : Int) / 3) + (u_ : Int) % 3).toNat
def rrk (S_ : sm_S) (u_ : Nat) : Nat := (grk (rcw S_) (u_ : Int)).toNat
def jtk (s_ w_ : Int) : Nat := (if s_ = 1 then 3 * w_ + 2 else 3 * (w_ / 2) + w_ % 2).toNat
def rgk (F_ N_ : Int) (S_ : sm_S) (u_ : Nat) : Prop := (∃ s_ w_ : Int, jgd F_ N_ S_ s_ w_ ∧ u_ = jtk s_ w_) ∨ (cin F_ u_ ∧ (u_ : Int) < 3 * N_)
def mdr (F_ : Int) (S_ : sm_S) (u_ : Nat) : Int := if (u_ : Int) % 3 = 2 then S_.2.2.1 219 0 ((u_ : Int) / 3).toNat else if (u_ : Int) / 3 < F_ ∧ (u_ : Int) % 3 = 0 then (u_ : Int) / 3 - 1 else S_.2.2.1 218 0 (2 * ((u_ : Int) / 3) + (u_ : Int) % 3).toNat
/-- the_ task of_ a_ part -/
def ltk (F_ : Int) (S_ : sm_S) (y_ b_ : Int) : Int := 3 * y_ + (if y_ < F_ ∨ S_.2.2.1 203 0 y_.toNat ≠ 0 then 2 * b_ else b_)
theorem mdr_n {F_ y_ b_ : Int} {S_ : sm_S} (hy_ : 1 ≤ y_) (hb_ : b_ = 0 ∨ b_ = 1) : mdr F_ S_ (ltk F_ S_ y_ b_).toNat = noi F_ S_ y_ b_ := by
  unfold mdr ltk noi lnf
  by_cases c_ : y_ < F_ ∨ S_.2.2.1 203 0 y_.toNat ≠ 0
  · rw [if_pos c_]
    have n_ : ¬ (F_ ≤ y_ ∧ S_.2.2.1 203 0 y_.toNat = 0) := by omega
    rcases hb_ with e_ | e_
    · rw [e_, if_neg (by omega), if_neg n_, if_pos rfl, show (((3 * y_ + 2 * 0).toNat : Nat) : Int) / 3 = y_ by omega, show (((3 * y_ + 2 * 0).toNat : Nat) : Int) % 3 = 0 by omega]
      by_cases d_ : y_ < F_
      · rw [if_pos ⟨d_, rfl⟩, if_pos d_]
      · rw [if_neg (fun q_ => d_ q_.1), if_neg d_, show 2 * y_ + 0 = 2 * y_ by omega]
    · rw [e_, if_pos (by omega), if_neg n_, if_neg (by decide), show (((3 * y_ + 2 * 1).toNat : Nat) : Int) / 3 = y_ by omega]
  · rw [if_neg c_, if_neg (by omega), if_neg (by omega), if_pos (by omega), show (((3 * y_ + b_).toNat : Nat) : Int) / 3 = y_ by omega, show (((3 * y_ + b_).toNat : Nat) : Int) % 3 = b_ by omega]
def jst (S_ : sm_S) : List Nat := stq (fun i_ => ((jtk (S_.2.2.1 221 0 i_) (S_.2.2.1 220 0 i_) : Nat) : Int)) (S_.1 13 0 137).toNat
theorem jst_t {S_ : sm_S} (h_ : 1 ≤ S_.1 13 0 137) : jst S_ = jtk (jtos S_) (jtop S_) :: stq (fun i_ => ((jtk (S_.2.2.1 221 0 i_) (S_.2.2.1 220 0 i_) : Nat) : Int)) (S_.1 13 0 137 - 1).toNat := by
  unfold jst
  rw [show (S_.1 13 0 137).toNat = (S_.1 13 0 137 - 1).toNat + 1 by omega]
  show (((jtk (S_.2.2.1 221 0 (S_.1 13 0 137 - 1).toNat) (S_.2.2.1 220 0 (S_.1 13 0 137 - 1).toNat) : Nat) : Int)).toNat :: _ = _
  rw [Int.toNat_natCast]
  rfl
theorem jst_pop {S_ : sm_S} : jst (sm_pI S_ 13 0 137 (S_.1 13 0 137 - 1)) = stq (fun i_ => ((jtk (S_.2.2.1 221 0 i_) (S_.2.2.1 220 0 i_) : Nat) : Int)) (S_.1 13 0 137 - 1).toNat := by
  unfold jst
  rw [rf_eq]
  rfl
theorem jst_push {s_ w_ : Int} {S_ S'_ : sm_S} (a_ : jap s_ w_ S_ S'_) (h_ : 0 ≤ S_.1 13 0 137) : jst S'_ = jtk s_ w_ :: jst S_ := by
  unfold jst
  rw [a_.1, show (S_.1 13 0 137 + 1).toNat = (S_.1 13 0 137).toNat + 1 by omega]
  show (((jtk (S'_.2.2.1 221 0 (S_.1 13 0 137).toNat) (S'_.2.2.1 220 0 (S_.1 13 0 137).toNat) : Nat) : Int)).toNat :: stq _ _ = _
  rw [Int.toNat_natCast, a_.2.1, a_.2.2, if_pos rfl, if_pos rfl, stq_cg (S_.1 13 0 137).toNat (fun j_ hj_ => by rw [a_.2.1, a_.2.2, if_neg (by omega), if_neg (by omega)])]
theorem jst_cg {S_ S'_ : sm_S} (e_ : S'_.1 13 0 137 = S_.1 13 0 137) (e1_ : S'_.2.2.1 220 0 = S_.2.2.1 220 0) (e2_ : S'_.2.2.1 221 0 = S_.2.2.1 221 0) : jst S'_ = jst S_ := by
  unfold jst
  rw [e_, e1_, e2_]
theorem mdr_cg {F_ : Int} {S_ S'_ : sm_S} (e1_ : S'_.2.2.1 218 0 = S_.2.2.1 218 0) (e2_ : S'_.2.2.1 219 0 = S_.2.2.1 219 0) : mdr F_ S'_ = mdr F_ S_ := by
  funext u_
  unfold mdr
  rw [e1_, e2_]
theorem mdr_g {F_ w_ v_ : Int} {S_ S'_ : sm_S} (hw_ : 2 * F_ ≤ w_) (hF_ : 1 ≤ F_) (e1_ : ∀ j_, S'_.2.2.1 218 0 j_ = if j_ = w_.toNat then v_ else S_.2.2.1 218 0 j_) (e2_ : S'_.2.2.1 219 0 = S_.2.2.1 219 0) : mdr F_ S'_ = fun x_ => if x_ = jtk 0 w_ then v_ else mdr F_ S_ x_ := by
  funext x_
  have j0_ : jtk 0 w_ = (3 * (w_ / 2) + w_ % 2).toNat := by
    unfold jtk
    rw [if_neg (by decide)]
  rw [j0_]
  unfold mdr
  rw [e2_]
  by_cases a_ : (x_ : Int) % 3 = 2
  · rw [if_pos a_, if_pos a_, if_neg (by omega)]
  · rw [if_neg a_, if_neg a_]
    by_cases b_ : (x_ : Int) / 3 < F_ ∧ (x_ : Int) % 3 = 0
    · rw [if_pos b_, if_pos b_, if_neg (by omega)]
    · rw [if_neg b_, if_neg b_, e1_]
      by_cases c_ : x_ = (3 * (w_ / 2) + w_ % 2).toNat
      · rw [if_pos c_, if_pos (by omega)]
      · rw [if_neg c_, if_neg (by omega)]
theorem mdr_t {F_ w_ v_ : Int} {S_ S'_ : sm_S} (hw_ : 0 ≤ w_) (e1_ : ∀ j_, S'_.2.2.1 219 0 j_ = if j_ = w_.toNat then v_ else S_.2.2.1 219 0 j_) (e2_ : S'_.2.2.1 218 0 = S_.2.2.1 218 0) : mdr F_ S'_ = fun x_ => if x_ = jtk 1 w_ then v_ else mdr F_ S_ x_ := by
  funext x_
  have j0_ : jtk 1 w_ = (3 * w_ + 2).toNat := by
    unfold jtk
    rw [if_pos rfl]
  rw [j0_]
  unfold mdr
  rw [e2_]
  by_cases a_ : (x_ : Int) % 3 = 2
  · rw [if_pos a_, if_pos a_, e1_]
    by_cases c_ : x_ = (3 * w_ + 2).toNat
    · rw [if_pos c_, if_pos (by omega)]
    · rw [if_neg c_, if_neg (by omega)]
  · rw [if_neg a_, if_neg a_, if_neg (show ¬ x_ = (3 * w_ + 2).toNat by omega)]
/-! steps -/
section KW_
variable {pn_ : Nat → Nat} {pv_ : Nat → Nat → Nat} {gc_ : Nat → Int} {b0_ F_ : Int} {rk_ : Nat → Nat} {G_ I_ : Nat → Prop} {S_ S'_ : sm_S} {gs_ : List (Int × List Int)}
theorem kw_pop (hc_ : 1 ≤ S_.1 13 0 137) (dn_ : ¬ mdr F_ S_ (jtk (jtos S_) (jtop S_)) = -1) : gsr pn_ pv_ gc_ b0_ 4000 (jst (sm_pI S_ 13 0 137 (S_.1 13 0 137 - 1))) (mdr F_ (sm_pI S_ 13 0 137 (S_.1 13 0 137 - 1)), gs_) = gsr pn_ pv_ gc_ b0_ 4000 (jst S_) (mdr F_ S_, gs_) := by
  rw [jst_pop, jst_t hc_, gsr_n (s_ := (mdr F_ S_, gs_)) dn_]
  rfl
theorem kw_push {s_ w_ : Int} {k_ : Nat} (hb_ : 0 ≤ b0_) (hg_ : gdg pn_ pv_ rk_ G_ I_) (hc_ : 1 ≤ S_.1 13 0 137) (a_ : jap s_ w_ S_ S'_) (e1_ : S'_.2.2.1 218 0 = S_.2.2.1 218 0) (e2_ : S'_.2.2.1 219 0 = S_.2.2.1 219 0) (gu_ : G_ (jtk (jtos S_) (jtop S_))) (hI_ : ∀ x_, I_ x_ → mdr F_ S_ x_ ≠ -1) (hr_ : rk_ (jtk (jtos S_) (jtop S_)) < 4000) (z_ : mdr F_ S_ (jtk (jtos S_) (jtop S_)) = -1) (hk_ : k_ < pn_ (jtk (jtos S_) (jtop S_))) (hp_ : pv_ (jtk (jtos S_) (jtop S_)) k_ = jtk s_ w_) (hj_ : ∀ j_, j_ < k_ → mdr F_ S_ (pv_ (jtk (jtos S_) (jtop S_)) j_) ≠ -1) : gsr pn_ pv_ gc_ b0_ 4000 (jst S'_) (mdr F_ S'_, gs_) = gsr pn_ pv_ gc_ b0_ 4000 (jst S_) (mdr F_ S_, gs_) := by
  rw [jst_push a_ (by omega), mdr_cg e1_ e2_, jst_t hc_, gsr_p (s_ := (mdr F_ S_, gs_)) hb_ hg_ gu_ hI_ hr_ z_ hk_ hj_, hp_]
theorem kw_fin (hc_ : 1 ≤ S_.1 13 0 137) (ej_ : jst S'_ = jst S_) (em_ : mdr F_ S'_ = fun x_ => if x_ = jtk (jtos S_) (jtop S_) then b0_ + (gs_.length : Int) else mdr F_ S_ x_) (hb_ : 0 ≤ b0_) (z_ : mdr F_ S_ (jtk (jtos S_) (jtop S_)) = -1) (hj_ : ∀ j_, j_ < pn_ (jtk (jtos S_) (jtop S_)) → mdr F_ S_ (pv_ (jtk (jtos S_) (jtop S_)) j_) ≠ -1) : gsr pn_ pv_ gc_ b0_ 4000 (jst S'_) (mdr F_ S'_, gs_ ++ [(gc_ (jtk (jtos S_) (jtop S_)), nts (fun k_ => mdr F_ S_ (pv_ (jtk (jtos S_) (jtop S_)) k_)) (pn_ (jtk (jtos S_) (jtop S_))))]) = gsr pn_ pv_ gc_ b0_ 4000 (jst S_) (mdr F_ S_, gs_) := by
  rw [ej_, em_, jst_t hc_, gsr_d (s_ := (mdr F_ S_, gs_)) (by decide) z_ hj_]
  refine gsr_n (s_ := (_, _)) ?_
  show ¬ (if jtk (jtos S_) (jtop S_) = jtk (jtos S_) (jtop S_) then b0_ + (gs_.length : Int) else _) = -1
  rw [if_pos rfl]
  omega
end KW_
/-- the_ gates made so_ far_ -/
def rgz (S_ : sm_S) (gs_ : List (Int × List Int)) : Prop := S_.1 13 0 129 = (gs_.length : Int) ∧ ∀ (g_ : Nat) (c_ : Int) (ns_ : List Int), gs_[g_]? = some (c_, ns_) → S_.2.2.1 216 0 g_ = c_ ∧ ns_.length ≤ 3 ∧ (∀ (k_ : Nat) (x_ : Int), ns_[k_]? = some x_ → S_.2.2.1 217 0 (3 * g_ + k_) = x_) ∧ ∀ k_ : Nat, ns_.length ≤ k_ → k_ < 3 → S_.2.2.1 217 0 (3 * g_ + k_) = -1
def lck (S_ : sm_S) (gs_ : List (Int × List Int)) : Prop := S_.1 13 0 134 = 1 ↔ ∃ e_, e_ ∈ gs_ ∧ e_.1 = -1
theorem rgz_a {S_ S'_ : sm_S} {gs_ : List (Int × List Int)} {c_ : Int} {ns_ : List Int} (h_ : rgz S_ gs_) (e8_ : S'_.1 13 0 129 = S_.1 13 0 129 + 1) (e35_ : ∀ g_, g_ ≠ gs_.length → S'_.2.2.1 216 0 g_ = S_.2.2.1 216 0 g_) (n35_ : S'_.2.2.1 216 0 gs_.length = c_) (e36_ : ∀ j_, (j_ < 3 * gs_.length ∨ 3 * gs_.length + 3 ≤ j_) → S'_.2.2.1 217 0 j_ = S_.2.2.1 217 0 j_) (l3_ : ns_.length ≤ 3) (n36_ : ∀ (k_ : Nat) (x_ : Int), ns_[k_]? = some x_ → S'_.2.2.1 217 0 (3 * gs_.length + k_) = x_) (m36_ : ∀ k_ : Nat, ns_.length ≤ k_ → k_ < 3 → S'_.2.2.1 217 0 (3 * gs_.length + k_) = -1) : rgz S'_ (gs_ ++ [(c_, ns_)]) := by
  refine ⟨?_, fun g_ d_ ms_ hg_ => ?_⟩
  · rw [e8_, h_.1, List.length_append]
    rfl
  · by_cases z_ : g_ < gs_.length
    · rw [List.getElem?_append_left z_] at hg_
      have q_ := h_.2 g_ d_ ms_ hg_
      refine ⟨by rw [e35_ g_ (by omega)]; exact q_.1, q_.2.1, fun k_ x_ hx_ => ?_, fun k_ h1_ h2_ => ?_⟩
      · have l_ := (List.getElem?_eq_some_iff.mp hx_).1
        have := q_.2.1
        rw [e36_ _ (by omega)]
        exact q_.2.2.1 k_ x_ hx_
      · rw [e36_ _ (by omega)]
        exact q_.2.2.2 k_ h1_ h2_
    · have l_ := (List.getElem?_eq_some_iff.mp hg_).1
      rw [List.length_append] at l_
      have l_ : g_ < gs_.length + 1 := l_
      have e_ : g_ = gs_.length := by omega
      rw [e_, List.getElem?_append_right (Nat.le_refl _), Nat.sub_self] at hg_
      have hg_ : some (c_, ns_) = some (d_, ms_) := hg_
      cases hg_
      rw [e_]
      exact ⟨n35_, l3_, n36_, m36_⟩
theorem rgz_fr {w_ : sx_Wl} {S_ S'_ : sm_S} {gs_ : List (Int × List Int)} (h_ : rgz S_ gs_) (g_ : ai_fr (sx_W w_) S_ S'_) (a_ : (sx_W w_).1 13 129 = false := by rfl) (b_ : (sx_W w_).2.1 216 = false := by rfl) (c_ : (sx_W w_).2.1 217 = false := by rfl) : rgz S'_ gs_ := by
  unfold rgz
  rw [g_.1 13 0 129 a_, fr_arr (t := 216) g_ b_, fr_arr (t := 217) g_ c_]
  exact h_
theorem lck_a {S_ S'_ : sm_S} {gs_ : List (Int × List Int)} {c_ : Int} {ns_ : List Int} (h_ : lck S_ gs_) (e_ : S'_.1 13 0 134 = 1 ↔ (S_.1 13 0 134 = 1 ∨ c_ = -1)) : lck S'_ (gs_ ++ [(c_, ns_)]) := by
  unfold lck
  rw [e_]
  constructor
  · rintro (q_ | q_)
    · obtain ⟨x_, hx_, hy_⟩ := h_.mp q_
      exact ⟨x_, List.mem_append_left _ hx_, hy_⟩
    · exact ⟨(c_, ns_), List.mem_append_right _ (List.mem_singleton.mpr rfl), q_⟩
  · rintro ⟨x_, hx_, hy_⟩
    rcases List.mem_append.mp hx_ with q_ | q_
    · exact Or.inl (h_.mpr ⟨x_, q_, hy_⟩)
    · rw [List.mem_singleton.mp q_] at hy_
      exact Or.inr hy_

/-! M_.make -/
def vw_410n : sx_Wl := ([(13, 129)], [216, 217], [])
def vq_410n (c_ : Int) (a_ : Int) (b_ : Int) (e_ : Int) (F_ : Int) (N_ : Int) (d_ : Int) (gs_ : List (Int × List Int)) (ns_ : List Int) (S0_ : sm_S) (u_ : Option sm_V) (S1_ : sm_S) : Prop := ∃ v_ : Int, u_ = some (.inl v_) ∧ gi S1_ ∧ ai_fr (sx_W vw_410n) S0_ S1_ ∧ ((v_ = F_ - 1 + S0_.1 13 0 129 ∧ S1_.1 13 0 129 = S0_.1 13 0 129 + 1 ∧ mad F_ S1_) ∧ rgz S1_ (gs_ ++ [(c_, ns_)]))
set_option maxHeartbeats 1000000 in
set_option maxRecDepth 20000 in
theorem vc_410n {sc_ : Nat × (Nat → Int)} (c_ : Int) (a_ : Int) (b_ : Int) (e_ : Int) (F_ : Int) (N_ : Int) (d_ : Int) (gs_ : List (Int × List Int)) (ns_ : List Int) (S0_ : sm_S) (hI_ : gi S0_) (hgz_ : rgz S0_ gs_) (hns_ : ns_.length ≤ 3 ∧ (∀ (k_ : Nat) (x_ : Int), ns_[k_]? = some x_ → x_ = if k_ = 0 then a_ else if k_ = 1 then b_ else e_) ∧ ∀ k_ : Nat, ns_.length ≤ k_ → k_ < 3 → (if k_ = 0 then a_ else if k_ = 1 then b_ else e_) = -1) (hd_ : dmp F_ N_ d_ S0_) (hg_ : 0 ≤ (S0_.1 13 0 129) ∧ (S0_.1 13 0 129) ≤ 3100) (hc_ : -1 ≤ c_ ∧ c_ ≤ 11 ∧ (0 ≤ c_ ∨ (S0_.1 13 0 134) = 1)) (ha_ : 0 ≤ a_ ∧ a_ < F_ - 1 + (S0_.1 13 0 129) ∧ -1 ≤ b_ ∧ b_ < F_ - 1 + (S0_.1 13 0 129) ∧ -1 ≤ e_ ∧ e_ < F_ - 1 + (S0_.1 13 0 129)) (hb_ : ∀ k9_ : Int, (k9_ = 1 ∨ k9_ = 2) → 0 ≤ c_ → k9_ < S0_.2.2.1 185 0 (12 * S0_.1 13 0 106 + c_).toNat → 0 ≤ (if k9_ = 1 then b_ else e_) ∧ (if k9_ = 1 then b_ else e_) < F_ - 1 + S0_.1 13 0 129) (hm9_ : mad F_ S0_) : sm_T (mt_P sc_) 1 410 (0, [some (.inr (.inr (some (13, 0)))), some (.inl c_), some (.inl a_), some (.inl b_), some (.inl e_)], [], S0_) (fun ro9_ => ∃ u_ S1_, ro9_ = (.inl u_, S1_, 0) ∧ vq_410n c_ a_ b_ e_ F_ N_ d_ gs_ ns_ S0_ u_ S1_) := by
  have hF_ : ai_fr (sx_W vw_410n) S0_ S0_ := ai_fr_rf
  have d1_ := hd_.1
  have bx1_ : 0 ≤ S0_.1 13 0 129 ∧ S0_.1 13 0 129 ≤ 8191 := hI_.1 13 0 129 rfl
  refine sm_T_go 5 (c1 := (9, [some (.inr (.inr (some (13, 0)))), some (.inl c_), some (.inl a_), some (.inl b_), some (.inl e_)], [.inl c_, .inl (S0_.1 13 0 129), .inr (.inr (some (216, 0)))], S0_)) rfl ?_
  refine sm_T_iast (n := 8192) rfl rfl (by omega) (by omega) ?_
  have hIx2_ : gi (sm_aI S0_ 216 0 (S0_.1 13 0 129).toNat c_) := gi_aI hI_ (show (-1) ≤ c_ ∧ c_ ≤ 11 from ⟨by omega, by omega⟩)
  have hFx3_ : ai_fr (sx_W vw_410n) S0_ (sm_aI S0_ 216 0 (S0_.1 13 0 129).toNat c_) := ai_fr_tr hF_ (ai_fr_aI rfl)
  refine sm_T_go 5 (c1 := (19, [some (.inr (.inr (some (13, 0)))), some (.inl c_), some (.inl a_), some (.inl b_), some (.inl e_)], [.inl (S0_.1 13 0 129), .inl 3, .inr (.inr (some (217, 0)))], sm_aI S0_ 216 0 (S0_.1 13 0 129).toNat c_)) rfl ?_
  refine sm_T_bin (w := 3 * (S0_.1 13 0 129)) rfl (bi_mul (by omega) (by omega) (by omega)) ?_ -- pc_ 19
  refine sm_T_go 1 (c1 := (21, [some (.inr (.inr (some (13, 0)))), some (.inl c_), some (.inl a_), some (.inl b_), some (.inl e_)], [.inl a_, .inl (3 * (S0_.1 13 0 129)), .inr (.inr (some (217, 0)))], sm_aI S0_ 216 0 (S0_.1 13 0 129).toNat c_)) rfl ?_
  refine sm_T_iast (n := 24576) rfl rfl (by omega) (by omega) ?_
  have hIx4_ : gi (sm_aI (sm_aI S0_ 216 0 (S0_.1 13 0 129).toNat c_) 217 0 (3 * (S0_.1 13 0 129)).toNat a_) := gi_aI hIx2_ (show (-2) ≤ a_ ∧ a_ ≤ 9000 from ⟨by omega, by omega⟩)
  have hFx5_ : ai_fr (sx_W vw_410n) S0_ (sm_aI (sm_aI S0_ 216 0 (S0_.1 13 0 129).toNat c_) 217 0 (3 * (S0_.1 13 0 129)).toNat a_) := ai_fr_tr hFx3_ (ai_fr_aI rfl)
  refine sm_T_go 5 (c1 := (31, [some (.inr (.inr (some (13, 0)))), some (.inl c_), some (.inl a_), some (.inl b_), some (.inl e_)], [.inl (S0_.1 13 0 129), .inl 3, .inr (.inr (some (217, 0)))], sm_aI (sm_aI S0_ 216 0 (S0_.1 13 0 129).toNat c_) 217 0 (3 * (S0_.1 13 0 129)).toNat a_)) rfl ?_
  refine sm_T_bin (w := 3 * (S0_.1 13 0 129)) rfl (bi_mul (by omega) (by omega) (by omega)) ?_ -- pc_ 31
  refine sm_T_go 1 (c1 := (33, [some (.inr (.inr (some (13, 0)))), some (.inl c_), some (.inl a_), some (.inl b_), some (.inl e_)], [.inl 1, .inl (3 * (S0_.1 13 0 129)), .inr (.inr (some (217, 0)))], sm_aI (sm_aI S0_ 216 0 (S0_.1 13 0 129).toNat c_) 217 0 (3 * (S0_.1 13 0 129)).toNat a_)) rfl ?_
  refine sm_T_bin (w := 3 * (S0_.1 13 0 129) + 1) rfl (bi_add (by omega) (by omega) (by omega)) ?_ -- pc_ 33
  refine sm_T_go 1 (c1 := (35, [some (.inr (.inr (some (13, 0)))), some (.inl c_), some (.inl a_), some (.inl b_), some (.inl e_)], [.inl b_, .inl (3 * (S0_.1 13 0 129) + 1), .inr (.inr (some (217, 0)))], sm_aI (sm_aI S0_ 216 0 (S0_.1 13 0 129).toNat c_) 217 0 (3 * (S0_.1 13 0 129)).toNat a_)) rfl ?_
  refine sm_T_iast (n := 24576) rfl rfl (by omega) (by omega) ?_
  have hIx6_ : gi (sm_aI (sm_aI (sm_aI S0_ 216 0 (S0_.1 13 0 129).toNat c_) 217 0 (3 * (S0_.1 13 0 129)).toNat a_) 217 0 (3 * (S0_.1 13 0 129) + 1).toNat b_) := gi_aI hIx4_ (show (-2) ≤ b_ ∧ b_ ≤ 9000 from ⟨by omega, by omega⟩)
  have hFx7_ : ai_fr (sx_W vw_410n) S0_ (sm_aI (sm_aI (sm_aI S0_ 216 0 (S0_.1 13 0 129).toNat c_) 217 0 (3 * (S0_.1 13 0 129)).toNat a_) 217 0 (3 * (S0_.1 13 0 129) + 1).toNat b_) := ai_fr_tr hFx5_ (ai_fr_aI rfl)
  refine sm_T_go 5 (c1 := (45, [some (.inr (.inr (some (13, 0)))), some (.inl c_), some (.inl a_), some (.inl b_), some (.inl e_)], [.inl (S0_.1 13 0 129), .inl 3, .inr (.inr (some (217, 0)))], sm_aI (sm_aI (sm_aI S0_ 216 0 (S0_.1 13 0 129).toNat c_) 217 0 (3 * (S0_.1 13 0 129)).toNat a_) 217 0 (3 * (S0_.1 13 0 129) + 1).toNat b_)) rfl ?_
  refine sm_T_bin (w := 3 * (S0_.1 13 0 129)) rfl (bi_mul (by omega) (by omega) (by omega)) ?_ -- pc_ 45
  refine sm_T_go 1 (c1 := (47, [some (.inr (.inr (some (13, 0)))), some (.inl c_), some (.inl a_), some (.inl b_), some (.inl e_)], [.inl 2, .inl (3 * (S0_.1 13 0 129)), .inr (.inr (some (217, 0)))], sm_aI (sm_aI (sm_aI S0_ 216 0 (S0_.1 13 0 129).toNat c_) 217 0 (3 * (S0_.1 13 0 129)).toNat a_) 217 0 (3 * (S0_.1 13 0 129) + 1).toNat b_)) rfl ?_
  refine sm_T_bin (w := 3 * (S0_.1 13 0 129) + 2) rfl (bi_add (by omega) (by omega) (by omega)) ?_ -- pc_ 47
  refine sm_T_go 1 (c1 := (50, [some (.inr (.inr (some (13, 0)))), some (.inl c_), some (.inl a_), some (.inl b_), some (.inl e_)], [.inl e_, .inl (3 * (S0_.1 13 0 129) + 2), .inr (.inr (some (217, 0)))], sm_aI (sm_aI (sm_aI S0_ 216 0 (S0_.1 13 0 129).toNat c_) 217 0 (3 * (S0_.1 13 0 129)).toNat a_) 217 0 (3 * (S0_.1 13 0 129) + 1).toNat b_)) rfl ?_
  refine sm_T_iast (n := 24576) rfl rfl (by omega) (by omega) ?_
  have hIx8_ : gi (sm_aI (sm_aI (sm_aI (sm_aI S0_ 216 0 (S0_.1 13 0 129).toNat c_) 217 0 (3 * (S0_.1 13 0 129)).toNat a_) 217 0 (3 * (S0_.1 13 0 129) + 1).toNat b_) 217 0 (3 * (S0_.1 13 0 129) + 2).toNat e_) := gi_aI hIx6_ (show (-2) ≤ e_ ∧ e_ ≤ 9000 from ⟨by omega, by omega⟩)
  have hFx9_ : ai_fr (sx_W vw_410n) S0_ (sm_aI (sm_aI (sm_aI (sm_aI S0_ 216 0 (S0_.1 13 0 129).toNat c_) 217 0 (3 * (S0_.1 13 0 129)).toNat a_) 217 0 (3 * (S0_.1 13 0 129) + 1).toNat b_) 217 0 (3 * (S0_.1 13 0 129) + 2).toNat e_) := ai_fr_tr hFx7_ (ai_fr_aI rfl)
  refine sm_T_go 4 (c1 := (57, [some (.inr (.inr (some (13, 0)))), some (.inl c_), some (.inl a_), some (.inl b_), some (.inl e_)], [.inl 1, .inl (S0_.1 13 0 129), .inr (.inr (some (13, 0)))], sm_aI (sm_aI (sm_aI (sm_aI S0_ 216 0 (S0_.1 13 0 129).toNat c_) 217 0 (3 * (S0_.1 13 0 129)).toNat a_) 217 0 (3 * (S0_.1 13 0 129) + 1).toNat b_) 217 0 (3 * (S0_.1 13 0 129) + 2).toNat e_)) rfl ?_
  refine sm_T_bin (w := (S0_.1 13 0 129) + 1) rfl (bi_add (by omega) (by omega) (by omega)) ?_ -- pc_ 57
  have hIx10_ : gi (sm_pI (sm_aI (sm_aI (sm_aI (sm_aI S0_ 216 0 (S0_.1 13 0 129).toNat c_) 217 0 (3 * (S0_.1 13 0 129)).toNat a_) 217 0 (3 * (S0_.1 13 0 129) + 1).toNat b_) 217 0 (3 * (S0_.1 13 0 129) + 2).toNat e_) 13 0 129 ((S0_.1 13 0 129) + 1)) := gi_pI hIx8_ (show 0 ≤ (S0_.1 13 0 129) + 1 ∧ (S0_.1 13 0 129) + 1 ≤ 8191 from ⟨by omega, by omega⟩)
  have hFx11_ : ai_fr (sx_W vw_410n) S0_ (sm_pI (sm_aI (sm_aI (sm_aI (sm_aI S0_ 216 0 (S0_.1 13 0 129).toNat c_) 217 0 (3 * (S0_.1 13 0 129)).toNat a_) 217 0 (3 * (S0_.1 13 0 129) + 1).toNat b_) 217 0 (3 * (S0_.1 13 0 129) + 2).toNat e_) 13 0 129 ((S0_.1 13 0 129) + 1)) := ai_fr_tr hFx9_ (ai_fr_pI rfl)
  refine sm_T_go 2 (c1 := (62, [some (.inr (.inr (some (13, 0)))), some (.inl c_), some (.inl a_), some (.inl b_), some (.inl e_)], [.inr (.inr (some (13, 0)))], sm_pI (sm_aI (sm_aI (sm_aI (sm_aI S0_ 216 0 (S0_.1 13 0 129).toNat c_) 217 0 (3 * (S0_.1 13 0 129)).toNat a_) 217 0 (3 * (S0_.1 13 0 129) + 1).toNat b_) 217 0 (3 * (S0_.1 13 0 129) + 2).toNat e_) 13 0 129 ((S0_.1 13 0 129) + 1))) rfl ?_
  refine sm_T_cal (d1 := 0) (Q1 := vq_409 F_ N_ d_ (sm_pI (sm_aI (sm_aI (sm_aI (sm_aI S0_ 216 0 (S0_.1 13 0 129).toNat c_) 217 0 (3 * (S0_.1 13 0 129)).toNat a_) 217 0 (3 * (S0_.1 13 0 129) + 1).toNat b_) 217 0 (3 * (S0_.1 13 0 129) + 2).toNat e_) 13 0 129 ((S0_.1 13 0 129) + 1))) rfl rfl (by decide) (vc_409 F_ N_ d_ (sm_pI (sm_aI (sm_aI (sm_aI (sm_aI S0_ 216 0 (S0_.1 13 0 129).toNat c_) 217 0 (3 * (S0_.1 13 0 129)).toNat a_) 217 0 (3 * (S0_.1 13 0 129) + 1).toNat b_) 217 0 (3 * (S0_.1 13 0 129) + 2).toNat e_) 13 0 129 ((S0_.1 13 0 129) + 1)) hIx10_ (by exact dmp_fr (w_ := ([(13, 129)], [216, 217], [])) hd_ (ai_fr_tr (ai_fr_tr (ai_fr_tr (ai_fr_tr (ai_fr_aI rfl) (ai_fr_aI rfl)) (ai_fr_aI rfl)) (ai_fr_aI rfl)) (ai_fr_pI rfl)))) (fun u_ Sx12_ px15_ => ?_)
  obtain ⟨rfl, vx17_, rfl, px15_⟩ := px15_
  have e62_ := px15_
  refine sm_T_go 2 (c1 := (69, [some (.inr (.inr (some (13, 0)))), some (.inl c_), some (.inl a_), some (.inl b_), some (.inl e_)], [.inl ((S0_.1 13 0 129) + 1), .inl vx17_], sm_pI (sm_aI (sm_aI (sm_aI (sm_aI S0_ 216 0 (S0_.1 13 0 129).toNat c_) 217 0 (3 * (S0_.1 13 0 129)).toNat a_) 217 0 (3 * (S0_.1 13 0 129) + 1).toNat b_) 217 0 (3 * (S0_.1 13 0 129) + 2).toNat e_) 13 0 129 ((S0_.1 13 0 129) + 1))) rfl ?_
  refine sm_T_bin (w := vx17_ + (S0_.1 13 0 129) + 1) rfl (bi_add (by omega) (by omega) (by omega)) ?_ -- pc_ 69
  refine sm_T_go 1 (c1 := (71, [some (.inr (.inr (some (13, 0)))), some (.inl c_), some (.inl a_), some (.inl b_), some (.inl e_)], [.inl 1, .inl (vx17_ + (S0_.1 13 0 129) + 1)], sm_pI (sm_aI (sm_aI (sm_aI (sm_aI S0_ 216 0 (S0_.1 13 0 129).toNat c_) 217 0 (3 * (S0_.1 13 0 129)).toNat a_) 217 0 (3 * (S0_.1 13 0 129) + 1).toNat b_) 217 0 (3 * (S0_.1 13 0 129) + 2).toNat e_) 13 0 129 ((S0_.1 13 0 129) + 1))) rfl ?_
  refine sm_T_bin (w := vx17_ + (S0_.1 13 0 129)) rfl (bi_sub (by omega) (by omega) (by omega)) ?_ -- pc_ 71
  refine sm_T_ri rfl ⟨_, _, rfl, _, rfl, hIx10_, hFx11_, ?_⟩
  refine ⟨?_, ?_⟩
  · refine ⟨by ((try simp only [rd_eq, rd_ne, rf_eq, rf_nk, rf_nt, rd_fa, rd_af, rd_fl, rd_al, rd_lf, rd_la, rd_leq, rd_lne, rd_fr, rd_ar, ne_eq, Nat.reduceEqDiff, not_false_eq_true]); omega), by (try simp only [rd_eq, rd_ne, rf_eq, rf_nk, rf_nt, rd_fa, rd_af, rd_fl, rd_al, rd_lf, rd_la, rd_leq, rd_lne, rd_fr, rd_ar, ne_eq, Nat.reduceEqDiff, not_false_eq_true]), fun g9_ u0_ u1_ => ?_⟩
    (try simp only [rd_eq, rd_ne, rf_eq, rf_nk, rf_nt, rd_fa, rd_af, rd_fl, rd_al, rd_lf, rd_la, rd_leq, rd_lne, rd_fr, rd_ar, ne_eq, Nat.reduceEqDiff, not_false_eq_true] at *)
    (try simp only [rd_eq, rd_ne, rf_eq, rf_nk, rf_nt, rd_fa, rd_af, rd_fl, rd_al, rd_lf, rd_la, rd_leq, rd_lne, rd_fr, rd_ar, ne_eq, Nat.reduceEqDiff, not_false_eq_true])
    by_cases z9_ : g9_.toNat = (S0_.1 13 0 129).toNat
    · rw [if_pos z9_]
      refine ⟨by omega, fun k9_ v0_ v1_ => ?_⟩
      have K9_ : k9_ = 0 ∨ k9_ = 1 ∨ k9_ = 2 := by omega
      rcases K9_ with K9_ | K9_ | K9_ <;> subst K9_
      · rw [if_neg (by omega), if_neg (by omega), if_pos (by omega)]; exact ⟨by omega, fun _ => by omega⟩
      · rw [if_neg (by omega), if_pos (by omega)]; exact ⟨by omega, fun v2_ => by (have w9_ := hb_ 1 (Or.inl rfl) (by omega) (by omega); rw [if_pos rfl] at w9_; omega)⟩
      · rw [if_pos (by omega)]; exact ⟨by omega, fun v2_ => by (have w9_ := hb_ 2 (Or.inr rfl) (by omega) (by omega); simp only [if_neg (show ¬ ((2 : Int) = 1) by decide)] at w9_; omega)⟩
    · rw [if_neg z9_]
      have w9_ := hm9_ g9_ u0_ (by omega)
      refine ⟨w9_.1, fun k9_ v0_ v1_ => ?_⟩
      rw [if_neg (by omega), if_neg (by omega), if_neg (by omega)]
      exact w9_.2 k9_ v0_ v1_
  · have G9_ := hgz_.1
    refine rgz_a hgz_ ?_ (fun g9_ u_ => ?_) ?_ (fun j_ u_ => ?_) hns_.1 (fun j_ x_ u_ => ?_) (fun j_ u0_ u1_ => ?_)
    · (try simp only [rd_eq, rd_ne, rf_eq, rf_nk, rf_nt, rd_fa, rd_af, rd_fl, rd_al, rd_lf, rd_la, rd_leq, rd_lne, rd_fr, rd_ar, ne_eq, Nat.reduceEqDiff, not_false_eq_true])
    · (try simp only [rd_eq, rd_ne, rf_eq, rf_nk, rf_nt, rd_fa, rd_af, rd_fl, rd_al, rd_lf, rd_la, rd_leq, rd_lne, rd_fr, rd_ar, ne_eq, Nat.reduceEqDiff, not_false_eq_true])
      rw [if_neg (by omega)]
    · (try simp only [rd_eq, rd_ne, rf_eq, rf_nk, rf_nt, rd_fa, rd_af, rd_fl, rd_al, rd_lf, rd_la, rd_leq, rd_lne, rd_fr, rd_ar, ne_eq, Nat.reduceEqDiff, not_false_eq_true])
      rw [if_pos (by omega)]
    · (try simp only [rd_eq, rd_ne, rf_eq, rf_nk, rf_nt, rd_fa, rd_af, rd_fl, rd_al, rd_lf, rd_la, rd_leq, rd_lne, rd_fr, rd_ar, ne_eq, Nat.reduceEqDiff, not_false_eq_true])
      rw [if_neg (by omega), if_neg (by omega), if_neg (by omega)]
    · have jl_ := (List.getElem?_eq_some_iff.mp u_).1
      have jm_ := hns_.1
      have z9_ := hns_.2.1 j_ x_ u_
      have J9_ : j_ = 0 ∨ j_ = 1 ∨ j_ = 2 := by omega
      rcases J9_ with J9_ | J9_ | J9_ <;> subst J9_
      · have z8_ : x_ = a_ := z9_
        rw [z8_]
        (try simp only [rd_eq, rd_ne, rf_eq, rf_nk, rf_nt, rd_fa, rd_af, rd_fl, rd_al, rd_lf, rd_la, rd_leq, rd_lne, rd_fr, rd_ar, ne_eq, Nat.reduceEqDiff, not_false_eq_true])
        rw [if_neg (by omega), if_neg (by omega), if_pos (by omega)]
      · have z8_ : x_ = b_ := z9_
        rw [z8_]
        (try simp only [rd_eq, rd_ne, rf_eq, rf_nk, rf_nt, rd_fa, rd_af, rd_fl, rd_al, rd_lf, rd_la, rd_leq, rd_lne, rd_fr, rd_ar, ne_eq, Nat.reduceEqDiff, not_false_eq_true])
        rw [if_neg (by omega), if_pos (by omega)]
      · have z8_ : x_ = e_ := z9_
        rw [z8_]
        (try simp only [rd_eq, rd_ne, rf_eq, rf_nk, rf_nt, rd_fa, rd_af, rd_fl, rd_al, rd_lf, rd_la, rd_leq, rd_lne, rd_fr, rd_ar, ne_eq, Nat.reduceEqDiff, not_false_eq_true])
        rw [if_pos (by omega)]
    · have z9_ := hns_.2.2 j_ u0_ u1_
      have J9_ : j_ = 0 ∨ j_ = 1 ∨ j_ = 2 := by omega
      rcases J9_ with J9_ | J9_ | J9_ <;> subst J9_
      · have z8_ : a_ = -1 := z9_
        (try simp only [rd_eq, rd_ne, rf_eq, rf_nk, rf_nt, rd_fa, rd_af, rd_fl, rd_al, rd_lf, rd_la, rd_leq, rd_lne, rd_fr, rd_ar, ne_eq, Nat.reduceEqDiff, not_false_eq_true])
        rw [if_neg (by omega), if_neg (by omega), if_pos (by omega)]
        exact z8_
      · have z8_ : b_ = -1 := z9_
        (try simp only [rd_eq, rd_ne, rf_eq, rf_nk, rf_nt, rd_fa, rd_af, rd_fl, rd_al, rd_lf, rd_la, rd_leq, rd_lne, rd_fr, rd_ar, ne_eq, Nat.reduceEqDiff, not_false_eq_true])
        rw [if_neg (by omega), if_pos (by omega)]
        exact z8_
      · have z8_ : e_ = -1 := z9_
        (try simp only [rd_eq, rd_ne, rf_eq, rf_nk, rf_nt, rd_fa, rd_af, rd_fl, rd_al, rd_lf, rd_la, rd_leq, rd_lne, rd_fr, rd_ar, ne_eq, Nat.reduceEqDiff, not_false_eq_true])
        rw [if_pos (by omega)]
        exact z8_
/-! M_.turned -/
def vw_411n : sx_Wl := ([(13, 129), (13, 134)], [216, 217], [])
def vq_411n (a_ : Int) (F_ : Int) (N_ : Int) (d_ : Int) (gs_ : List (Int × List Int)) (S0_ : sm_S) (u_ : Option sm_V) (S1_ : sm_S) : Prop := ∃ v_ : Int, u_ = some (.inl v_) ∧ gi S1_ ∧ ai_fr (sx_W vw_411n) S0_ S1_ ∧ ((v_ = F_ - 1 + S0_.1 13 0 129 ∧ S1_.1 13 0 129 = S0_.1 13 0 129 + 1 ∧ mad F_ S1_) ∧ rgz S1_ (gs_ ++ [(S0_.1 13 0 107, [a_])]) ∧ (S1_.1 13 0 134 = 1 ↔ (S0_.1 13 0 134 = 1 ∨ S0_.1 13 0 107 = -1)))
set_option maxHeartbeats 1000000 in
set_option maxRecDepth 20000 in
theorem vc_411n {sc_ : Nat × (Nat → Int)} (a_ : Int) (F_ : Int) (N_ : Int) (d_ : Int) (gs_ : List (Int × List Int)) (S0_ : sm_S) (hI_ : gi S0_) (hgz_ : rgz S0_ gs_) (hd_ : dmp F_ N_ d_ S0_) (hg_ : 0 ≤ (S0_.1 13 0 129) ∧ (S0_.1 13 0 129) ≤ 3100) (ha_ : 0 ≤ a_ ∧ a_ < F_ - 1 + (S0_.1 13 0 129)) (hv_ : (S0_.1 13 0 107) = -1 ∨ S0_.2.2.1 185 0 (12 * S0_.1 13 0 106 + S0_.1 13 0 107).toNat = 1) (hm9_ : mad F_ S0_) : sm_T (mt_P sc_) 2 411 (0, [some (.inr (.inr (some (13, 0)))), some (.inl a_)], [], S0_) (fun ro9_ => ∃ u_ S1_, ro9_ = (.inl u_, S1_, 0) ∧ vq_411n a_ F_ N_ d_ gs_ S0_ u_ S1_) := by
  have hF_ : ai_fr (sx_W vw_411n) S0_ S0_ := ai_fr_rf
  have d1_ := hd_.1
  have b34_ : 0 ≤ S0_.1 13 0 134 ∧ S0_.1 13 0 134 ≤ 1 := hI_.1 13 0 134 rfl
  have bx1_ : 0 ≤ S0_.1 13 0 134 ∧ S0_.1 13 0 134 ≤ 1 := hI_.1 13 0 134 rfl
  refine sm_T_go 3 (c1 := (5, [some (.inr (.inr (some (13, 0)))), some (.inl a_)], [.inl (S0_.1 13 0 134), .inr (.inr (some (13, 0)))], S0_)) rfl ?_
  refine sm_T_b0 (a := 1) (z := 11) rfl (fun cx2_ => ?_) (fun cx2_ => ?_)
  · have cx2_ : (S0_.1 13 0 134) ≠ 0 := of_decide_eq_true cx2_
    have hIx3_ : gi (sm_pI S0_ 13 0 134 1) := gi_pI hI_ (show 0 ≤ 1 ∧ 1 ≤ 1 from ⟨by omega, by omega⟩)
    have hFx4_ : ai_fr (sx_W vw_411n) S0_ (sm_pI S0_ 13 0 134 1) := ai_fr_tr hF_ (ai_fr_pI rfl)
    have bx5_ : (-1) ≤ S0_.1 13 0 107 ∧ S0_.1 13 0 107 ≤ 11 := hI_.1 13 0 107 rfl
    refine sm_T_go 9 (c1 := (32, [some (.inr (.inr (some (13, 0)))), some (.inl a_)], [.inl (-1), .inl (-1), .inl a_, .inl (S0_.1 13 0 107), .inr (.inr (some (13, 0)))], sm_pI S0_ 13 0 134 1)) rfl ?_
    refine sm_T_cal (d1 := 1) (Q1 := vq_410n (S0_.1 13 0 107) a_ (-1) (-1) F_ N_ d_ gs_ [a_] (sm_pI S0_ 13 0 134 1)) rfl rfl (by decide) (vc_410n (S0_.1 13 0 107) a_ (-1) (-1) F_ N_ d_ gs_ [a_] (sm_pI S0_ 13 0 134 1) hIx3_ (by exact rgz_fr (w_ := ([(13, 134)], [], [])) hgz_ (ai_fr_pI rfl)) (by (refine ⟨Nat.le_of_ble_eq_true rfl, fun k_ x_ u_ => ?_, fun k_ u0_ u1_ => ?_⟩; (rcases k_ with _ | k_; (have u_ : some a_ = some x_ := u_; rw [← Option.some.inj u_]; rfl); (have u_ : (none : Option Int) = some x_ := u_; cases u_)); (have u0_ : 1 ≤ k_ := u0_; rw [if_neg (by omega)]; split <;> rfl))) (by exact dmp_fr (w_ := ([(13, 134)], [], [])) hd_ (ai_fr_pI rfl)) (by ((try simp only [rd_eq, rd_ne, rf_eq, rf_nk, rf_nt, rd_fa, rd_af, rd_fl, rd_al, rd_lf, rd_la, rd_leq, rd_lne, rd_fr, rd_ar, ne_eq, Nat.reduceEqDiff, not_false_eq_true]); omega)) (by ((try simp only [rd_eq, rd_ne, rf_eq, rf_nk, rf_nt, rd_fa, rd_af, rd_fl, rd_al, rd_lf, rd_la, rd_leq, rd_lne, rd_fr, rd_ar, ne_eq, Nat.reduceEqDiff, not_false_eq_true]); refine ⟨by omega, by omega, ?_⟩; first | exact Or.inr trivial | exact Or.inr rfl | exact Or.inl (by omega))) (by ((try simp only [rd_eq, rd_ne, rf_eq, rf_nk, rf_nt, rd_fa, rd_af, rd_fl, rd_al, rd_lf, rd_la, rd_leq, rd_lne, rd_fr, rd_ar, ne_eq, Nat.reduceEqDiff, not_false_eq_true]); omega)) (by (intro k9_ K9_ c9_ s9_; (try simp only [rd_eq, rd_ne, rf_eq, rf_nk, rf_nt, rd_fa, rd_af, rd_fl, rd_al, rd_lf, rd_la, rd_leq, rd_lne, rd_fr, rd_ar, ne_eq, Nat.reduceEqDiff, not_false_eq_true] at *); exfalso; omega)) (by (intro g9_ u0_ u1_; (try simp only [rd_eq, rd_ne, rf_eq, rf_nk, rf_nt, rd_fa, rd_af, rd_fl, rd_al, rd_lf, rd_la, rd_leq, rd_lne, rd_fr, rd_ar, ne_eq, Nat.reduceEqDiff, not_false_eq_true] at *); have w9_ := hm9_ g9_ u0_ u1_; (try simp only [rd_eq, rd_ne, rf_eq, rf_nk, rf_nt, rd_fa, rd_af, rd_fl, rd_al, rd_lf, rd_la, rd_leq, rd_lne, rd_fr, rd_ar, ne_eq, Nat.reduceEqDiff, not_false_eq_true]); exact ⟨by first | exact Or.inr trivial | exact Or.inr rfl | exact w9_.1 | omega, w9_.2⟩))) (fun u_ Sx6_ px9_ => ?_)
    obtain ⟨vx11_, rfl, hIx7_, hFx8_, px9_⟩ := px9_
    have hFx10_ : ai_fr (sx_W vw_411n) S0_ Sx6_ := ai_fr_tr hFx4_ (fr_le hFx8_ rfl)
    have e32_ := (px9_).1
    have z32 := (px9_).2
    have f32_ := hFx8_
    refine sm_T_ri rfl ⟨_, _, rfl, _, rfl, hIx7_, hFx10_, ?_⟩
    have y9_ := f32_.1 13 0 134 rfl
    rw [rf_eq] at y9_
    refine ⟨?_, z32, ?_⟩
    · have w9_ := e32_
      (try simp only [rd_eq, rd_ne, rf_eq, rf_nk, rf_nt, rd_fa, rd_af, rd_fl, rd_al, rd_lf, rd_la, rd_leq, rd_lne, rd_fr, rd_ar, ne_eq, Nat.reduceEqDiff, not_false_eq_true] at *)
      exact w9_
    · rw [y9_]
      omega
  · have cx2_ : ¬ ((S0_.1 13 0 134) ≠ 0) := of_decide_eq_false cx2_
    have bx12_ : (-1) ≤ S0_.1 13 0 107 ∧ S0_.1 13 0 107 ≤ 11 := hI_.1 13 0 107 rfl
    refine sm_T_go 3 (c1 := (13, [some (.inr (.inr (some (13, 0)))), some (.inl a_)], [.inl (-1), .inl (S0_.1 13 0 107), .inr (.inr (some (13, 0)))], S0_)) rfl ?_
    refine sm_T_br (a := 1) (z := 7) rfl (fun cx13_ => ?_) (fun cx13_ => ?_)
    · have cx13_ : (S0_.1 13 0 107) ≠ (-1) := of_decide_eq_true cx13_
      have hIx14_ : gi (sm_pI S0_ 13 0 134 0) := gi_pI hI_ (show 0 ≤ 0 ∧ 0 ≤ 1 from ⟨by omega, by omega⟩)
      have hFx15_ : ai_fr (sx_W vw_411n) S0_ (sm_pI S0_ 13 0 134 0) := ai_fr_tr hF_ (ai_fr_pI rfl)
      refine sm_T_go 8 (c1 := (32, [some (.inr (.inr (some (13, 0)))), some (.inl a_)], [.inl (-1), .inl (-1), .inl a_, .inl (S0_.1 13 0 107), .inr (.inr (some (13, 0)))], sm_pI S0_ 13 0 134 0)) rfl ?_
      refine sm_T_cal (d1 := 1) (Q1 := vq_410n (S0_.1 13 0 107) a_ (-1) (-1) F_ N_ d_ gs_ [a_] (sm_pI S0_ 13 0 134 0)) rfl rfl (by decide) (vc_410n (S0_.1 13 0 107) a_ (-1) (-1) F_ N_ d_ gs_ [a_] (sm_pI S0_ 13 0 134 0) hIx14_ (by exact rgz_fr (w_ := ([(13, 134)], [], [])) hgz_ (ai_fr_pI rfl)) (by (refine ⟨Nat.le_of_ble_eq_true rfl, fun k_ x_ u_ => ?_, fun k_ u0_ u1_ => ?_⟩; (rcases k_ with _ | k_; (have u_ : some a_ = some x_ := u_; rw [← Option.some.inj u_]; rfl); (have u_ : (none : Option Int) = some x_ := u_; cases u_)); (have u0_ : 1 ≤ k_ := u0_; rw [if_neg (by omega)]; split <;> rfl))) (by exact dmp_fr (w_ := ([(13, 134)], [], [])) hd_ (ai_fr_pI rfl)) (by ((try simp only [rd_eq, rd_ne, rf_eq, rf_nk, rf_nt, rd_fa, rd_af, rd_fl, rd_al, rd_lf, rd_la, rd_leq, rd_lne, rd_fr, rd_ar, ne_eq, Nat.reduceEqDiff, not_false_eq_true]); omega)) (by ((try simp only [rd_eq, rd_ne, rf_eq, rf_nk, rf_nt, rd_fa, rd_af, rd_fl, rd_al, rd_lf, rd_la, rd_leq, rd_lne, rd_fr, rd_ar, ne_eq, Nat.reduceEqDiff, not_false_eq_true]); refine ⟨by omega, by omega, ?_⟩; first | exact Or.inr trivial | exact Or.inr rfl | exact Or.inl (by omega))) (by ((try simp only [rd_eq, rd_ne, rf_eq, rf_nk, rf_nt, rd_fa, rd_af, rd_fl, rd_al, rd_lf, rd_la, rd_leq, rd_lne, rd_fr, rd_ar, ne_eq, Nat.reduceEqDiff, not_false_eq_true]); omega)) (by (intro k9_ K9_ c9_ s9_; (try simp only [rd_eq, rd_ne, rf_eq, rf_nk, rf_nt, rd_fa, rd_af, rd_fl, rd_al, rd_lf, rd_la, rd_leq, rd_lne, rd_fr, rd_ar, ne_eq, Nat.reduceEqDiff, not_false_eq_true] at *); exfalso; omega)) (by (intro g9_ u0_ u1_; (try simp only [rd_eq, rd_ne, rf_eq, rf_nk, rf_nt, rd_fa, rd_af, rd_fl, rd_al, rd_lf, rd_la, rd_leq, rd_lne, rd_fr, rd_ar, ne_eq, Nat.reduceEqDiff, not_false_eq_true] at *); have w9_ := hm9_ g9_ u0_ u1_; (try simp only [rd_eq, rd_ne, rf_eq, rf_nk, rf_nt, rd_fa, rd_af, rd_fl, rd_al, rd_lf, rd_la, rd_leq, rd_lne, rd_fr, rd_ar, ne_eq, Nat.reduceEqDiff, not_false_eq_true]); exact ⟨by first | exact Or.inr trivial | exact Or.inr rfl | exact w9_.1 | omega, w9_.2⟩))) (fun u_ Sx16_ px19_ => ?_)
      obtain ⟨vx21_, rfl, hIx17_, hFx18_, px19_⟩ := px19_
      have hFx20_ : ai_fr (sx_W vw_411n) S0_ Sx16_ := ai_fr_tr hFx15_ (fr_le hFx18_ rfl)
      have e32_ := (px19_).1
      have z32 := (px19_).2
      have f32_ := hFx18_
      refine sm_T_ri rfl ⟨_, _, rfl, _, rfl, hIx17_, hFx20_, ?_⟩
      have y9_ := f32_.1 13 0 134 rfl
      rw [rf_eq] at y9_
      refine ⟨?_, z32, ?_⟩
      · have w9_ := e32_
        (try simp only [rd_eq, rd_ne, rf_eq, rf_nk, rf_nt, rd_fa, rd_af, rd_fl, rd_al, rd_lf, rd_la, rd_leq, rd_lne, rd_fr, rd_ar, ne_eq, Nat.reduceEqDiff, not_false_eq_true] at *)
        exact w9_
      · rw [y9_]
        omega
    · have cx13_ : ¬ ((S0_.1 13 0 107) ≠ (-1)) := of_decide_eq_false cx13_
      have hIx22_ : gi (sm_pI S0_ 13 0 134 1) := gi_pI hI_ (show 0 ≤ 1 ∧ 1 ≤ 1 from ⟨by omega, by omega⟩)
      have hFx23_ : ai_fr (sx_W vw_411n) S0_ (sm_pI S0_ 13 0 134 1) := ai_fr_tr hF_ (ai_fr_pI rfl)
      refine sm_T_go 9 (c1 := (32, [some (.inr (.inr (some (13, 0)))), some (.inl a_)], [.inl (-1), .inl (-1), .inl a_, .inl (S0_.1 13 0 107), .inr (.inr (some (13, 0)))], sm_pI S0_ 13 0 134 1)) rfl ?_
      refine sm_T_cal (d1 := 1) (Q1 := vq_410n (S0_.1 13 0 107) a_ (-1) (-1) F_ N_ d_ gs_ [a_] (sm_pI S0_ 13 0 134 1)) rfl rfl (by decide) (vc_410n (S0_.1 13 0 107) a_ (-1) (-1) F_ N_ d_ gs_ [a_] (sm_pI S0_ 13 0 134 1) hIx22_ (by exact rgz_fr (w_ := ([(13, 134)], [], [])) hgz_ (ai_fr_pI rfl)) (by (refine ⟨Nat.le_of_ble_eq_true rfl, fun k_ x_ u_ => ?_, fun k_ u0_ u1_ => ?_⟩; (rcases k_ with _ | k_; (have u_ : some a_ = some x_ := u_; rw [← Option.some.inj u_]; rfl); (have u_ : (none : Option Int) = some x_ := u_; cases u_)); (have u0_ : 1 ≤ k_ := u0_; rw [if_neg (by omega)]; split <;> rfl))) (by exact dmp_fr (w_ := ([(13, 134)], [], [])) hd_ (ai_fr_pI rfl)) (by ((try simp only [rd_eq, rd_ne, rf_eq, rf_nk, rf_nt, rd_fa, rd_af, rd_fl, rd_al, rd_lf, rd_la, rd_leq, rd_lne, rd_fr, rd_ar, ne_eq, Nat.reduceEqDiff, not_false_eq_true]); omega)) (by ((try simp only [rd_eq, rd_ne, rf_eq, rf_nk, rf_nt, rd_fa, rd_af, rd_fl, rd_al, rd_lf, rd_la, rd_leq, rd_lne, rd_fr, rd_ar, ne_eq, Nat.reduceEqDiff, not_false_eq_true]); refine ⟨by omega, by omega, ?_⟩; first | exact Or.inr trivial | exact Or.inr rfl | exact Or.inl (by omega))) (by ((try simp only [rd_eq, rd_ne, rf_eq, rf_nk, rf_nt, rd_fa, rd_af, rd_fl, rd_al, rd_lf, rd_la, rd_leq, rd_lne, rd_fr, rd_ar, ne_eq, Nat.reduceEqDiff, not_false_eq_true]); omega)) (by (intro k9_ K9_ c9_ s9_; (try simp only [rd_eq, rd_ne, rf_eq, rf_nk, rf_nt, rd_fa, rd_af, rd_fl, rd_al, rd_lf, rd_la, rd_leq, rd_lne, rd_fr, rd_ar, ne_eq, Nat.reduceEqDiff, not_false_eq_true] at *); exfalso; omega)) (by (intro g9_ u0_ u1_; (try simp only [rd_eq, rd_ne, rf_eq, rf_nk, rf_nt, rd_fa, rd_af, rd_fl, rd_al, rd_lf, rd_la, rd_leq, rd_lne, rd_fr, rd_ar, ne_eq, Nat.reduceEqDiff, not_false_eq_true] at *); have w9_ := hm9_ g9_ u0_ u1_; (try simp only [rd_eq, rd_ne, rf_eq, rf_nk, rf_nt, rd_fa, rd_af, rd_fl, rd_al, rd_lf, rd_la, rd_leq, rd_lne, rd_fr, rd_ar, ne_eq, Nat.reduceEqDiff, not_false_eq_true]); exact ⟨by first | exact Or.inr trivial | exact Or.inr rfl | exact w9_.1 | omega, w9_.2⟩))) (fun u_ Sx24_ px27_ => ?_)
      obtain ⟨vx29_, rfl, hIx25_, hFx26_, px27_⟩ := px27_
      have hFx28_ : ai_fr (sx_W vw_411n) S0_ Sx24_ := ai_fr_tr hFx23_ (fr_le hFx26_ rfl)
      have e32_ := (px27_).1
      have z32 := (px27_).2
      have f32_ := hFx26_
      refine sm_T_ri rfl ⟨_, _, rfl, _, rfl, hIx25_, hFx28_, ?_⟩
      have y9_ := f32_.1 13 0 134 rfl
      rw [rf_eq] at y9_
      refine ⟨?_, z32, ?_⟩
      · have w9_ := e32_
        (try simp only [rd_eq, rd_ne, rf_eq, rf_nk, rf_nt, rd_fa, rd_af, rd_fl, rd_al, rd_lf, rd_la, rd_leq, rd_lne, rd_fr, rd_ar, ne_eq, Nat.reduceEqDiff, not_false_eq_true] at *)
        exact w9_
      · rw [y9_]
        omega
end
/-! 99.ztZc -/
section
/-! gates made: the reference: work; written by wip/p55/gen/vg -/

/-! the_ tasks of_ the_ reference -/
theorem jtk_0 {w_ : Int} : jtk 0 w_ = (3 * (w_ / 2) + w_ % 2).toNat := by
  unfold jtk
  rw [if_neg (by decide)]
theorem jtk_1 {w_ : Int} : jtk 1 w_ = (3 * w_ + 2).toNat := by
  unfold jtk
  rw [if_pos rfl]
theorem jtk_b {F_ N_ s_ w_ : Int} {S_ : sm_S} (h_ : jgd F_ N_ S_ s_ w_) (hF_ : 1 ≤ F_) (hN_ : N_ ≤ 1013) : jtk s_ w_ < 3039 ∧ 3 ≤ jtk s_ w_ := by
  rcases h_ with h_ | h_
  · rw [h_.1, jtk_1]
    omega
  · rw [h_.1, jtk_0]
    omega
theorem mdr_j {F_ N_ s_ w_ : Int} {S_ : sm_S} (h_ : jgd F_ N_ S_ s_ w_) (hF_ : 1 ≤ F_) : mdr F_ S_ (jtk s_ w_) = if s_ = 1 then S_.2.2.1 219 0 w_.toNat else S_.2.2.1 218 0 w_.toNat := by
  rcases h_ with h_ | h_
  · rw [h_.1, if_pos rfl, jtk_1]
    unfold mdr
    rw [if_pos (by omega), show (((3 * w_ + 2).toNat : Nat) : Int) / 3 = w_ by omega]
  · rw [h_.1, if_neg (by decide), jtk_0]
    unfold mdr
    rw [if_neg (by omega), if_neg (by omega), show 2 * ((((3 * (w_ / 2) + w_ % 2).toNat : Nat) : Int) / 3) + (((3 * (w_ / 2) + w_ % 2).toNat : Nat) : Int) % 3 = w_ by omega]
theorem mdr_i {F_ : Int} {S_ : sm_S} {x_ : Nat} (h_ : cin F_ x_) : mdr F_ S_ x_ ≠ -1 := by
  have h1_ := h_.1
  have h2_ := h_.2.1
  have h3_ := h_.2.2
  unfold mdr
  rw [if_neg (by omega), if_pos ⟨h2_, h3_⟩]
  omega
/-- sort 1 -/
theorem rp_1 {F_ w_ : Int} {S_ : sm_S} (hw_ : 1 ≤ w_) : rpn S_ (jtk 1 w_) = 1 ∧ (∀ k_, rpv F_ S_ (jtk 1 w_) k_ = (3 * w_).toNat) ∧ rgc S_ (jtk 1 w_) = S_.1 13 0 107 := by
  rw [jtk_1]
  have m_ : (((3 * w_ + 2).toNat : Nat) : Int) % 3 = 2 := by omega
  refine ⟨?_, fun k_ => ?_, ?_⟩
  · unfold rpn pno
    rw [if_pos m_]
    rfl
  · unfold rpv ptv
    rw [if_pos m_, show (((3 * w_ + 2).toNat : Nat) : Int) / 3 = w_ by omega]
  · unfold rgc
    rw [if_pos m_]
/-- a_ literal by its_ other one_ -/
theorem rp_2 {F_ w_ : Int} {S_ : sm_S} (hw_ : 2 ≤ w_) (t_ : S_.2.2.1 211 0 w_.toNat ≠ 0) : rpn S_ (jtk 0 w_) = 1 ∧ (∀ k_, rpv F_ S_ (jtk 0 w_) k_ = jtk 0 (w_ + 1 - 2 * (w_ % 2))) ∧ rgc S_ (jtk 0 w_) = S_.1 13 0 107 := by
  rw [jtk_0, jtk_0]
  have m_ : ¬ (((3 * (w_ / 2) + w_ % 2).toNat : Nat) : Int) % 3 = 2 := by omega
  have e_ : 2 * ((((3 * (w_ / 2) + w_ % 2).toNat : Nat) : Int) / 3) + (((3 * (w_ / 2) + w_ % 2).toNat : Nat) : Int) % 3 = w_ := by omega
  have c_ : rcw S_ w_.toNat = -2 := by
    unfold rcw
    rw [if_neg t_]
  have l_ : rcw S_ w_.toNat < 0 := by
    rw [c_]
    decide
  refine ⟨?_, fun k_ => ?_, ?_⟩
  · unfold rpn pno
    rw [if_neg m_, e_, if_pos l_]
    rfl
  · unfold rpv ptv
    rw [if_neg m_, e_, if_pos l_]
    omega
  · unfold rgc
    rw [if_neg m_, e_, if_pos l_]
/-- a_ literal by a_ cell -/
theorem rp_3 {F_ w_ : Int} {S_ : sm_S} (hw_ : 2 ≤ w_) (t_ : S_.2.2.1 211 0 w_.toNat = 0) (c0_ : 0 ≤ S_.2.2.1 207 0 w_.toNat) : rpn S_ (jtk 0 w_) = (S_.2.2.1 185 0 (12 * S_.1 13 0 106 + S_.2.2.1 207 0 w_.toNat).toNat).toNat ∧ (∀ k_ : Nat, rpv F_ S_ (jtk 0 w_) k_ = (ltk F_ S_ (S_.2.2.1 208 0 (3 * w_ + (k_ : Int)).toNat) (i_shr (S_.2.2.1 209 0 w_.toNat) (k_ : Int) % 2)).toNat) ∧ rgc S_ (jtk 0 w_) = S_.2.2.1 207 0 w_.toNat := by
  rw [jtk_0]
  have m_ : ¬ (((3 * (w_ / 2) + w_ % 2).toNat : Nat) : Int) % 3 = 2 := by omega
  have e_ : 2 * ((((3 * (w_ / 2) + w_ % 2).toNat : Nat) : Int) / 3) + (((3 * (w_ / 2) + w_ % 2).toNat : Nat) : Int) % 3 = w_ := by omega
  have c_ : rcw S_ w_.toNat = S_.2.2.1 207 0 w_.toNat := by
    unfold rcw
    rw [if_pos t_]
  have l_ : ¬ rcw S_ w_.toNat < 0 := by
    rw [c_]
    omega
  refine ⟨?_, fun k_ => ?_, ?_⟩
  · unfold rpn pno rnp
    rw [if_neg m_, e_, if_neg l_, c_, show ((((S_.2.2.1 207 0 w_.toNat).toNat : Nat)) : Int) = S_.2.2.1 207 0 w_.toNat by omega]
  · unfold rpv ptv ptn ltk
    rw [if_neg m_, e_, if_neg l_, show 6 * ((((3 * (w_ / 2) + w_ % 2).toNat : Nat) : Int) / 3) + 3 * ((((3 * (w_ / 2) + w_ % 2).toNat : Nat) : Int) % 3) + (k_ : Int) = 3 * w_ + (k_ : Int) by omega]
  · unfold rgc
    rw [if_neg m_, e_, if_neg l_, c_]
/-- a_ part of_ what can_ be_ made can_ be_ made -/
theorem ltk_g {F_ N_ x_ y_ b_ : Int} {S_ : sm_S} (hgd_ : gdr F_ N_ S_) (hF_ : 1 ≤ F_) (hx_ : x_ < N_) (i_ : inp F_ x_ S_ y_ b_) (hb_ : b_ = 0 ∨ b_ = 1) (b3_ : 0 ≤ S_.2.2.1 203 0 y_.toNat ∧ S_.2.2.1 203 0 y_.toNat ≤ 1) : rgk F_ N_ S_ (ltk F_ S_ y_ b_).toNat ∧ ltk F_ S_ y_ b_ ≤ 3 * y_ + 2 ∧ 3 ≤ ltk F_ S_ y_ b_ := by
  have i1_ := i_.1.1
  have i2_ := i_.1.2.1
  have i3_ := i_.1.2.2
  have i4_ := i_.2
  unfold ltk
  by_cases c_ : y_ < F_ ∨ S_.2.2.1 203 0 y_.toNat ≠ 0
  · rw [if_pos c_]
    have k_ : y_ < F_ ∨ (S_.2.2.1 203 0 y_.toNat = 1 ∧ S_.2.2.1 210 0 (2 * y_).toNat < 1000000000) := by
      by_cases d_ : y_ < F_
      · exact Or.inl d_
      · have r_ : S_.2.2.1 203 0 y_.toNat = 1 := by
          have := c_.resolve_left d_
          omega
        exact Or.inr ⟨r_, hgd_ y_ (by omega) (by omega) i3_ r_⟩
    refine ⟨?_, by omega, by omega⟩
    rcases hb_ with e_ | e_
    · rw [e_]
      by_cases d_ : y_ < F_
      · exact Or.inr ⟨⟨by omega, by omega, by omega⟩, by omega⟩
      · have q_ := k_.resolve_left d_
        refine Or.inl ⟨0, 2 * y_, Or.inr ⟨rfl, by omega, by omega, by rw [show 2 * y_ / 2 = y_ by omega]; exact i3_, q_.2⟩, ?_⟩
        rw [jtk_0]
        omega
    · rw [e_]
      refine Or.inl ⟨1, y_, Or.inl ⟨rfl, i1_, by omega, i3_, k_⟩, ?_⟩
      rw [jtk_1]
      omega
  · rw [if_neg c_]
    refine ⟨?_, by omega, by omega⟩
    unfold cst at i4_
    rw [if_pos (by omega)] at i4_
    refine Or.inl ⟨0, 2 * y_ + b_, Or.inr ⟨rfl, by omega, by omega, by rw [show (2 * y_ + b_) / 2 = y_ by omega]; exact i3_, i4_⟩, ?_⟩
    rw [jtk_0]
    omega
theorem gdg_r {F_ N_ : Int} {S_ : sm_S} (hI_ : gi S_) (hal_ : wal9 F_ N_ S_) (hgd_ : gdr F_ N_ S_) (hF_ : 1 ≤ F_) : gdg (rpn S_) (rpv F_ S_) (rrk S_) (rgk F_ N_ S_) (cin F_) := by
  intro u_ gu_ ni_ k_ hk_
  rcases gu_ with ⟨s_, w_, hj_, hu_⟩ | hc_
  · rcases hj_ with ⟨s1_, w1_, w2_, w3_, w4_⟩ | ⟨s0_, h1_, h2_, h3_, h4_⟩
    · rw [s1_] at hu_
      have r_ := rp_1 (F_ := F_) (S_ := S_) w1_
      rw [← hu_] at r_
      have ju_ : (u_ : Int) = 3 * w_ + 2 := by
        rw [hu_, jtk_1]
        omega
      rw [r_.2.1 k_]
      refine ⟨?_, ?_⟩
      · by_cases c_ : w_ < F_
        · exact Or.inr ⟨⟨by omega, by omega, by omega⟩, by omega⟩
        · have q_ := w4_.resolve_left c_
          refine Or.inl ⟨0, 2 * w_, Or.inr ⟨rfl, by omega, by omega, by rw [show 2 * w_ / 2 = w_ by omega]; exact w3_, q_.2⟩, ?_⟩
          rw [jtk_0]
          omega
      · unfold rrk grk
        rw [if_pos (show (u_ : Int) % 3 = 2 by omega), if_neg (show ¬ (((3 * w_).toNat : Nat) : Int) % 3 = 2 by omega)]
        split <;> omega
    · rw [s0_] at hu_
      have W_ := wk_way hI_ hal_ hF_ ⟨h1_, h2_, h3_, h4_⟩
      have ju_ : (u_ : Int) = 3 * (w_ / 2) + w_ % 2 := by
        rw [hu_, jtk_0]
        omega
      have gb_ := grk_b (rcw S_) (u_ : Int)
      have z_ : 0 ≤ S_.2.2.1 211 0 w_.toNat := (hI_.2 211 0 _).1
      by_cases t_ : S_.2.2.1 211 0 w_.toNat = 0
      · have W1_ := W_.1 t_
        have r_ := rp_3 (F_ := F_) (S_ := S_) (w_ := w_) (by omega) t_ W1_.1
        rw [← hu_] at r_
        rw [r_.1] at hk_
        rw [r_.2.1 k_]
        have i_ := W1_.2.2 (k_ : Int) (by omega) (by omega)
        have i2_ := i_.1.2.1
        have g_ := ltk_g hgd_ hF_ (show w_ / 2 < N_ by omega) i_ (by omega) (hI_.2 203 0 _)
        refine ⟨g_.1, ?_⟩
        have gb2_ := grk_b (rcw S_) (((ltk F_ S_ (S_.2.2.1 208 0 (3 * w_ + (k_ : Int)).toNat) (i_shr (S_.2.2.1 209 0 w_.toNat) (k_ : Int) % 2)).toNat : Nat) : Int)
        unfold rrk
        have g2_ := g_.2.1
        have g3_ := g_.2.2
        omega
      · have W2_ := W_.2 t_
        have r_ := rp_2 (F_ := F_) (S_ := S_) (w_ := w_) (by omega) t_
        rw [← hu_] at r_
        rw [r_.2.1 k_]
        have V_ := wk_way hI_ hal_ hF_ (w_ := w_ + 1 - 2 * (w_ % 2)) ⟨by omega, by omega, by rw [show (w_ + 1 - 2 * (w_ % 2)) / 2 = w_ / 2 by omega]; exact h3_, W2_.2⟩
        have V1_ := (V_.1 W2_.1).1
        refine ⟨Or.inl ⟨0, _, Or.inr ⟨rfl, by omega, by omega, by rw [show (w_ + 1 - 2 * (w_ % 2)) / 2 = w_ / 2 by omega]; exact h3_, W2_.2⟩, rfl⟩, ?_⟩
        have c_ : rcw S_ w_.toNat = -2 := by
          unfold rcw
          rw [if_neg t_]
        have c2_ : ¬ rcw S_ (w_ + 1 - 2 * (w_ % 2)).toNat = -2 := by
          unfold rcw
          rw [if_pos W2_.1]
          omega
        unfold rrk grk
        rw [jtk_0, if_neg (show ¬ (u_ : Int) % 3 = 2 by omega), show 2 * ((u_ : Int) / 3) + (u_ : Int) % 3 = w_ by omega, if_pos c_, if_neg (by omega), show 2 * ((((3 * ((w_ + 1 - 2 * (w_ % 2)) / 2) + (w_ + 1 - 2 * (w_ % 2)) % 2).toNat : Nat) : Int) / 3) + (((3 * ((w_ + 1 - 2 * (w_ % 2)) / 2) + (w_ + 1 - 2 * (w_ % 2)) % 2).toNat : Nat) : Int) % 3 = w_ + 1 - 2 * (w_ % 2) by omega, if_neg c2_]
        omega
  · exact absurd hc_.1 ni_
theorem rrk_b {S_ : sm_S} {u_ : Nat} (h_ : u_ < 3039) : rrk S_ u_ < 4000 := by
  have b_ := grk_b (rcw S_) (u_ : Int)
  unfold rrk
  omega

/-! M_.work -/
def vw_417n : sx_Wl := ([(13, 129), (13, 134), (13, 137)], [216, 217, 218, 219, 220, 221], [])
def vq_417n (F_ : Int) (N_ : Int) (d_ : Int) (gs_ : List (Int × List Int)) (S0_ : sm_S) (u_ : Option sm_V) (S1_ : sm_S) : Prop := u_ = none ∧ gi S1_ ∧ ai_fr (sx_W vw_417n) S0_ S1_ ∧ ((gst F_ N_ S1_ ∧ jsk F_ N_ S1_ ∧ mea_ N_ S1_ < mea_ N_ S0_ ∧ S0_.1 13 0 129 ≤ S1_.1 13 0 129) ∧ ∃ g1_ : List (Int × List Int), rgz S1_ g1_ ∧ lck S1_ g1_ ∧ gsr (rpn S0_) (rpv F_ S0_) (rgc S0_) (F_ - 1) 4000 (jst S1_) (mdr F_ S1_, g1_) = gsr (rpn S0_) (rpv F_ S0_) (rgc S0_) (F_ - 1) 4000 (jst S0_) (mdr F_ S0_, gs_))
set_option maxHeartbeats 4000000 in
set_option maxRecDepth 20000 in
theorem vl_417n {sc_ : Nat × (Nat → Int)} (F_ : Int) (N_ : Int) (d_ : Int) (gs_ : List (Int × List Int)) (S0_ : sm_S) (hd_ : dmp F_ N_ d_ S0_) (hal_ : wal9 F_ N_ S0_) (hgd_ : gdr F_ N_ S0_) (hiv_ : (S0_.1 13 0 107) = -1 ∨ S0_.2.2.1 185 0 (12 * S0_.1 13 0 106 + S0_.1 13 0 107).toNat = 1) (hgs_ : gst F_ N_ S0_) (hjs_ : jsk F_ N_ S0_) (hj_ : 1 ≤ (S0_.1 13 0 137)) (hgz_ : rgz S0_ gs_) (hlk_ : lck S0_ gs_) : ∀ nn_ : Nat, (∀ (w_ : Int) (sz_ : Int) (k_ : Int) (S_ : sm_S), gi S_ → ai_fr (sx_W vw_417n) S0_ S_ → ((S_ = S0_) ∧ (w_ = (S0_.2.2.1 220 0 (S0_.1 13 0 137 - 1).toNat) ∧ 0 ≤ k_ ∧ k_ ≤ sz_ ∧ sz_ ≤ 3 ∧ (S0_.2.2.1 221 0 (S0_.1 13 0 137 - 1).toNat) = 0 ∧ S0_.2.2.1 218 0 w_.toNat = -1 ∧ S0_.2.2.1 211 0 w_.toNat = 0 ∧ sz_ = S0_.2.2.1 185 0 (12 * S0_.1 13 0 106 + S0_.2.2.1 207 0 w_.toNat).toNat) ∧ (∀ j9_ : Int, 0 ≤ j9_ → j9_ < k_ → noi F_ S0_ (S0_.2.2.1 208 0 (3 * w_ + j9_).toNat) (i_shr (S0_.2.2.1 209 0 w_.toNat) j9_ % 2) ≠ -1) ∧ True) → ((50 - k_).toNat) < nn_ → sm_T (mt_P sc_) 3 417 (175, [some (.inr (.inr (some (13, 0)))), some (.inl w_), some (.inl sz_), some (.inl k_), none, none], [], S_) (fun ro9_ => ∃ u_ S1_, ro9_ = (.inl u_, S1_, 0) ∧ vq_417n F_ N_ d_ gs_ S0_ u_ S1_)) := by
  intro nn_
  induction nn_ with
  | zero => exact fun _ _ _ _ _ _ _ h_ => absurd h_ (Nat.not_lt_zero _)
  | succ nn_ ih_ =>
    rintro w_ sz_ k_ S_ hI_ hF_ ⟨h4_, h0_, h1_, -⟩ hm_
    rw [← h4_] at hd_ hal_ hgd_ hiv_ hgs_ hjs_ hj_ h0_ h1_ hgz_ hlk_
    have d1_ := hd_.1
    have tj_ := hjs_ (S_.1 13 0 137 - 1) (by omega) (by omega)
    have tg_ := tj_.1
    have f160_ : S_.2.2.1 160 0 (S_.1 13 0 105).toNat = F_ := by (rw [d1_.2.2.1]; exact d1_.2.2.2.1)
    have jc_ := jsk_c hI_ hjs_ (by omega)
    have g0_ := hgs_.1
    have cw : 0 ≤ S_.2.2.1 220 0 (S_.1 13 0 137 - 1).toNat ∧ S_.2.2.1 220 0 (S_.1 13 0 137 - 1).toNat ≤ 4095 := hI_.2 220 0 _
    have cs_ : 0 ≤ S_.2.2.1 221 0 (S_.1 13 0 137 - 1).toNat ∧ S_.2.2.1 221 0 (S_.1 13 0 137 - 1).toNat ≤ 1 := hI_.2 221 0 _
    have GD9_ := gdg_r hI_ hal_ hgd_ (by omega)
    have IJ9_ : ∀ x_, cin F_ x_ → mdr F_ S_ x_ ≠ -1 := fun x_ hx_ => mdr_i hx_
    have tg8_ : jgd F_ N_ S_ (jtos S_) (jtop S_) := tg_
    have GU9_ : rgk F_ N_ S_ (jtk (jtos S_) (jtop S_)) := Or.inl ⟨_, _, tg8_, rfl⟩
    have UB9_ := jtk_b tg8_ (by omega) (by omega)
    have RU9_ : rrk S_ (jtk (jtos S_) (jtop S_)) < 4000 := rrk_b UB9_.1
    have MU9_ := mdr_j tg8_ (by omega)
    have B9_ : 0 ≤ F_ - 1 := by omega
    have Z9_ := hgz_.1
    have tw_ : 2 * F_ ≤ w_ ∧ w_ < 2 * N_ ∧ S_.2.2.1 202 0 (w_ / 2).toNat = 1 ∧ S_.2.2.1 210 0 w_.toNat < 1000000000 := by (rcases tg_ with y9_ | y9_; (exfalso; omega); (rw [h0_.1]; exact y9_.2))
    have W9_ := (wk_way hI_ hal_ (by omega) tw_).1 h0_.2.2.2.2.2.2.1
    rw [← h0_.2.2.2.2.2.2.2] at W9_
    have nd9_ : ¬ jdn S_ (jtos S_) (jtop S_) := by (unfold jdn jtos jtop; rw [← h0_.1]; omega)
    have rk9_ : jrk S_ (jtos S_) (jtop S_) = 3 * (w_ / 2) := by (unfold jrk jtos jtop; rw [← h0_.1, if_neg (by omega)]; omega)
    have jt9_ : jtos S_ = 0 ∧ jtop S_ = w_ := ⟨by (unfold jtos; omega), by (unfold jtop; omega)⟩
    have R39_ := rp_3 (F_ := F_) (S_ := S_) (w_ := w_) (by omega) h0_.2.2.2.2.2.2.1 W9_.1
    rw [← h0_.2.2.2.2.2.2.2] at R39_
    rw [show jtk 0 w_ = (jtk (jtos S_) (jtop S_)) by rw [jt9_.1, jt9_.2]] at R39_
    have MV9_ : mdr F_ S_ (jtk (jtos S_) (jtop S_)) = S_.2.2.1 218 0 w_.toNat := by (rw [MU9_, if_neg (show ¬ jtos S_ = 1 by (rw [jt9_.1]; decide)), jt9_.2])
    refine sm_T_go 2 (c1 := (177, [some (.inr (.inr (some (13, 0)))), some (.inl w_), some (.inl sz_), some (.inl k_), none, none], [.inl sz_, .inl k_], S_)) rfl ?_
    refine sm_T_br (a := 3) (z := 58) rfl (fun cx1_ => ?_) (fun cx1_ => ?_)
    · have cx1_ : sz_ ≤ k_ := of_decide_eq_true cx1_
      have ct : 0 ≤ S_.2.2.1 209 0 w_.toNat ∧ S_.2.2.1 209 0 w_.toNat ≤ 7 := hI_.2 209 0 _
      have sh_ := shr3 (x_ := S_.2.2.1 209 0 w_.toNat) (by omega)
      have M0_ := wk_in hgs_ tw_.2.1 (W9_.2.2 0 (by omega) (by omega)) (by omega) (h1_ 0 (by omega) (by omega))
      rw [sh_.1, Int.add_zero] at M0_
      have M1_ : 1 < sz_ → _ := fun z9_ => wk_in hgs_ tw_.2.1 (W9_.2.2 1 (by omega) z9_) (by omega) (h1_ 1 (by omega) (by omega))
      rw [sh_.2.1] at M1_
      have M2_ : 2 < sz_ → _ := fun z9_ => wk_in hgs_ tw_.2.1 (W9_.2.2 2 (by omega) z9_) (by omega) (h1_ 2 (by omega) (by omega))
      rw [sh_.2.2] at M2_
      refine sm_T_go 5 (c1 := (242, [some (.inr (.inr (some (13, 0)))), some (.inl w_), some (.inl sz_), some (.inl k_), none, none], [.inl w_, .inl 3, .inr (.inr (some (208, 0))), .inr (.inr (some (13, 0)))], S_)) rfl ?_
      refine sm_T_bin (w := 3 * w_) rfl (bi_mul (by omega) (by omega) (by omega)) ?_ -- pc_ 242
      refine sm_T_iald (n := 12288) rfl rfl (by omega) (by omega) ?_
      have bx2_ : 0 ≤ S_.2.2.1 208 0 (3 * w_).toNat ∧ S_.2.2.1 208 0 (3 * w_).toNat ≤ 2047 := hI_.2 208 0 _
      refine sm_T_go 3 (c1 := (249, [some (.inr (.inr (some (13, 0)))), some (.inl w_), some (.inl sz_), some (.inl k_), none, none], [.inl w_, .inr (.inr (some (209, 0))), .inl (S_.2.2.1 208 0 (3 * w_).toNat), .inr (.inr (some (13, 0)))], S_)) rfl ?_
      refine sm_T_iald (n := 4096) rfl rfl (by omega) (by omega) ?_
      have bx3_ : 0 ≤ S_.2.2.1 209 0 w_.toNat ∧ S_.2.2.1 209 0 w_.toNat ≤ 7 := hI_.2 209 0 _
      refine sm_T_go 1 (c1 := (251, [some (.inr (.inr (some (13, 0)))), some (.inl w_), some (.inl sz_), some (.inl k_), none, none], [.inl 1, .inl (S_.2.2.1 209 0 w_.toNat), .inl (S_.2.2.1 208 0 (3 * w_).toNat), .inr (.inr (some (13, 0)))], S_)) rfl ?_
      refine sm_T_bin (w := ((S_.2.2.1 209 0 w_.toNat) % 2)) rfl (bi_msk (k := 1) (by decide)) ?_ -- pc_ 251
      refine sm_T_cal (d1 := 2) (Q1 := vq_415 (S_.2.2.1 208 0 (3 * w_).toNat) ((S_.2.2.1 209 0 w_.toNat) % 2) F_ S_) rfl rfl (by decide) (vc_415 (S_.2.2.1 208 0 (3 * w_).toNat) ((S_.2.2.1 209 0 w_.toNat) % 2) F_ S_ hI_ (by exact f160_) (by omega)) (fun u_ Sx4_ px7_ => ?_)
      obtain ⟨rfl, vx9_, rfl, px7_⟩ := px7_
      have e252_ := px7_
      refine sm_T_go 3 (c1 := (258, [some (.inr (.inr (some (13, 0)))), some (.inl w_), some (.inl sz_), some (.inl vx9_), none, none], [.inl 1, .inl sz_], S_)) rfl ?_
      refine sm_T_br (a := 5) (z := 30) rfl (fun cx10_ => ?_) (fun cx10_ => ?_)
      · have cx10_ : sz_ ≤ 1 := of_decide_eq_true cx10_
        refine sm_T_go 4 (c1 := (293, [some (.inr (.inr (some (13, 0)))), some (.inl w_), some (.inl sz_), some (.inl vx9_), some (.inl (-1)), none], [.inl 2, .inl sz_], S_)) rfl ?_
        refine sm_T_br (a := 5) (z := 30) rfl (fun cx11_ => ?_) (fun cx11_ => ?_)
        · have cx11_ : sz_ ≤ 2 := of_decide_eq_true cx11_
          refine sm_T_go 9 (c1 := (337, [some (.inr (.inr (some (13, 0)))), some (.inl w_), some (.inl sz_), some (.inl vx9_), some (.inl (-1)), some (.inl (-1))], [.inl w_, .inr (.inr (some (207, 0))), .inr (.inr (some (13, 0))), .inl w_, .inr (.inr (some (218, 0)))], S_)) rfl ?_
          refine sm_T_iald (n := 4096) rfl rfl (by omega) (by omega) ?_
          have bx12_ : (-1) ≤ S_.2.2.1 207 0 w_.toNat ∧ S_.2.2.1 207 0 w_.toNat ≤ 11 := hI_.2 207 0 _
          refine sm_T_go 3 (c1 := (343, [some (.inr (.inr (some (13, 0)))), some (.inl w_), some (.inl sz_), some (.inl vx9_), some (.inl (-1)), some (.inl (-1))], [.inl (-1), .inl (-1), .inl vx9_, .inl (S_.2.2.1 207 0 w_.toNat), .inr (.inr (some (13, 0))), .inl w_, .inr (.inr (some (218, 0)))], S_)) rfl ?_
          refine sm_T_cal (d1 := 1) (Q1 := vq_410n (S_.2.2.1 207 0 w_.toNat) vx9_ (-1) (-1) F_ N_ d_ gs_ (nts (fun k_ => mdr F_ S_ (rpv F_ S_ (jtk (jtos S_) (jtop S_)) k_)) (rpn S_ (jtk (jtos S_) (jtop S_)))) S_) rfl rfl (by decide) (vc_410n (S_.2.2.1 207 0 w_.toNat) vx9_ (-1) (-1) F_ N_ d_ gs_ (nts (fun k_ => mdr F_ S_ (rpv F_ S_ (jtk (jtos S_) (jtop S_)) k_)) (rpn S_ (jtk (jtos S_) (jtop S_)))) S_ hI_ (by exact hgz_) (by (refine ⟨by (rw [nts_l, R39_.1]; omega), fun k_ x_ u_ => ?_, fun k_ u0_ u1_ => ?_⟩; have z9_ := nts_x u_; rw [R39_.1] at z9_; rw [z9_.2, R39_.2.1 k_, mdr_n (by (have y9_ := (W9_.2.2 (k_ : Int) (by omega) (by omega)).1.1; exact y9_)) (by omega)]; have K9_ : k_ = 0 ∨ k_ = 1 ∨ k_ = 2 := (by omega); rcases K9_ with K9_ | K9_ | K9_ <;> subst K9_; (show noi F_ S_ (S_.2.2.1 208 0 (3 * w_ + 0).toNat) (i_shr (S_.2.2.1 209 0 w_.toNat) 0 % 2) = _; rw [sh_.1, Int.add_zero, if_pos rfl, e252_.1]); (show noi F_ S_ (S_.2.2.1 208 0 (3 * w_ + 1).toNat) (i_shr (S_.2.2.1 209 0 w_.toNat) 1 % 2) = _; rw [sh_.2.1, if_neg (by decide), if_pos rfl]; first | (rw [e282_.1]) | (exfalso; omega)); (show noi F_ S_ (S_.2.2.1 208 0 (3 * w_ + 2).toNat) (i_shr (S_.2.2.1 209 0 w_.toNat) 2 % 2) = _; rw [sh_.2.2, if_neg (by decide), if_neg (by decide)]; first | (rw [e317_.1]) | (exfalso; omega)); (rw [nts_l, R39_.1] at u0_; have K9_ : k_ = 0 ∨ k_ = 1 ∨ k_ = 2 := (by omega); rcases K9_ with K9_ | K9_ | K9_ <;> subst K9_; (exfalso; omega); (first | (exfalso; omega) | (rw [if_neg (by decide), if_pos rfl])); (first | (exfalso; omega) | (rw [if_neg (by decide), if_neg (by decide)]))))) (by exact hd_) (by omega) (by omega) (by omega) (by (intro k9_ K9_ c9_ s9_; rcases K9_ with K9_ | K9_ <;> subst K9_; (rw [if_pos rfl]; omega); (rw [if_neg (by decide)]; omega))) (by exact hgs_.2.2.2)) (fun u_ Sx13_ px16_ => ?_)
          obtain ⟨vx18_, rfl, hIx14_, hFx15_, px16_⟩ := px16_
          have hFx17_ : ai_fr (sx_W vw_417n) S0_ Sx13_ := ai_fr_tr hF_ (fr_le hFx15_ rfl)
          have e343_ := (px16_).1
          have f343_ := hFx15_
          have z343_ := (px16_).2
          refine sm_T_iast (n := 4096) rfl rfl (by omega) (by omega) ?_
          have hIx19_ : gi (sm_aI Sx13_ 218 0 w_.toNat vx18_) := gi_aI hIx14_ (show (-2) ≤ vx18_ ∧ vx18_ ≤ 9000 from ⟨by omega, by omega⟩)
          have hFx20_ : ai_fr (sx_W vw_417n) S0_ (sm_aI Sx13_ 218 0 w_.toNat vx18_) := ai_fr_tr hFx17_ (ai_fr_aI rfl)
          refine sm_T_rv rfl ⟨_, _, rfl, rfl, hIx19_, hFx20_, ?_⟩
          refine ⟨?_, ?_⟩
          · rw [← h4_]
            exact wk_g (by assumption) hgs_ hjs_ (by omega) (by omega) f343_ ⟨tw_.1, tw_.2.1⟩ (by omega) e343_
          · rw [← h4_]
            have E9_ : (rgc S_ (jtk (jtos S_) (jtop S_)), (nts (fun k_ => mdr F_ S_ (rpv F_ S_ (jtk (jtos S_) (jtop S_)) k_)) (rpn S_ (jtk (jtos S_) (jtop S_))))) = (S_.2.2.1 207 0 w_.toNat, (nts (fun k_ => mdr F_ S_ (rpv F_ S_ (jtk (jtos S_) (jtop S_)) k_)) (rpn S_ (jtk (jtos S_) (jtop S_))))) := by rw [R39_.2.2]
            refine ⟨gs_ ++ [(S_.2.2.1 207 0 w_.toNat, (nts (fun k_ => mdr F_ S_ (rpv F_ S_ (jtk (jtos S_) (jtop S_)) k_)) (rpn S_ (jtk (jtos S_) (jtop S_)))))], rgz_fr (w_ := ([], [218], [])) z343_ (ai_fr_aI rfl), lck_a hlk_ (by (have y9_ := f343_.1 13 0 134 rfl; have x9_ := W9_.1; constructor; (intro q9_; left; rw [← y9_]; exact q9_); (rintro (q9_ | q9_); (rw [← y9_] at q9_; exact q9_); (exfalso; omega)))), ?_⟩
            rw [← E9_]
            refine kw_fin hj_ (jst_cg (f343_.1 13 0 137 rfl) ((rd_ne_ (by decide)).trans (fr_arr f343_ rfl)) ((rd_ne_ (by decide)).trans (fr_arr f343_ rfl))) ?_ B9_ (by omega) (fun j_ h_ => ?_)
            · have z9_ := mdr_g (F_ := F_) (w_ := w_) (S_ := S_) (S'_ := (sm_aI Sx13_ 218 0 w_.toNat vx18_)) (v_ := F_ - 1 + S_.1 13 0 129) tw_.1 (by omega) (fun j_ => by (rw [rd_eq, fr_arr (t := 218) (i := 0) f343_ rfl, e343_.1])) ((rd_ne_ (by decide)).trans (fr_arr f343_ rfl))
              rw [z9_, jt9_.1, jt9_.2, Z9_]
            · rw [R39_.1] at h_
              rw [R39_.2.1 j_, mdr_n (W9_.2.2 (j_ : Int) (by omega) (by omega)).1.1 (by omega)]
              exact h1_ (j_ : Int) (by omega) (by omega)
        · have cx11_ : ¬ (sz_ ≤ 2) := of_decide_eq_false cx11_
          exfalso; omega
      · have cx10_ : ¬ (sz_ ≤ 1) := of_decide_eq_false cx10_
        refine sm_T_go 5 (c1 := (268, [some (.inr (.inr (some (13, 0)))), some (.inl w_), some (.inl sz_), some (.inl vx9_), none, none], [.inl w_, .inl 3, .inr (.inr (some (208, 0))), .inr (.inr (some (13, 0)))], S_)) rfl ?_
        refine sm_T_bin (w := 3 * w_) rfl (bi_mul (by omega) (by omega) (by omega)) ?_ -- pc_ 268
        refine sm_T_go 1 (c1 := (270, [some (.inr (.inr (some (13, 0)))), some (.inl w_), some (.inl sz_), some (.inl vx9_), none, none], [.inl 1, .inl (3 * w_), .inr (.inr (some (208, 0))), .inr (.inr (some (13, 0)))], S_)) rfl ?_
        refine sm_T_bin (w := 3 * w_ + 1) rfl (bi_add (by omega) (by omega) (by omega)) ?_ -- pc_ 270
        refine sm_T_iald (n := 12288) rfl rfl (by omega) (by omega) ?_
        have bx21_ : 0 ≤ S_.2.2.1 208 0 (3 * w_ + 1).toNat ∧ S_.2.2.1 208 0 (3 * w_ + 1).toNat ≤ 2047 := hI_.2 208 0 _
        refine sm_T_go 3 (c1 := (277, [some (.inr (.inr (some (13, 0)))), some (.inl w_), some (.inl sz_), some (.inl vx9_), none, none], [.inl w_, .inr (.inr (some (209, 0))), .inl (S_.2.2.1 208 0 (3 * w_ + 1).toNat), .inr (.inr (some (13, 0)))], S_)) rfl ?_
        refine sm_T_iald (n := 4096) rfl rfl (by omega) (by omega) ?_
        refine sm_T_go 1 (c1 := (279, [some (.inr (.inr (some (13, 0)))), some (.inl w_), some (.inl sz_), some (.inl vx9_), none, none], [.inl 1, .inl (S_.2.2.1 209 0 w_.toNat), .inl (S_.2.2.1 208 0 (3 * w_ + 1).toNat), .inr (.inr (some (13, 0)))], S_)) rfl ?_
        refine sm_T_bin (w := ((S_.2.2.1 209 0 w_.toNat) / 2)) rfl (bi_shr (k := 1) (by decide) (by omega) (by omega)) ?_ -- pc_ 279
        refine sm_T_go 1 (c1 := (281, [some (.inr (.inr (some (13, 0)))), some (.inl w_), some (.inl sz_), some (.inl vx9_), none, none], [.inl 1, .inl ((S_.2.2.1 209 0 w_.toNat) / 2), .inl (S_.2.2.1 208 0 (3 * w_ + 1).toNat), .inr (.inr (some (13, 0)))], S_)) rfl ?_
        refine sm_T_bin (w := (((S_.2.2.1 209 0 w_.toNat) / 2) % 2)) rfl (bi_msk (k := 1) (by decide)) ?_ -- pc_ 281
        refine sm_T_cal (d1 := 2) (Q1 := vq_415 (S_.2.2.1 208 0 (3 * w_ + 1).toNat) (((S_.2.2.1 209 0 w_.toNat) / 2) % 2) F_ S_) rfl rfl (by decide) (vc_415 (S_.2.2.1 208 0 (3 * w_ + 1).toNat) (((S_.2.2.1 209 0 w_.toNat) / 2) % 2) F_ S_ hI_ (by exact f160_) (by (have y9_ := M1_ (by omega); omega))) (fun u_ Sx22_ px25_ => ?_)
        obtain ⟨rfl, vx27_, rfl, px25_⟩ := px25_
        have e282_ := px25_
        have y282_ := M1_ (by omega)
        refine sm_T_go 4 (c1 := (293, [some (.inr (.inr (some (13, 0)))), some (.inl w_), some (.inl sz_), some (.inl vx9_), some (.inl vx27_), none], [.inl 2, .inl sz_], S_)) rfl ?_
        refine sm_T_br (a := 5) (z := 30) rfl (fun cx28_ => ?_) (fun cx28_ => ?_)
        · have cx28_ : sz_ ≤ 2 := of_decide_eq_true cx28_
          refine sm_T_go 9 (c1 := (337, [some (.inr (.inr (some (13, 0)))), some (.inl w_), some (.inl sz_), some (.inl vx9_), some (.inl vx27_), some (.inl (-1))], [.inl w_, .inr (.inr (some (207, 0))), .inr (.inr (some (13, 0))), .inl w_, .inr (.inr (some (218, 0)))], S_)) rfl ?_
          refine sm_T_iald (n := 4096) rfl rfl (by omega) (by omega) ?_
          have bx29_ : (-1) ≤ S_.2.2.1 207 0 w_.toNat ∧ S_.2.2.1 207 0 w_.toNat ≤ 11 := hI_.2 207 0 _
          refine sm_T_go 3 (c1 := (343, [some (.inr (.inr (some (13, 0)))), some (.inl w_), some (.inl sz_), some (.inl vx9_), some (.inl vx27_), some (.inl (-1))], [.inl (-1), .inl vx27_, .inl vx9_, .inl (S_.2.2.1 207 0 w_.toNat), .inr (.inr (some (13, 0))), .inl w_, .inr (.inr (some (218, 0)))], S_)) rfl ?_
          refine sm_T_cal (d1 := 1) (Q1 := vq_410n (S_.2.2.1 207 0 w_.toNat) vx9_ vx27_ (-1) F_ N_ d_ gs_ (nts (fun k_ => mdr F_ S_ (rpv F_ S_ (jtk (jtos S_) (jtop S_)) k_)) (rpn S_ (jtk (jtos S_) (jtop S_)))) S_) rfl rfl (by decide) (vc_410n (S_.2.2.1 207 0 w_.toNat) vx9_ vx27_ (-1) F_ N_ d_ gs_ (nts (fun k_ => mdr F_ S_ (rpv F_ S_ (jtk (jtos S_) (jtop S_)) k_)) (rpn S_ (jtk (jtos S_) (jtop S_)))) S_ hI_ (by exact hgz_) (by (refine ⟨by (rw [nts_l, R39_.1]; omega), fun k_ x_ u_ => ?_, fun k_ u0_ u1_ => ?_⟩; have z9_ := nts_x u_; rw [R39_.1] at z9_; rw [z9_.2, R39_.2.1 k_, mdr_n (by (have y9_ := (W9_.2.2 (k_ : Int) (by omega) (by omega)).1.1; exact y9_)) (by omega)]; have K9_ : k_ = 0 ∨ k_ = 1 ∨ k_ = 2 := (by omega); rcases K9_ with K9_ | K9_ | K9_ <;> subst K9_; (show noi F_ S_ (S_.2.2.1 208 0 (3 * w_ + 0).toNat) (i_shr (S_.2.2.1 209 0 w_.toNat) 0 % 2) = _; rw [sh_.1, Int.add_zero, if_pos rfl, e252_.1]); (show noi F_ S_ (S_.2.2.1 208 0 (3 * w_ + 1).toNat) (i_shr (S_.2.2.1 209 0 w_.toNat) 1 % 2) = _; rw [sh_.2.1, if_neg (by decide), if_pos rfl]; first | (rw [e282_.1]) | (exfalso; omega)); (show noi F_ S_ (S_.2.2.1 208 0 (3 * w_ + 2).toNat) (i_shr (S_.2.2.1 209 0 w_.toNat) 2 % 2) = _; rw [sh_.2.2, if_neg (by decide), if_neg (by decide)]; first | (rw [e317_.1]) | (exfalso; omega)); (rw [nts_l, R39_.1] at u0_; have K9_ : k_ = 0 ∨ k_ = 1 ∨ k_ = 2 := (by omega); rcases K9_ with K9_ | K9_ | K9_ <;> subst K9_; (exfalso; omega); (first | (exfalso; omega) | (rw [if_neg (by decide), if_pos rfl])); (first | (exfalso; omega) | (rw [if_neg (by decide), if_neg (by decide)]))))) (by exact hd_) (by omega) (by omega) (by omega) (by (intro k9_ K9_ c9_ s9_; rcases K9_ with K9_ | K9_ <;> subst K9_; (rw [if_pos rfl]; omega); (rw [if_neg (by decide)]; omega))) (by exact hgs_.2.2.2)) (fun u_ Sx30_ px33_ => ?_)
          obtain ⟨vx35_, rfl, hIx31_, hFx32_, px33_⟩ := px33_
          have hFx34_ : ai_fr (sx_W vw_417n) S0_ Sx30_ := ai_fr_tr hF_ (fr_le hFx32_ rfl)
          have e343_ := (px33_).1
          have f343_ := hFx32_
          have z343_ := (px33_).2
          refine sm_T_iast (n := 4096) rfl rfl (by omega) (by omega) ?_
          have hIx36_ : gi (sm_aI Sx30_ 218 0 w_.toNat vx35_) := gi_aI hIx31_ (show (-2) ≤ vx35_ ∧ vx35_ ≤ 9000 from ⟨by omega, by omega⟩)
          have hFx37_ : ai_fr (sx_W vw_417n) S0_ (sm_aI Sx30_ 218 0 w_.toNat vx35_) := ai_fr_tr hFx34_ (ai_fr_aI rfl)
          refine sm_T_rv rfl ⟨_, _, rfl, rfl, hIx36_, hFx37_, ?_⟩
          refine ⟨?_, ?_⟩
          · rw [← h4_]
            exact wk_g (by assumption) hgs_ hjs_ (by omega) (by omega) f343_ ⟨tw_.1, tw_.2.1⟩ (by omega) e343_
          · rw [← h4_]
            have E9_ : (rgc S_ (jtk (jtos S_) (jtop S_)), (nts (fun k_ => mdr F_ S_ (rpv F_ S_ (jtk (jtos S_) (jtop S_)) k_)) (rpn S_ (jtk (jtos S_) (jtop S_))))) = (S_.2.2.1 207 0 w_.toNat, (nts (fun k_ => mdr F_ S_ (rpv F_ S_ (jtk (jtos S_) (jtop S_)) k_)) (rpn S_ (jtk (jtos S_) (jtop S_))))) := by rw [R39_.2.2]
            refine ⟨gs_ ++ [(S_.2.2.1 207 0 w_.toNat, (nts (fun k_ => mdr F_ S_ (rpv F_ S_ (jtk (jtos S_) (jtop S_)) k_)) (rpn S_ (jtk (jtos S_) (jtop S_)))))], rgz_fr (w_ := ([], [218], [])) z343_ (ai_fr_aI rfl), lck_a hlk_ (by (have y9_ := f343_.1 13 0 134 rfl; have x9_ := W9_.1; constructor; (intro q9_; left; rw [← y9_]; exact q9_); (rintro (q9_ | q9_); (rw [← y9_] at q9_; exact q9_); (exfalso; omega)))), ?_⟩
            rw [← E9_]
            refine kw_fin hj_ (jst_cg (f343_.1 13 0 137 rfl) ((rd_ne_ (by decide)).trans (fr_arr f343_ rfl)) ((rd_ne_ (by decide)).trans (fr_arr f343_ rfl))) ?_ B9_ (by omega) (fun j_ h_ => ?_)
            · have z9_ := mdr_g (F_ := F_) (w_ := w_) (S_ := S_) (S'_ := (sm_aI Sx30_ 218 0 w_.toNat vx35_)) (v_ := F_ - 1 + S_.1 13 0 129) tw_.1 (by omega) (fun j_ => by (rw [rd_eq, fr_arr (t := 218) (i := 0) f343_ rfl, e343_.1])) ((rd_ne_ (by decide)).trans (fr_arr f343_ rfl))
              rw [z9_, jt9_.1, jt9_.2, Z9_]
            · rw [R39_.1] at h_
              rw [R39_.2.1 j_, mdr_n (W9_.2.2 (j_ : Int) (by omega) (by omega)).1.1 (by omega)]
              exact h1_ (j_ : Int) (by omega) (by omega)
        · have cx28_ : ¬ (sz_ ≤ 2) := of_decide_eq_false cx28_
          refine sm_T_go 5 (c1 := (303, [some (.inr (.inr (some (13, 0)))), some (.inl w_), some (.inl sz_), some (.inl vx9_), some (.inl vx27_), none], [.inl w_, .inl 3, .inr (.inr (some (208, 0))), .inr (.inr (some (13, 0)))], S_)) rfl ?_
          refine sm_T_bin (w := 3 * w_) rfl (bi_mul (by omega) (by omega) (by omega)) ?_ -- pc_ 303
          refine sm_T_go 1 (c1 := (305, [some (.inr (.inr (some (13, 0)))), some (.inl w_), some (.inl sz_), some (.inl vx9_), some (.inl vx27_), none], [.inl 2, .inl (3 * w_), .inr (.inr (some (208, 0))), .inr (.inr (some (13, 0)))], S_)) rfl ?_
          refine sm_T_bin (w := 3 * w_ + 2) rfl (bi_add (by omega) (by omega) (by omega)) ?_ -- pc_ 305
          refine sm_T_iald (n := 12288) rfl rfl (by omega) (by omega) ?_
          have bx38_ : 0 ≤ S_.2.2.1 208 0 (3 * w_ + 2).toNat ∧ S_.2.2.1 208 0 (3 * w_ + 2).toNat ≤ 2047 := hI_.2 208 0 _
          refine sm_T_go 3 (c1 := (312, [some (.inr (.inr (some (13, 0)))), some (.inl w_), some (.inl sz_), some (.inl vx9_), some (.inl vx27_), none], [.inl w_, .inr (.inr (some (209, 0))), .inl (S_.2.2.1 208 0 (3 * w_ + 2).toNat), .inr (.inr (some (13, 0)))], S_)) rfl ?_
          refine sm_T_iald (n := 4096) rfl rfl (by omega) (by omega) ?_
          refine sm_T_go 1 (c1 := (314, [some (.inr (.inr (some (13, 0)))), some (.inl w_), some (.inl sz_), some (.inl vx9_), some (.inl vx27_), none], [.inl 2, .inl (S_.2.2.1 209 0 w_.toNat), .inl (S_.2.2.1 208 0 (3 * w_ + 2).toNat), .inr (.inr (some (13, 0)))], S_)) rfl ?_
          refine sm_T_bin (w := ((S_.2.2.1 209 0 w_.toNat) / 4)) rfl (bi_shr (k := 2) (by decide) (by omega) (by omega)) ?_ -- pc_ 314
          refine sm_T_go 1 (c1 := (316, [some (.inr (.inr (some (13, 0)))), some (.inl w_), some (.inl sz_), some (.inl vx9_), some (.inl vx27_), none], [.inl 1, .inl ((S_.2.2.1 209 0 w_.toNat) / 4), .inl (S_.2.2.1 208 0 (3 * w_ + 2).toNat), .inr (.inr (some (13, 0)))], S_)) rfl ?_
          refine sm_T_bin (w := (((S_.2.2.1 209 0 w_.toNat) / 4) % 2)) rfl (bi_msk (k := 1) (by decide)) ?_ -- pc_ 316
          refine sm_T_cal (d1 := 2) (Q1 := vq_415 (S_.2.2.1 208 0 (3 * w_ + 2).toNat) (((S_.2.2.1 209 0 w_.toNat) / 4) % 2) F_ S_) rfl rfl (by decide) (vc_415 (S_.2.2.1 208 0 (3 * w_ + 2).toNat) (((S_.2.2.1 209 0 w_.toNat) / 4) % 2) F_ S_ hI_ (by exact f160_) (by (have y9_ := M2_ (by omega); omega))) (fun u_ Sx39_ px42_ => ?_)
          obtain ⟨rfl, vx44_, rfl, px42_⟩ := px42_
          have e317_ := px42_
          have y317_ := M2_ (by omega)
          refine sm_T_go 9 (c1 := (337, [some (.inr (.inr (some (13, 0)))), some (.inl w_), some (.inl sz_), some (.inl vx9_), some (.inl vx27_), some (.inl vx44_)], [.inl w_, .inr (.inr (some (207, 0))), .inr (.inr (some (13, 0))), .inl w_, .inr (.inr (some (218, 0)))], S_)) rfl ?_
          refine sm_T_iald (n := 4096) rfl rfl (by omega) (by omega) ?_
          have bx45_ : (-1) ≤ S_.2.2.1 207 0 w_.toNat ∧ S_.2.2.1 207 0 w_.toNat ≤ 11 := hI_.2 207 0 _
          refine sm_T_go 3 (c1 := (343, [some (.inr (.inr (some (13, 0)))), some (.inl w_), some (.inl sz_), some (.inl vx9_), some (.inl vx27_), some (.inl vx44_)], [.inl vx44_, .inl vx27_, .inl vx9_, .inl (S_.2.2.1 207 0 w_.toNat), .inr (.inr (some (13, 0))), .inl w_, .inr (.inr (some (218, 0)))], S_)) rfl ?_
          refine sm_T_cal (d1 := 1) (Q1 := vq_410n (S_.2.2.1 207 0 w_.toNat) vx9_ vx27_ vx44_ F_ N_ d_ gs_ (nts (fun k_ => mdr F_ S_ (rpv F_ S_ (jtk (jtos S_) (jtop S_)) k_)) (rpn S_ (jtk (jtos S_) (jtop S_)))) S_) rfl rfl (by decide) (vc_410n (S_.2.2.1 207 0 w_.toNat) vx9_ vx27_ vx44_ F_ N_ d_ gs_ (nts (fun k_ => mdr F_ S_ (rpv F_ S_ (jtk (jtos S_) (jtop S_)) k_)) (rpn S_ (jtk (jtos S_) (jtop S_)))) S_ hI_ (by exact hgz_) (by (refine ⟨by (rw [nts_l, R39_.1]; omega), fun k_ x_ u_ => ?_, fun k_ u0_ u1_ => ?_⟩; have z9_ := nts_x u_; rw [R39_.1] at z9_; rw [z9_.2, R39_.2.1 k_, mdr_n (by (have y9_ := (W9_.2.2 (k_ : Int) (by omega) (by omega)).1.1; exact y9_)) (by omega)]; have K9_ : k_ = 0 ∨ k_ = 1 ∨ k_ = 2 := (by omega); rcases K9_ with K9_ | K9_ | K9_ <;> subst K9_; (show noi F_ S_ (S_.2.2.1 208 0 (3 * w_ + 0).toNat) (i_shr (S_.2.2.1 209 0 w_.toNat) 0 % 2) = _; rw [sh_.1, Int.add_zero, if_pos rfl, e252_.1]); (show noi F_ S_ (S_.2.2.1 208 0 (3 * w_ + 1).toNat) (i_shr (S_.2.2.1 209 0 w_.toNat) 1 % 2) = _; rw [sh_.2.1, if_neg (by decide), if_pos rfl]; first | (rw [e282_.1]) | (exfalso; omega)); (show noi F_ S_ (S_.2.2.1 208 0 (3 * w_ + 2).toNat) (i_shr (S_.2.2.1 209 0 w_.toNat) 2 % 2) = _; rw [sh_.2.2, if_neg (by decide), if_neg (by decide)]; first | (rw [e317_.1]) | (exfalso; omega)); (rw [nts_l, R39_.1] at u0_; have K9_ : k_ = 0 ∨ k_ = 1 ∨ k_ = 2 := (by omega); rcases K9_ with K9_ | K9_ | K9_ <;> subst K9_; (exfalso; omega); (first | (exfalso; omega) | (rw [if_neg (by decide), if_pos rfl])); (first | (exfalso; omega) | (rw [if_neg (by decide), if_neg (by decide)]))))) (by exact hd_) (by omega) (by omega) (by omega) (by (intro k9_ K9_ c9_ s9_; rcases K9_ with K9_ | K9_ <;> subst K9_; (rw [if_pos rfl]; omega); (rw [if_neg (by decide)]; omega))) (by exact hgs_.2.2.2)) (fun u_ Sx46_ px49_ => ?_)
          obtain ⟨vx51_, rfl, hIx47_, hFx48_, px49_⟩ := px49_
          have hFx50_ : ai_fr (sx_W vw_417n) S0_ Sx46_ := ai_fr_tr hF_ (fr_le hFx48_ rfl)
          have e343_ := (px49_).1
          have f343_ := hFx48_
          have z343_ := (px49_).2
          refine sm_T_iast (n := 4096) rfl rfl (by omega) (by omega) ?_
          have hIx52_ : gi (sm_aI Sx46_ 218 0 w_.toNat vx51_) := gi_aI hIx47_ (show (-2) ≤ vx51_ ∧ vx51_ ≤ 9000 from ⟨by omega, by omega⟩)
          have hFx53_ : ai_fr (sx_W vw_417n) S0_ (sm_aI Sx46_ 218 0 w_.toNat vx51_) := ai_fr_tr hFx50_ (ai_fr_aI rfl)
          refine sm_T_rv rfl ⟨_, _, rfl, rfl, hIx52_, hFx53_, ?_⟩
          refine ⟨?_, ?_⟩
          · rw [← h4_]
            exact wk_g (by assumption) hgs_ hjs_ (by omega) (by omega) f343_ ⟨tw_.1, tw_.2.1⟩ (by omega) e343_
          · rw [← h4_]
            have E9_ : (rgc S_ (jtk (jtos S_) (jtop S_)), (nts (fun k_ => mdr F_ S_ (rpv F_ S_ (jtk (jtos S_) (jtop S_)) k_)) (rpn S_ (jtk (jtos S_) (jtop S_))))) = (S_.2.2.1 207 0 w_.toNat, (nts (fun k_ => mdr F_ S_ (rpv F_ S_ (jtk (jtos S_) (jtop S_)) k_)) (rpn S_ (jtk (jtos S_) (jtop S_))))) := by rw [R39_.2.2]
            refine ⟨gs_ ++ [(S_.2.2.1 207 0 w_.toNat, (nts (fun k_ => mdr F_ S_ (rpv F_ S_ (jtk (jtos S_) (jtop S_)) k_)) (rpn S_ (jtk (jtos S_) (jtop S_)))))], rgz_fr (w_ := ([], [218], [])) z343_ (ai_fr_aI rfl), lck_a hlk_ (by (have y9_ := f343_.1 13 0 134 rfl; have x9_ := W9_.1; constructor; (intro q9_; left; rw [← y9_]; exact q9_); (rintro (q9_ | q9_); (rw [← y9_] at q9_; exact q9_); (exfalso; omega)))), ?_⟩
            rw [← E9_]
            refine kw_fin hj_ (jst_cg (f343_.1 13 0 137 rfl) ((rd_ne_ (by decide)).trans (fr_arr f343_ rfl)) ((rd_ne_ (by decide)).trans (fr_arr f343_ rfl))) ?_ B9_ (by omega) (fun j_ h_ => ?_)
            · have z9_ := mdr_g (F_ := F_) (w_ := w_) (S_ := S_) (S'_ := (sm_aI Sx46_ 218 0 w_.toNat vx51_)) (v_ := F_ - 1 + S_.1 13 0 129) tw_.1 (by omega) (fun j_ => by (rw [rd_eq, fr_arr (t := 218) (i := 0) f343_ rfl, e343_.1])) ((rd_ne_ (by decide)).trans (fr_arr f343_ rfl))
              rw [z9_, jt9_.1, jt9_.2, Z9_]
            · rw [R39_.1] at h_
              rw [R39_.2.1 j_, mdr_n (W9_.2.2 (j_ : Int) (by omega) (by omega)).1.1 (by omega)]
              exact h1_ (j_ : Int) (by omega) (by omega)
    · have cx1_ : ¬ (sz_ ≤ k_) := of_decide_eq_false cx1_
      have I9_ := W9_.2.2 k_ (by omega) (by omega)
      have i1_ := I9_.1.1
      have i2_ := I9_.1.2.1
      have i3_ := I9_.1.2.2
      have i4_ := I9_.2
      have q2k : (2 * S_.2.2.1 208 0 (3 * w_ + k_).toNat + i_shr (S_.2.2.1 209 0 w_.toNat) k_ % 2) / 2 = S_.2.2.1 208 0 (3 * w_ + k_).toNat := by omega
      refine sm_T_go 3 (c1 := (185, [some (.inr (.inr (some (13, 0)))), some (.inl w_), some (.inl sz_), some (.inl k_), none, none], [.inl w_, .inr (.inr (some (209, 0)))], S_)) rfl ?_
      refine sm_T_iald (n := 4096) rfl rfl (by omega) (by omega) ?_
      have bx54_ : 0 ≤ S_.2.2.1 209 0 w_.toNat ∧ S_.2.2.1 209 0 w_.toNat ≤ 7 := hI_.2 209 0 _
      refine sm_T_go 1 (c1 := (187, [some (.inr (.inr (some (13, 0)))), some (.inl w_), some (.inl sz_), some (.inl k_), none, none], [.inl k_, .inl (S_.2.2.1 209 0 w_.toNat)], S_)) rfl ?_
      refine sm_T_bin (w := (i_shr (S_.2.2.1 209 0 w_.toNat) k_)) rfl rfl ?_ -- pc_ 187
      refine sm_T_go 1 (c1 := (189, [some (.inr (.inr (some (13, 0)))), some (.inl w_), some (.inl sz_), some (.inl k_), none, none], [.inl 1, .inl (i_shr (S_.2.2.1 209 0 w_.toNat) k_)], S_)) rfl ?_
      refine sm_T_bin (w := ((i_shr (S_.2.2.1 209 0 w_.toNat) k_) % 2)) rfl (bi_msk (k := 1) (by decide)) ?_ -- pc_ 189
      refine sm_T_go 6 (c1 := (199, [some (.inr (.inr (some (13, 0)))), some (.inl w_), some (.inl sz_), some (.inl k_), some (.inl ((i_shr (S_.2.2.1 209 0 w_.toNat) k_) % 2)), none], [.inl w_, .inl 3, .inr (.inr (some (208, 0))), .inr (.inr (some (13, 0)))], S_)) rfl ?_
      refine sm_T_bin (w := 3 * w_) rfl (bi_mul (by omega) (by omega) (by omega)) ?_ -- pc_ 199
      refine sm_T_go 1 (c1 := (201, [some (.inr (.inr (some (13, 0)))), some (.inl w_), some (.inl sz_), some (.inl k_), some (.inl ((i_shr (S_.2.2.1 209 0 w_.toNat) k_) % 2)), none], [.inl k_, .inl (3 * w_), .inr (.inr (some (208, 0))), .inr (.inr (some (13, 0)))], S_)) rfl ?_
      refine sm_T_bin (w := 3 * w_ + k_) rfl (bi_add (by omega) (by omega) (by omega)) ?_ -- pc_ 201
      refine sm_T_iald (n := 12288) rfl rfl (by omega) (by omega) ?_
      have bx55_ : 0 ≤ S_.2.2.1 208 0 (3 * w_ + k_).toNat ∧ S_.2.2.1 208 0 (3 * w_ + k_).toNat ≤ 2047 := hI_.2 208 0 _
      refine sm_T_go 1 (c1 := (205, [some (.inr (.inr (some (13, 0)))), some (.inl w_), some (.inl sz_), some (.inl k_), some (.inl ((i_shr (S_.2.2.1 209 0 w_.toNat) k_) % 2)), none], [.inl ((i_shr (S_.2.2.1 209 0 w_.toNat) k_) % 2), .inl (S_.2.2.1 208 0 (3 * w_ + k_).toNat), .inr (.inr (some (13, 0)))], S_)) rfl ?_
      refine sm_T_cal (d1 := 2) (Q1 := vq_415 (S_.2.2.1 208 0 (3 * w_ + k_).toNat) ((i_shr (S_.2.2.1 209 0 w_.toNat) k_) % 2) F_ S_) rfl rfl (by decide) (vc_415 (S_.2.2.1 208 0 (3 * w_ + k_).toNat) ((i_shr (S_.2.2.1 209 0 w_.toNat) k_) % 2) F_ S_ hI_ (by exact f160_) (by omega)) (fun u_ Sx56_ px59_ => ?_)
      obtain ⟨rfl, vx61_, rfl, px59_⟩ := px59_
      have e205_ := px59_
      refine sm_T_go 1 (c1 := (209, [some (.inr (.inr (some (13, 0)))), some (.inl w_), some (.inl sz_), some (.inl k_), some (.inl ((i_shr (S_.2.2.1 209 0 w_.toNat) k_) % 2)), none], [.inl (-1), .inl vx61_], S_)) rfl ?_
      refine sm_T_br (a := 1) (z := 20) rfl (fun cx62_ => ?_) (fun cx62_ => ?_)
      · have cx62_ : vx61_ ≠ (-1) := of_decide_eq_true cx62_
        refine sm_T_inc (a := 3) (z := 1) (v := k_) (w := k_ + 1) rfl rfl (by omega) (by omega) (by omega) ?_ -- pc_ 229
        refine sm_T_go 1 (c1 := (175, [some (.inr (.inr (some (13, 0)))), some (.inl w_), some (.inl sz_), some (.inl (k_ + 1)), some (.inl ((i_shr (S_.2.2.1 209 0 w_.toNat) k_) % 2)), none], [], S_)) rfl ?_
        refine sm_T_wk [some (.inr (.inr (some (13, 0)))), some (.inl w_), some (.inl sz_), some (.inl (k_ + 1)), none, none] (by exact ⟨rfl, rfl, rfl, rfl, trivial⟩) ?_
        refine ih_ w_ sz_ (k_ + 1) S_ hI_ hF_ ⟨?_, ?_, ?_, trivial⟩ ?_
        · exact h4_
        · rw [← h4_]
          omega
        · rw [← h4_]
          intro j9_ u0_ u1_
          by_cases z9_ : j9_ = k_
          · rw [z9_, ← e205_.1]; omega
          · exact h1_ j9_ u0_ (by omega)
        · omega
      · have cx62_ : ¬ (vx61_ ≠ (-1)) := of_decide_eq_false cx62_
        refine sm_T_go 5 (c1 := (219, [some (.inr (.inr (some (13, 0)))), some (.inl w_), some (.inl sz_), some (.inl k_), some (.inl ((i_shr (S_.2.2.1 209 0 w_.toNat) k_) % 2)), none], [.inl w_, .inl 3, .inr (.inr (some (208, 0))), .inr (.inr (some (13, 0)))], S_)) rfl ?_
        refine sm_T_bin (w := 3 * w_) rfl (bi_mul (by omega) (by omega) (by omega)) ?_ -- pc_ 219
        refine sm_T_go 1 (c1 := (221, [some (.inr (.inr (some (13, 0)))), some (.inl w_), some (.inl sz_), some (.inl k_), some (.inl ((i_shr (S_.2.2.1 209 0 w_.toNat) k_) % 2)), none], [.inl k_, .inl (3 * w_), .inr (.inr (some (208, 0))), .inr (.inr (some (13, 0)))], S_)) rfl ?_
        refine sm_T_bin (w := 3 * w_ + k_) rfl (bi_add (by omega) (by omega) (by omega)) ?_ -- pc_ 221
        refine sm_T_iald (n := 12288) rfl rfl (by omega) (by omega) ?_
        refine sm_T_go 1 (c1 := (225, [some (.inr (.inr (some (13, 0)))), some (.inl w_), some (.inl sz_), some (.inl k_), some (.inl ((i_shr (S_.2.2.1 209 0 w_.toNat) k_) % 2)), none], [.inl ((i_shr (S_.2.2.1 209 0 w_.toNat) k_) % 2), .inl (S_.2.2.1 208 0 (3 * w_ + k_).toNat), .inr (.inr (some (13, 0)))], S_)) rfl ?_
        refine sm_T_cal (d1 := 2) (Q1 := vq_416 (S_.2.2.1 208 0 (3 * w_ + k_).toNat) ((i_shr (S_.2.2.1 209 0 w_.toNat) k_) % 2) F_ S_) rfl rfl (by decide) (vc_416 (S_.2.2.1 208 0 (3 * w_ + k_).toNat) ((i_shr (S_.2.2.1 209 0 w_.toNat) k_) % 2) F_ S_ hI_ (by exact f160_) (by omega) (by omega)) (fun u_ Sx63_ px66_ => ?_)
        obtain ⟨rfl, hIx64_, hFx65_, px66_⟩ := px66_
        have hFx67_ : ai_fr (sx_W vw_417n) S0_ Sx63_ := ai_fr_tr hF_ (fr_le hFx65_ rfl)
        have e225_ := px66_
        have f225_ := hFx65_
        refine sm_T_rv rfl ⟨_, _, rfl, rfl, hIx64_, hFx67_, ?_⟩
        refine ⟨?_, ?_⟩
        · rw [← h4_]
          rcases e225_ with e9_ | e9_
          · exact wk_push hI_ hgs_ hjs_ hj_ (by omega) e9_.2.2 f225_ (Or.inl ⟨rfl, by omega, by omega, i3_, by (rcases e9_.1 with y9_ | y9_; exact Or.inl y9_; (by_cases b9_ : S_.2.2.1 208 0 (3 * w_ + k_).toNat < F_; exact Or.inl b9_; exact Or.inr ⟨y9_, hgd_ _ (by omega) (by omega) i3_ y9_⟩))⟩) (by (rw [rk9_]; unfold jrk; rw [if_pos rfl]; omega)) nd9_ (by (unfold jdn; have z9_ := e205_.1; unfold noi at z9_; rw [if_neg (by omega), if_neg (by omega)] at z9_; omega))
          · by_cases A9_ : F_ ≤ S_.2.2.1 208 0 (3 * w_ + k_).toNat ∧ S_.2.2.1 203 0 (S_.2.2.1 208 0 (3 * w_ + k_).toNat).toNat = 0
            · have z9_ := e205_.1
              unfold noi at z9_
              unfold cst at i4_
              rw [if_pos A9_] at z9_ i4_
              have c9_ : S_.2.2.1 211 0 (2 * S_.2.2.1 208 0 (3 * w_ + k_).toNat + i_shr (S_.2.2.1 209 0 w_.toNat) k_ % 2).toNat ≤ 1 := (hI_.2 211 0 _).2
              exact wk_push hI_ hgs_ hjs_ hj_ (by omega) e9_.2 f225_ (Or.inr ⟨rfl, by omega, by omega, by (rw [q2k]; exact i3_), i4_⟩) (by (rw [rk9_]; unfold jrk; rw [if_neg (by decide), q2k]; omega)) nd9_ (by (unfold jdn; omega))
            · have t9_ : i_shr (S_.2.2.1 209 0 w_.toNat) k_ % 2 = 0 := by omega
              have z9_ := e205_.1
              unfold noi at z9_
              rw [if_neg A9_, if_pos t9_] at z9_
              unfold lnf at z9_
              have F9_ : ¬ (S_.2.2.1 208 0 (3 * w_ + k_).toNat < F_) := fun F9_ => by (rw [if_pos F9_] at z9_; omega)
              rw [if_neg F9_] at z9_
              have e8_ := e9_.2
              rw [t9_, Int.add_zero] at e8_
              have b3_ : 0 ≤ S_.2.2.1 203 0 (S_.2.2.1 208 0 (3 * w_ + k_).toNat).toNat ∧ S_.2.2.1 203 0 (S_.2.2.1 208 0 (3 * w_ + k_).toNat).toNat ≤ 1 := hI_.2 203 0 _
              have q9_ : 2 * S_.2.2.1 208 0 (3 * w_ + k_).toNat / 2 = S_.2.2.1 208 0 (3 * w_ + k_).toNat := by omega
              have c9_ : S_.2.2.1 211 0 (2 * S_.2.2.1 208 0 (3 * w_ + k_).toNat).toNat ≤ 1 := (hI_.2 211 0 _).2
              exact wk_push hI_ hgs_ hjs_ hj_ (by omega) e8_ f225_ (Or.inr ⟨rfl, by omega, by omega, by (rw [q9_]; exact i3_), hgd_ _ (by omega) (by omega) i3_ (by omega)⟩) (by (rw [rk9_]; unfold jrk; rw [if_neg (by decide), q9_]; omega)) nd9_ (by (unfold jdn; omega))
        · rw [← h4_]
          have PV9_ := R39_.2.1 k_.toNat
          rw [show ((k_.toNat : Nat) : Int) = k_ by omega] at PV9_
          have PK9_ : ∀ s9_ w9_ : Int, jap s9_ w9_ S_ Sx63_ → (ltk F_ S_ (S_.2.2.1 208 0 (3 * w_ + k_).toNat) (i_shr (S_.2.2.1 209 0 w_.toNat) k_ % 2)).toNat = jtk s9_ w9_ → gsr (rpn S_) (rpv F_ S_) (rgc S_) (F_ - 1) 4000 (jst Sx63_) (mdr F_ Sx63_, gs_) = gsr (rpn S_) (rpv F_ S_) (rgc S_) (F_ - 1) 4000 (jst S_) (mdr F_ S_, gs_) := fun s9_ w9_ a9_ q9_ => kw_push (k_ := k_.toNat) B9_ GD9_ hj_ a9_ (fr_arr f225_ rfl) (fr_arr f225_ rfl) GU9_ IJ9_ RU9_ (by omega) (by (rw [R39_.1]; omega)) (by (rw [PV9_, q9_])) (fun j_ h_ => by (rw [R39_.2.1 j_, mdr_n (W9_.2.2 (j_ : Int) (by omega) (by omega)).1.1 (by omega)]; exact h1_ (j_ : Int) (by omega) (by omega)))
          refine ⟨gs_, rgz_fr hgz_ f225_, by (unfold lck; rw [f225_.1 13 0 134 rfl]; exact hlk_), ?_⟩
          rcases e225_ with e9_ | e9_
          · refine PK9_ _ _ e9_.2.2 ?_
            rw [jtk_1]
            unfold ltk
            have b3_ := e9_.2.1
            rw [b3_, if_pos (by (rcases e9_.1 with q9_ | q9_; exact Or.inl q9_; exact Or.inr (by omega)))]
            try omega
          · refine PK9_ _ _ e9_.2 ?_
            rw [jtk_0]
            unfold ltk
            split
            · rename_i q9_
              have t9_ : i_shr (S_.2.2.1 209 0 w_.toNat) k_ % 2 = 0 := by (rcases e9_.1 with y9_ | y9_; (exfalso; rcases q9_ with q9_ | q9_; omega; exact q9_ y9_.2); exact y9_)
              omega
            · omega
set_option maxHeartbeats 4000000 in
set_option maxRecDepth 20000 in
theorem vc_417n {sc_ : Nat × (Nat → Int)} (F_ : Int) (N_ : Int) (d_ : Int) (gs_ : List (Int × List Int)) (S0_ : sm_S) (hI_ : gi S0_) (hd_ : dmp F_ N_ d_ S0_) (hal_ : wal9 F_ N_ S0_) (hgd_ : gdr F_ N_ S0_) (hiv_ : (S0_.1 13 0 107) = -1 ∨ S0_.2.2.1 185 0 (12 * S0_.1 13 0 106 + S0_.1 13 0 107).toNat = 1) (hgs_ : gst F_ N_ S0_) (hjs_ : jsk F_ N_ S0_) (hj_ : 1 ≤ (S0_.1 13 0 137)) (hgz_ : rgz S0_ gs_) (hlk_ : lck S0_ gs_) : sm_T (mt_P sc_) 3 417 (0, [some (.inr (.inr (some (13, 0)))), none, none, none, none, none], [], S0_) (fun ro9_ => ∃ u_ S1_, ro9_ = (.inl u_, S1_, 0) ∧ vq_417n F_ N_ d_ gs_ S0_ u_ S1_) := by
  have hF_ : ai_fr (sx_W vw_417n) S0_ S0_ := ai_fr_rf
  have d1_ := hd_.1
  have tj_ := hjs_ (S0_.1 13 0 137 - 1) (by omega) (by omega)
  have tg_ := tj_.1
  have f160_ : S0_.2.2.1 160 0 (S0_.1 13 0 105).toNat = F_ := by (rw [d1_.2.2.1]; exact d1_.2.2.2.1)
  have jc_ := jsk_c hI_ hjs_ (by omega)
  have g0_ := hgs_.1
  have cw : 0 ≤ S0_.2.2.1 220 0 (S0_.1 13 0 137 - 1).toNat ∧ S0_.2.2.1 220 0 (S0_.1 13 0 137 - 1).toNat ≤ 4095 := hI_.2 220 0 _
  have cs_ : 0 ≤ S0_.2.2.1 221 0 (S0_.1 13 0 137 - 1).toNat ∧ S0_.2.2.1 221 0 (S0_.1 13 0 137 - 1).toNat ≤ 1 := hI_.2 221 0 _
  have GD9_ := gdg_r hI_ hal_ hgd_ (by omega)
  have IJ9_ : ∀ x_, cin F_ x_ → mdr F_ S0_ x_ ≠ -1 := fun x_ hx_ => mdr_i hx_
  have tg8_ : jgd F_ N_ S0_ (jtos S0_) (jtop S0_) := tg_
  have GU9_ : rgk F_ N_ S0_ (jtk (jtos S0_) (jtop S0_)) := Or.inl ⟨_, _, tg8_, rfl⟩
  have UB9_ := jtk_b tg8_ (by omega) (by omega)
  have RU9_ : rrk S0_ (jtk (jtos S0_) (jtop S0_)) < 4000 := rrk_b UB9_.1
  have MU9_ := mdr_j tg8_ (by omega)
  have B9_ : 0 ≤ F_ - 1 := by omega
  have Z9_ := hgz_.1
  have bx1_ : 0 ≤ S0_.1 13 0 137 ∧ S0_.1 13 0 137 ≤ 8191 := hI_.1 13 0 137 rfl
  refine sm_T_go 5 (c1 := (9, [some (.inr (.inr (some (13, 0)))), none, none, none, none, none], [.inl 1, .inl (S0_.1 13 0 137), .inr (.inr (some (220, 0)))], S0_)) rfl ?_
  refine sm_T_bin (w := (S0_.1 13 0 137) - 1) rfl (bi_sub (by omega) (by omega) (by omega)) ?_ -- pc_ 9
  refine sm_T_iald (n := 8192) rfl rfl (by omega) (by omega) ?_
  have bx2_ : 0 ≤ S0_.2.2.1 220 0 ((S0_.1 13 0 137) - 1).toNat ∧ S0_.2.2.1 220 0 ((S0_.1 13 0 137) - 1).toNat ≤ 4095 := hI_.2 220 0 _
  refine sm_T_go 6 (c1 := (21, [some (.inr (.inr (some (13, 0)))), some (.inl (S0_.2.2.1 220 0 ((S0_.1 13 0 137) - 1).toNat)), none, none, none, none], [.inl 1, .inl (S0_.1 13 0 137), .inr (.inr (some (221, 0)))], S0_)) rfl ?_
  refine sm_T_bin (w := (S0_.1 13 0 137) - 1) rfl (bi_sub (by omega) (by omega) (by omega)) ?_ -- pc_ 21
  refine sm_T_iald (n := 8192) rfl rfl (by omega) (by omega) ?_
  have bx3_ : 0 ≤ S0_.2.2.1 221 0 ((S0_.1 13 0 137) - 1).toNat ∧ S0_.2.2.1 221 0 ((S0_.1 13 0 137) - 1).toNat ≤ 1 := hI_.2 221 0 _
  refine sm_T_go 1 (c1 := (24, [some (.inr (.inr (some (13, 0)))), some (.inl (S0_.2.2.1 220 0 ((S0_.1 13 0 137) - 1).toNat)), none, none, none, none], [.inl 1, .inl (S0_.2.2.1 221 0 ((S0_.1 13 0 137) - 1).toNat)], S0_)) rfl ?_
  refine sm_T_br (a := 1) (z := 62) rfl (fun cx4_ => ?_) (fun cx4_ => ?_)
  · have cx4_ : (S0_.2.2.1 221 0 ((S0_.1 13 0 137) - 1).toNat) ≠ 1 := of_decide_eq_true cx4_
    have t0_ : 2 * F_ ≤ (S0_.2.2.1 220 0 (S0_.1 13 0 137 - 1).toNat) ∧ (S0_.2.2.1 220 0 (S0_.1 13 0 137 - 1).toNat) < 2 * N_ ∧ S0_.2.2.1 202 0 ((S0_.2.2.1 220 0 (S0_.1 13 0 137 - 1).toNat) / 2).toNat = 1 ∧ S0_.2.2.1 210 0 (S0_.2.2.1 220 0 (S0_.1 13 0 137 - 1).toNat).toNat < 1000000000 := by (rcases tg_ with y9_ | y9_; (exfalso; omega); exact y9_.2)
    have W8_ := wk_way hI_ hal_ (by omega) t0_
    have x1_ := i_x1 (x_ := (S0_.2.2.1 220 0 (S0_.1 13 0 137 - 1).toNat)) (by omega)
    have qx2_ : i_xor (S0_.2.2.1 220 0 (S0_.1 13 0 137 - 1).toNat) 1 / 2 = (S0_.2.2.1 220 0 (S0_.1 13 0 137 - 1).toNat) / 2 := by omega
    refine sm_T_go 3 (c1 := (91, [some (.inr (.inr (some (13, 0)))), some (.inl (S0_.2.2.1 220 0 ((S0_.1 13 0 137) - 1).toNat)), none, none, none, none], [.inl (S0_.2.2.1 220 0 ((S0_.1 13 0 137) - 1).toNat), .inr (.inr (some (218, 0)))], S0_)) rfl ?_
    refine sm_T_iald (n := 4096) rfl rfl (by omega) (by omega) ?_
    have bx5_ : (-2) ≤ S0_.2.2.1 218 0 (S0_.2.2.1 220 0 ((S0_.1 13 0 137) - 1).toNat).toNat ∧ S0_.2.2.1 218 0 (S0_.2.2.1 220 0 ((S0_.1 13 0 137) - 1).toNat).toNat ≤ 9000 := hI_.2 218 0 _
    refine sm_T_go 1 (c1 := (93, [some (.inr (.inr (some (13, 0)))), some (.inl (S0_.2.2.1 220 0 ((S0_.1 13 0 137) - 1).toNat)), none, none, none, none], [.inl (-1), .inl (S0_.2.2.1 218 0 (S0_.2.2.1 220 0 ((S0_.1 13 0 137) - 1).toNat).toNat)], S0_)) rfl ?_
    refine sm_T_br (a := 0) (z := 14) rfl (fun cx6_ => ?_) (fun cx6_ => ?_)
    · have cx6_ : (S0_.2.2.1 218 0 (S0_.2.2.1 220 0 ((S0_.1 13 0 137) - 1).toNat).toNat) = (-1) := of_decide_eq_true cx6_
      refine sm_T_go 3 (c1 := (112, [some (.inr (.inr (some (13, 0)))), some (.inl (S0_.2.2.1 220 0 ((S0_.1 13 0 137) - 1).toNat)), none, none, none, none], [.inl (S0_.2.2.1 220 0 ((S0_.1 13 0 137) - 1).toNat), .inr (.inr (some (211, 0)))], S0_)) rfl ?_
      refine sm_T_zald (n := 4096) rfl rfl (by omega) (by omega) ?_
      have bx7_ : 0 ≤ S0_.2.2.1 211 0 (S0_.2.2.1 220 0 ((S0_.1 13 0 137) - 1).toNat).toNat ∧ S0_.2.2.1 211 0 (S0_.2.2.1 220 0 ((S0_.1 13 0 137) - 1).toNat).toNat ≤ 1 := hI_.2 211 0 _
      refine sm_T_b0 (a := 0) (z := 40) rfl (fun cx8_ => ?_) (fun cx8_ => ?_)
      · have cx8_ : (S0_.2.2.1 211 0 (S0_.2.2.1 220 0 ((S0_.1 13 0 137) - 1).toNat).toNat) = 0 := of_decide_eq_true cx8_
        have bx9_ : 0 ≤ S0_.1 13 0 106 ∧ S0_.1 13 0 106 ≤ 2 := hI_.1 13 0 106 rfl
        refine sm_T_go 5 (c1 := (163, [some (.inr (.inr (some (13, 0)))), some (.inl (S0_.2.2.1 220 0 ((S0_.1 13 0 137) - 1).toNat)), none, none, none, none], [.inl (S0_.1 13 0 106), .inl 12, .inr (.inr (some (185, 0)))], S0_)) rfl ?_
        refine sm_T_bin (w := 12 * (S0_.1 13 0 106)) rfl (bi_mul (by omega) (by omega) (by omega)) ?_ -- pc_ 163
        refine sm_T_go 3 (c1 := (169, [some (.inr (.inr (some (13, 0)))), some (.inl (S0_.2.2.1 220 0 ((S0_.1 13 0 137) - 1).toNat)), none, none, none, none], [.inl (S0_.2.2.1 220 0 ((S0_.1 13 0 137) - 1).toNat), .inr (.inr (some (207, 0))), .inl (12 * (S0_.1 13 0 106)), .inr (.inr (some (185, 0)))], S0_)) rfl ?_
        refine sm_T_iald (n := 4096) rfl rfl (by omega) (by omega) ?_
        have bx10_ : (-1) ≤ S0_.2.2.1 207 0 (S0_.2.2.1 220 0 ((S0_.1 13 0 137) - 1).toNat).toNat ∧ S0_.2.2.1 207 0 (S0_.2.2.1 220 0 ((S0_.1 13 0 137) - 1).toNat).toNat ≤ 11 := hI_.2 207 0 _
        refine sm_T_bin (w := 12 * (S0_.1 13 0 106) + (S0_.2.2.1 207 0 (S0_.2.2.1 220 0 ((S0_.1 13 0 137) - 1).toNat).toNat)) rfl (bi_add (by omega) (by omega) (by omega)) ?_ -- pc_ 170
        refine sm_T_iald (n := 36) rfl rfl (by omega) (by omega) ?_
        have bx11_ : 0 ≤ S0_.2.2.1 185 0 (12 * (S0_.1 13 0 106) + (S0_.2.2.1 207 0 (S0_.2.2.1 220 0 ((S0_.1 13 0 137) - 1).toNat).toNat)).toNat ∧ S0_.2.2.1 185 0 (12 * (S0_.1 13 0 106) + (S0_.2.2.1 207 0 (S0_.2.2.1 220 0 ((S0_.1 13 0 137) - 1).toNat).toNat)).toNat ≤ 3 := hI_.2 185 0 _
        refine sm_T_go 3 (c1 := (175, [some (.inr (.inr (some (13, 0)))), some (.inl (S0_.2.2.1 220 0 ((S0_.1 13 0 137) - 1).toNat)), some (.inl (S0_.2.2.1 185 0 (12 * (S0_.1 13 0 106) + (S0_.2.2.1 207 0 (S0_.2.2.1 220 0 ((S0_.1 13 0 137) - 1).toNat).toNat)).toNat)), some (.inl 0), none, none], [], S0_)) rfl ?_
        refine (vl_417n F_ N_ d_ gs_ S0_ hd_ hal_ hgd_ hiv_ hgs_ hjs_ hj_ hgz_ hlk_ _) (S0_.2.2.1 220 0 ((S0_.1 13 0 137) - 1).toNat) (S0_.2.2.1 185 0 (12 * (S0_.1 13 0 106) + (S0_.2.2.1 207 0 (S0_.2.2.1 220 0 ((S0_.1 13 0 137) - 1).toNat).toNat)).toNat) 0 S0_ hI_ hF_ ⟨?_, ?_, ?_, trivial⟩ (Nat.lt_succ_self _)
        · rfl
        · omega
        · (intro j9_ u0_ u1_; exfalso; omega)
      · have cx8_ : ¬ ((S0_.2.2.1 211 0 (S0_.2.2.1 220 0 ((S0_.1 13 0 137) - 1).toNat).toNat) = 0) := of_decide_eq_false cx8_
        refine sm_T_go 4 (c1 := (122, [some (.inr (.inr (some (13, 0)))), some (.inl (S0_.2.2.1 220 0 ((S0_.1 13 0 137) - 1).toNat)), none, none, none, none], [.inl 1, .inl (S0_.2.2.1 220 0 ((S0_.1 13 0 137) - 1).toNat), .inr (.inr (some (218, 0)))], S0_)) rfl ?_
        refine sm_T_bin (w := (i_xor (S0_.2.2.1 220 0 ((S0_.1 13 0 137) - 1).toNat) 1)) rfl rfl ?_ -- pc_ 122
        refine sm_T_iald (n := 4096) rfl rfl (by omega) (by omega) ?_
        have bx12_ : (-2) ≤ S0_.2.2.1 218 0 (i_xor (S0_.2.2.1 220 0 ((S0_.1 13 0 137) - 1).toNat) 1).toNat ∧ S0_.2.2.1 218 0 (i_xor (S0_.2.2.1 220 0 ((S0_.1 13 0 137) - 1).toNat) 1).toNat ≤ 9000 := hI_.2 218 0 _
        refine sm_T_go 3 (c1 := (127, [some (.inr (.inr (some (13, 0)))), some (.inl (S0_.2.2.1 220 0 ((S0_.1 13 0 137) - 1).toNat)), some (.inl (S0_.2.2.1 218 0 (i_xor (S0_.2.2.1 220 0 ((S0_.1 13 0 137) - 1).toNat) 1).toNat)), none, none, none], [.inl (-1), .inl (S0_.2.2.1 218 0 (i_xor (S0_.2.2.1 220 0 ((S0_.1 13 0 137) - 1).toNat) 1).toNat)], S0_)) rfl ?_
        refine sm_T_br (a := 1) (z := 14) rfl (fun cx13_ => ?_) (fun cx13_ => ?_)
        · have cx13_ : (S0_.2.2.1 218 0 (i_xor (S0_.2.2.1 220 0 ((S0_.1 13 0 137) - 1).toNat) 1).toNat) ≠ (-1) := of_decide_eq_true cx13_
          refine sm_T_go 5 (c1 := (148, [some (.inr (.inr (some (13, 0)))), some (.inl (S0_.2.2.1 220 0 ((S0_.1 13 0 137) - 1).toNat)), some (.inl (S0_.2.2.1 218 0 (i_xor (S0_.2.2.1 220 0 ((S0_.1 13 0 137) - 1).toNat) 1).toNat)), none, none, none], [.inl (S0_.2.2.1 218 0 (i_xor (S0_.2.2.1 220 0 ((S0_.1 13 0 137) - 1).toNat) 1).toNat), .inr (.inr (some (13, 0))), .inl (S0_.2.2.1 220 0 ((S0_.1 13 0 137) - 1).toNat), .inr (.inr (some (218, 0)))], S0_)) rfl ?_
          refine sm_T_cal (d1 := 2) (Q1 := vq_411n (S0_.2.2.1 218 0 (i_xor (S0_.2.2.1 220 0 ((S0_.1 13 0 137) - 1).toNat) 1).toNat) F_ N_ d_ gs_ S0_) rfl rfl (by decide) (vc_411n (S0_.2.2.1 218 0 (i_xor (S0_.2.2.1 220 0 ((S0_.1 13 0 137) - 1).toNat) 1).toNat) F_ N_ d_ gs_ S0_ hI_ (by exact hgz_) (by exact hd_) (by omega) (by (have b9_ := hgs_.2.1 (i_xor (S0_.2.2.1 220 0 (S0_.1 13 0 137 - 1).toNat) 1) (by omega) (by omega); rcases b9_ with y9_ | y9_; (exfalso; omega); exact y9_)) (by exact hiv_) (by exact hgs_.2.2.2)) (fun u_ Sx14_ px17_ => ?_)
          obtain ⟨vx19_, rfl, hIx15_, hFx16_, px17_⟩ := px17_
          have hFx18_ : ai_fr (sx_W vw_417n) S0_ Sx14_ := ai_fr_tr hF_ (fr_le hFx16_ rfl)
          have ex20_ : Sx14_.1 13 0 137 = S0_.1 13 0 137 := hFx16_.1 13 0 137 rfl
          have e148_ := (px17_).1
          have f148_ := hFx16_
          have z148_ := (px17_).2.1
          have l148_ := (px17_).2.2
          refine sm_T_iast (n := 4096) rfl rfl (by omega) (by omega) ?_
          have hIx21_ : gi (sm_aI Sx14_ 218 0 (S0_.2.2.1 220 0 ((S0_.1 13 0 137) - 1).toNat).toNat vx19_) := gi_aI hIx15_ (show (-2) ≤ vx19_ ∧ vx19_ ≤ 9000 from ⟨by omega, by omega⟩)
          have hFx22_ : ai_fr (sx_W vw_417n) S0_ (sm_aI Sx14_ 218 0 (S0_.2.2.1 220 0 ((S0_.1 13 0 137) - 1).toNat).toNat vx19_) := ai_fr_tr hFx18_ (ai_fr_aI rfl)
          refine sm_T_rv rfl ⟨_, _, rfl, rfl, hIx21_, hFx22_, ?_⟩
          refine ⟨?_, ?_⟩
          · first
            | (have y8_ := e135_; have c9_ : S0_.2.2.1 211 0 (S0_.2.2.1 220 0 (S0_.1 13 0 137 - 1).toNat).toNat ≠ 0 := by omega
               exact wk_push hI_ hgs_ hjs_ hj_ (by omega) e135_ f135_ (Or.inr ⟨rfl, by omega, by omega, by (rw [qx2_]; exact t0_.2.2.1), by (rw [x1_]; exact (W8_.2 c9_).2)⟩) (by (unfold jrk jtos jtop; rw [if_neg (by decide), if_neg (by omega), qx2_, x1_, (W8_.2 c9_).1]; omega)) (by (unfold jdn jtos jtop; omega)) (by (unfold jdn; omega)))
            | (have y8_ := e148_; exact wk_g (by assumption) hgs_ hjs_ (by omega) (by omega) f148_ ⟨t0_.1, t0_.2.1⟩ (by omega) e148_)
          · have jt1_ : jtos S0_ = 0 ∧ jtop S0_ = (S0_.2.2.1 220 0 (S0_.1 13 0 137 - 1).toNat) := ⟨by (unfold jtos; omega), rfl⟩
            have u19_ : (jtk (jtos S0_) (jtop S0_)) = jtk 0 (S0_.2.2.1 220 0 (S0_.1 13 0 137 - 1).toNat) := by (rw [jt1_.1, jt1_.2])
            have R29_ := rp_2 (F_ := F_) (S_ := S0_) (w_ := (S0_.2.2.1 220 0 (S0_.1 13 0 137 - 1).toNat)) (by omega) (by omega)
            rw [← u19_] at R29_
            have MV9_ : mdr F_ S0_ (jtk (jtos S0_) (jtop S0_)) = S0_.2.2.1 218 0 (S0_.2.2.1 220 0 (S0_.1 13 0 137 - 1).toNat).toNat := by (rw [MU9_, if_neg (show ¬ jtos S0_ = 1 by (rw [jt1_.1]; decide)), jt1_.2])
            first
            | (have y8_ := e135_; refine ⟨gs_, rgz_fr hgz_ f135_, by (unfold lck; rw [f135_.1 13 0 134 rfl]; exact hlk_), kw_push (k_ := 0) B9_ GD9_ hj_ e135_ (fr_arr f135_ rfl) (fr_arr f135_ rfl) GU9_ IJ9_ RU9_ (by omega) (by (rw [R29_.1]; decide)) ?_ (fun j_ h_ => absurd h_ (Nat.not_lt_zero _))⟩; rw [R29_.2.1, x1_])
            | (have y8_ := e148_; have m148_ : mdr F_ S0_ (rpv F_ S0_ (jtk (jtos S0_) (jtop S0_)) 0) = S0_.2.2.1 218 0 (i_xor (S0_.2.2.1 220 0 (S0_.1 13 0 137 - 1).toNat) 1).toNat := (by (rw [R29_.2.1, ← x1_]; have z9_ := mdr_j (F_ := F_) (N_ := N_) (s_ := 0) (w_ := i_xor (S0_.2.2.1 220 0 (S0_.1 13 0 137 - 1).toNat) 1) (S_ := S0_) (Or.inr ⟨rfl, by omega, by omega, by (rw [qx2_]; exact t0_.2.2.1), by (rw [x1_]; exact (W8_.2 (by omega)).2)⟩) (by omega); rw [if_neg (by decide)] at z9_; exact z9_)); have E9_ : (rgc S0_ (jtk (jtos S0_) (jtop S0_)), nts (fun k_ => mdr F_ S0_ (rpv F_ S0_ (jtk (jtos S0_) (jtop S0_)) k_)) (rpn S0_ (jtk (jtos S0_) (jtop S0_)))) = (S0_.1 13 0 107, [S0_.2.2.1 218 0 (i_xor (S0_.2.2.1 220 0 (S0_.1 13 0 137 - 1).toNat) 1).toNat]) := (by (rw [R29_.1, R29_.2.2]; show (_, [mdr F_ S0_ (rpv F_ S0_ (jtk (jtos S0_) (jtop S0_)) 0)]) = _; rw [m148_])); refine ⟨gs_ ++ [(S0_.1 13 0 107, [S0_.2.2.1 218 0 (i_xor (S0_.2.2.1 220 0 (S0_.1 13 0 137 - 1).toNat) 1).toNat])], rgz_fr (w_ := ([], [218], [])) z148_ (ai_fr_aI rfl), lck_a hlk_ l148_, ?_⟩; rw [← E9_]; refine kw_fin hj_ (jst_cg (f148_.1 13 0 137 rfl) ((rd_ne_ (by decide)).trans (fr_arr f148_ rfl)) ((rd_ne_ (by decide)).trans (fr_arr f148_ rfl))) ?_ B9_ (by omega) (fun j_ h_ => ?_); (have z9_ := mdr_g (F_ := F_) (w_ := (S0_.2.2.1 220 0 (S0_.1 13 0 137 - 1).toNat)) (S_ := S0_) (S'_ := (sm_aI Sx14_ 218 0 (S0_.2.2.1 220 0 ((S0_.1 13 0 137) - 1).toNat).toNat vx19_)) (v_ := F_ - 1 + S0_.1 13 0 129) t0_.1 (by omega) (fun j_ => by (rw [rd_eq, fr_arr (t := 218) (i := 0) f148_ rfl, e148_.1])) ((rd_ne_ (by decide)).trans (fr_arr f148_ rfl)); rw [z9_, u19_, Z9_]); (rw [R29_.1] at h_; rw [show j_ = 0 by omega, m148_]; omega))
        · have cx13_ : ¬ ((S0_.2.2.1 218 0 (i_xor (S0_.2.2.1 220 0 ((S0_.1 13 0 137) - 1).toNat) 1).toNat) ≠ (-1)) := of_decide_eq_false cx13_
          refine sm_T_go 4 (c1 := (134, [some (.inr (.inr (some (13, 0)))), some (.inl (S0_.2.2.1 220 0 ((S0_.1 13 0 137) - 1).toNat)), some (.inl (S0_.2.2.1 218 0 (i_xor (S0_.2.2.1 220 0 ((S0_.1 13 0 137) - 1).toNat) 1).toNat)), none, none, none], [.inl 1, .inl (S0_.2.2.1 220 0 ((S0_.1 13 0 137) - 1).toNat), .inl 0, .inr (.inr (some (13, 0)))], S0_)) rfl ?_
          refine sm_T_bin (w := (i_xor (S0_.2.2.1 220 0 ((S0_.1 13 0 137) - 1).toNat) 1)) rfl rfl ?_ -- pc_ 134
          refine sm_T_cal (d1 := 0) (Q1 := vq_412 0 (i_xor (S0_.2.2.1 220 0 ((S0_.1 13 0 137) - 1).toNat) 1) S0_) rfl rfl (by decide) (vc_412 0 (i_xor (S0_.2.2.1 220 0 ((S0_.1 13 0 137) - 1).toNat) 1) S0_ hI_ (by omega) (by omega)) (fun u_ Sx23_ px26_ => ?_)
          obtain ⟨rfl, hIx24_, hFx25_, px26_⟩ := px26_
          have hFx27_ : ai_fr (sx_W vw_417n) S0_ Sx23_ := ai_fr_tr hF_ (fr_le hFx25_ rfl)
          have e135_ := px26_
          have f135_ := hFx25_
          refine sm_T_go 1 (c1 := (152, [some (.inr (.inr (some (13, 0)))), some (.inl (S0_.2.2.1 220 0 ((S0_.1 13 0 137) - 1).toNat)), some (.inl (S0_.2.2.1 218 0 (i_xor (S0_.2.2.1 220 0 ((S0_.1 13 0 137) - 1).toNat) 1).toNat)), none, none, none], [], Sx23_)) rfl ?_
          refine sm_T_rv rfl ⟨_, _, rfl, rfl, hIx24_, hFx27_, ?_⟩
          refine ⟨?_, ?_⟩
          · first
            | (have y8_ := e135_; have c9_ : S0_.2.2.1 211 0 (S0_.2.2.1 220 0 (S0_.1 13 0 137 - 1).toNat).toNat ≠ 0 := by omega
               exact wk_push hI_ hgs_ hjs_ hj_ (by omega) e135_ f135_ (Or.inr ⟨rfl, by omega, by omega, by (rw [qx2_]; exact t0_.2.2.1), by (rw [x1_]; exact (W8_.2 c9_).2)⟩) (by (unfold jrk jtos jtop; rw [if_neg (by decide), if_neg (by omega), qx2_, x1_, (W8_.2 c9_).1]; omega)) (by (unfold jdn jtos jtop; omega)) (by (unfold jdn; omega)))
            | (have y8_ := e148_; exact wk_g (by assumption) hgs_ hjs_ (by omega) (by omega) f148_ ⟨t0_.1, t0_.2.1⟩ (by omega) e148_)
          · have jt1_ : jtos S0_ = 0 ∧ jtop S0_ = (S0_.2.2.1 220 0 (S0_.1 13 0 137 - 1).toNat) := ⟨by (unfold jtos; omega), rfl⟩
            have u19_ : (jtk (jtos S0_) (jtop S0_)) = jtk 0 (S0_.2.2.1 220 0 (S0_.1 13 0 137 - 1).toNat) := by (rw [jt1_.1, jt1_.2])
            have R29_ := rp_2 (F_ := F_) (S_ := S0_) (w_ := (S0_.2.2.1 220 0 (S0_.1 13 0 137 - 1).toNat)) (by omega) (by omega)
            rw [← u19_] at R29_
            have MV9_ : mdr F_ S0_ (jtk (jtos S0_) (jtop S0_)) = S0_.2.2.1 218 0 (S0_.2.2.1 220 0 (S0_.1 13 0 137 - 1).toNat).toNat := by (rw [MU9_, if_neg (show ¬ jtos S0_ = 1 by (rw [jt1_.1]; decide)), jt1_.2])
            first
            | (have y8_ := e135_; refine ⟨gs_, rgz_fr hgz_ f135_, by (unfold lck; rw [f135_.1 13 0 134 rfl]; exact hlk_), kw_push (k_ := 0) B9_ GD9_ hj_ e135_ (fr_arr f135_ rfl) (fr_arr f135_ rfl) GU9_ IJ9_ RU9_ (by omega) (by (rw [R29_.1]; decide)) ?_ (fun j_ h_ => absurd h_ (Nat.not_lt_zero _))⟩; rw [R29_.2.1, x1_])
            | (have y8_ := e148_; have m148_ : mdr F_ S0_ (rpv F_ S0_ (jtk (jtos S0_) (jtop S0_)) 0) = S0_.2.2.1 218 0 (i_xor (S0_.2.2.1 220 0 (S0_.1 13 0 137 - 1).toNat) 1).toNat := (by (rw [R29_.2.1, ← x1_]; have z9_ := mdr_j (F_ := F_) (N_ := N_) (s_ := 0) (w_ := i_xor (S0_.2.2.1 220 0 (S0_.1 13 0 137 - 1).toNat) 1) (S_ := S0_) (Or.inr ⟨rfl, by omega, by omega, by (rw [qx2_]; exact t0_.2.2.1), by (rw [x1_]; exact (W8_.2 (by omega)).2)⟩) (by omega); rw [if_neg (by decide)] at z9_; exact z9_)); have E9_ : (rgc S0_ (jtk (jtos S0_) (jtop S0_)), nts (fun k_ => mdr F_ S0_ (rpv F_ S0_ (jtk (jtos S0_) (jtop S0_)) k_)) (rpn S0_ (jtk (jtos S0_) (jtop S0_)))) = (S0_.1 13 0 107, [S0_.2.2.1 218 0 (i_xor (S0_.2.2.1 220 0 (S0_.1 13 0 137 - 1).toNat) 1).toNat]) := (by (rw [R29_.1, R29_.2.2]; show (_, [mdr F_ S0_ (rpv F_ S0_ (jtk (jtos S0_) (jtop S0_)) 0)]) = _; rw [m148_])); refine ⟨gs_ ++ [(S0_.1 13 0 107, [S0_.2.2.1 218 0 (i_xor (S0_.2.2.1 220 0 (S0_.1 13 0 137 - 1).toNat) 1).toNat])], rgz_fr (w_ := ([], [218], [])) z148_ (ai_fr_aI rfl), lck_a hlk_ l148_, ?_⟩; rw [← E9_]; refine kw_fin hj_ (jst_cg (f148_.1 13 0 137 rfl) ((rd_ne_ (by decide)).trans (fr_arr f148_ rfl)) ((rd_ne_ (by decide)).trans (fr_arr f148_ rfl))) ?_ B9_ (by omega) (fun j_ h_ => ?_); (have z9_ := mdr_g (F_ := F_) (w_ := (S0_.2.2.1 220 0 (S0_.1 13 0 137 - 1).toNat)) (S_ := S0_) (S'_ := Sx23_) (v_ := F_ - 1 + S0_.1 13 0 129) t0_.1 (by omega) (fun j_ => by (rw [rd_eq, fr_arr (t := 218) (i := 0) f148_ rfl, e148_.1])) ((rd_ne_ (by decide)).trans (fr_arr f148_ rfl)); rw [z9_, u19_, Z9_]); (rw [R29_.1] at h_; rw [show j_ = 0 by omega, m148_]; omega))
    · have cx6_ : ¬ ((S0_.2.2.1 218 0 (S0_.2.2.1 220 0 ((S0_.1 13 0 137) - 1).toNat).toNat) = (-1)) := of_decide_eq_false cx6_
      refine sm_T_go 4 (c1 := (102, [some (.inr (.inr (some (13, 0)))), some (.inl (S0_.2.2.1 220 0 ((S0_.1 13 0 137) - 1).toNat)), none, none, none, none], [.inl 1, .inl (S0_.1 13 0 137), .inr (.inr (some (13, 0)))], S0_)) rfl ?_
      refine sm_T_bin (w := (S0_.1 13 0 137) - 1) rfl (bi_sub (by omega) (by omega) (by omega)) ?_ -- pc_ 102
      have hIx28_ : gi (sm_pI S0_ 13 0 137 ((S0_.1 13 0 137) - 1)) := gi_pI hI_ (show 0 ≤ (S0_.1 13 0 137) - 1 ∧ (S0_.1 13 0 137) - 1 ≤ 8191 from ⟨by omega, by omega⟩)
      have hFx29_ : ai_fr (sx_W vw_417n) S0_ (sm_pI S0_ 13 0 137 ((S0_.1 13 0 137) - 1)) := ai_fr_tr hF_ (ai_fr_pI rfl)
      refine sm_T_go 1 (c1 := (106, [some (.inr (.inr (some (13, 0)))), some (.inl (S0_.2.2.1 220 0 ((S0_.1 13 0 137) - 1).toNat)), none, none, none, none], [], sm_pI S0_ 13 0 137 ((S0_.1 13 0 137) - 1))) rfl ?_
      refine sm_T_rv rfl ⟨_, _, rfl, rfl, hIx28_, hFx29_, ?_⟩
      refine ⟨?_, ?_⟩
      · exact wk_pop hI_ hgs_ hjs_ hj_ (by omega) (Or.inr ⟨by (show (S0_.2.2.1 221 0 (S0_.1 13 0 137 - 1).toNat) ≠ 1; omega), by (show S0_.2.2.1 218 0 (S0_.2.2.1 220 0 (S0_.1 13 0 137 - 1).toNat).toNat ≠ -1; omega)⟩)
      · have jt1_ : jtos S0_ ≠ 1 ∧ jtop S0_ = (S0_.2.2.1 220 0 (S0_.1 13 0 137 - 1).toNat) := ⟨by (unfold jtos; omega), rfl⟩
        have MV9_ : mdr F_ S0_ (jtk (jtos S0_) (jtop S0_)) = S0_.2.2.1 218 0 (S0_.2.2.1 220 0 (S0_.1 13 0 137 - 1).toNat).toNat := by (rw [MU9_, if_neg jt1_.1, jt1_.2])
        exact ⟨gs_, rgz_fr (w_ := ([(13, 137)], [], [])) hgz_ (ai_fr_pI rfl), by (unfold lck; rw [rf_nk (by decide)]; exact hlk_), kw_pop hj_ (by omega)⟩
  · have cx4_ : ¬ ((S0_.2.2.1 221 0 ((S0_.1 13 0 137) - 1).toNat) ≠ 1) := of_decide_eq_false cx4_
    have t1_ : 1 ≤ (S0_.2.2.1 220 0 (S0_.1 13 0 137 - 1).toNat) ∧ (S0_.2.2.1 220 0 (S0_.1 13 0 137 - 1).toNat) < N_ ∧ S0_.2.2.1 202 0 (S0_.2.2.1 220 0 (S0_.1 13 0 137 - 1).toNat).toNat = 1 ∧ ((S0_.2.2.1 220 0 (S0_.1 13 0 137 - 1).toNat) < F_ ∨ (S0_.2.2.1 203 0 (S0_.2.2.1 220 0 (S0_.1 13 0 137 - 1).toNat).toNat = 1 ∧ S0_.2.2.1 210 0 (2 * (S0_.2.2.1 220 0 (S0_.1 13 0 137 - 1).toNat)).toNat < 1000000000)) := by (rcases tg_ with y9_ | y9_; exact y9_.2; (exfalso; omega))
    have q2w : 2 * (S0_.2.2.1 220 0 (S0_.1 13 0 137 - 1).toNat) / 2 = (S0_.2.2.1 220 0 (S0_.1 13 0 137 - 1).toNat) := by omega
    refine sm_T_go 3 (c1 := (32, [some (.inr (.inr (some (13, 0)))), some (.inl (S0_.2.2.1 220 0 ((S0_.1 13 0 137) - 1).toNat)), none, none, none, none], [.inl (S0_.2.2.1 220 0 ((S0_.1 13 0 137) - 1).toNat), .inr (.inr (some (219, 0)))], S0_)) rfl ?_
    refine sm_T_iald (n := 2048) rfl rfl (by omega) (by omega) ?_
    have bx30_ : (-2) ≤ S0_.2.2.1 219 0 (S0_.2.2.1 220 0 ((S0_.1 13 0 137) - 1).toNat).toNat ∧ S0_.2.2.1 219 0 (S0_.2.2.1 220 0 ((S0_.1 13 0 137) - 1).toNat).toNat ≤ 9000 := hI_.2 219 0 _
    refine sm_T_go 1 (c1 := (34, [some (.inr (.inr (some (13, 0)))), some (.inl (S0_.2.2.1 220 0 ((S0_.1 13 0 137) - 1).toNat)), none, none, none, none], [.inl (-1), .inl (S0_.2.2.1 219 0 (S0_.2.2.1 220 0 ((S0_.1 13 0 137) - 1).toNat).toNat)], S0_)) rfl ?_
    refine sm_T_br (a := 0) (z := 16) rfl (fun cx31_ => ?_) (fun cx31_ => ?_)
    · have cx31_ : (S0_.2.2.1 219 0 (S0_.2.2.1 220 0 ((S0_.1 13 0 137) - 1).toNat).toNat) = (-1) := of_decide_eq_true cx31_
      refine sm_T_go 2 (c1 := (52, [some (.inr (.inr (some (13, 0)))), some (.inl (S0_.2.2.1 220 0 ((S0_.1 13 0 137) - 1).toNat)), none, none, none, none], [.inl (S0_.2.2.1 220 0 ((S0_.1 13 0 137) - 1).toNat), .inr (.inr (some (13, 0)))], S0_)) rfl ?_
      refine sm_T_cal (d1 := 0) (Q1 := vq_414 (S0_.2.2.1 220 0 ((S0_.1 13 0 137) - 1).toNat) F_ S0_) rfl rfl (by decide) (vc_414 (S0_.2.2.1 220 0 ((S0_.1 13 0 137) - 1).toNat) F_ S0_ hI_ (by exact f160_) (by omega)) (fun u_ Sx32_ px35_ => ?_)
      obtain ⟨rfl, vx37_, rfl, px35_⟩ := px35_
      have e52_ := px35_
      refine sm_T_go 1 (c1 := (56, [some (.inr (.inr (some (13, 0)))), some (.inl (S0_.2.2.1 220 0 ((S0_.1 13 0 137) - 1).toNat)), none, none, none, none], [.inl (-1), .inl vx37_], S0_)) rfl ?_
      refine sm_T_br (a := 1) (z := 14) rfl (fun cx38_ => ?_) (fun cx38_ => ?_)
      · have cx38_ : vx37_ ≠ (-1) := of_decide_eq_true cx38_
        refine sm_T_go 6 (c1 := (78, [some (.inr (.inr (some (13, 0)))), some (.inl (S0_.2.2.1 220 0 ((S0_.1 13 0 137) - 1).toNat)), none, none, none, none], [.inl (S0_.2.2.1 220 0 ((S0_.1 13 0 137) - 1).toNat), .inr (.inr (some (13, 0))), .inr (.inr (some (13, 0))), .inl (S0_.2.2.1 220 0 ((S0_.1 13 0 137) - 1).toNat), .inr (.inr (some (219, 0)))], S0_)) rfl ?_
        refine sm_T_cal (d1 := 0) (Q1 := vq_414 (S0_.2.2.1 220 0 ((S0_.1 13 0 137) - 1).toNat) F_ S0_) rfl rfl (by decide) (vc_414 (S0_.2.2.1 220 0 ((S0_.1 13 0 137) - 1).toNat) F_ S0_ hI_ (by exact f160_) (by omega)) (fun u_ Sx39_ px42_ => ?_)
        obtain ⟨rfl, vx44_, rfl, px42_⟩ := px42_
        have e78_ := px42_
        have lk78_ := e78_.1
        have n78_ := lnf_b hgs_ (x_ := (S0_.2.2.1 220 0 (S0_.1 13 0 137 - 1).toNat)) (by omega)
        rw [← e78_.1] at n78_
        have n79_ : 0 ≤ vx44_ ∧ vx44_ < F_ - 1 + S0_.1 13 0 129 := by (rcases n78_ with y9_ | y9_; (exfalso; have z9_ := e52_.1.trans e78_.1.symm; omega); exact y9_)
        refine sm_T_cal (d1 := 2) (Q1 := vq_411n vx44_ F_ N_ d_ gs_ S0_) rfl rfl (by decide) (vc_411n vx44_ F_ N_ d_ gs_ S0_ hI_ (by exact hgz_) (by exact hd_) (by omega) (by exact n79_) (by exact hiv_) (by exact hgs_.2.2.2)) (fun u_ Sx45_ px48_ => ?_)
        obtain ⟨vx50_, rfl, hIx46_, hFx47_, px48_⟩ := px48_
        have hFx49_ : ai_fr (sx_W vw_417n) S0_ Sx45_ := ai_fr_tr hF_ (fr_le hFx47_ rfl)
        have ex51_ : Sx45_.1 13 0 137 = S0_.1 13 0 137 := hFx47_.1 13 0 137 rfl
        have e81_ := (px48_).1
        have f81_ := hFx47_
        have z81_ := (px48_).2.1
        have l81_ := (px48_).2.2
        refine sm_T_iast (n := 2048) rfl rfl (by omega) (by omega) ?_
        have hIx52_ : gi (sm_aI Sx45_ 219 0 (S0_.2.2.1 220 0 ((S0_.1 13 0 137) - 1).toNat).toNat vx50_) := gi_aI hIx46_ (show (-2) ≤ vx50_ ∧ vx50_ ≤ 9000 from ⟨by omega, by omega⟩)
        have hFx53_ : ai_fr (sx_W vw_417n) S0_ (sm_aI Sx45_ 219 0 (S0_.2.2.1 220 0 ((S0_.1 13 0 137) - 1).toNat).toNat vx50_) := ai_fr_tr hFx49_ (ai_fr_aI rfl)
        refine sm_T_rv rfl ⟨_, _, rfl, rfl, hIx52_, hFx53_, ?_⟩
        refine ⟨?_, ?_⟩
        · first
          | (have y8_ := e64_; have z9_ := e52_.1; unfold lnf at z9_; have F9_ : ¬ ((S0_.2.2.1 220 0 (S0_.1 13 0 137 - 1).toNat) < F_) := fun F9_ => by (rw [if_pos F9_] at z9_; omega)
             rw [if_neg F9_] at z9_; have c9_ : S0_.2.2.1 211 0 (2 * (S0_.2.2.1 220 0 (S0_.1 13 0 137 - 1).toNat)).toNat ≤ 1 := (hI_.2 211 0 _).2
             exact wk_push hI_ hgs_ hjs_ hj_ (by omega) e64_ f64_ (Or.inr ⟨rfl, by omega, by omega, by (rw [q2w]; exact t1_.2.2.1), by omega⟩) (by (unfold jrk jtos jtop; rw [if_neg (by decide), if_pos (by omega), q2w]; omega)) (by (unfold jdn jtos jtop; omega)) (by (unfold jdn; omega)))
          | (have y8_ := e81_; exact wk_t (by assumption) hgs_ hjs_ (by omega) (by omega) f81_ ⟨t1_.1, t1_.2.1⟩ (by omega) e81_)
          | exact wk_pop hI_ hgs_ hjs_ hj_ (by omega) (Or.inl ⟨by (show (S0_.2.2.1 221 0 (S0_.1 13 0 137 - 1).toNat) = 1; omega), by (show S0_.2.2.1 219 0 (S0_.2.2.1 220 0 (S0_.1 13 0 137 - 1).toNat).toNat ≠ -1; omega)⟩)
        · have jt1_ : jtos S0_ = 1 ∧ jtop S0_ = (S0_.2.2.1 220 0 (S0_.1 13 0 137 - 1).toNat) := ⟨by (unfold jtos; omega), rfl⟩
          have R19_ := rp_1 (F_ := F_) (S_ := S0_) (w_ := jtop S0_) (by (rw [jt1_.2]; exact t1_.1))
          have u19_ : (jtk (jtos S0_) (jtop S0_)) = jtk 1 (jtop S0_) := by rw [jt1_.1]
          rw [← u19_] at R19_
          have MV9_ : mdr F_ S0_ (jtk (jtos S0_) (jtop S0_)) = S0_.2.2.1 219 0 (S0_.2.2.1 220 0 (S0_.1 13 0 137 - 1).toNat).toNat := by (rw [MU9_, if_pos jt1_.1, jt1_.2])
          first
          | (have y8_ := e64_; refine ⟨gs_, rgz_fr hgz_ f64_, by (unfold lck; rw [f64_.1 13 0 134 rfl]; exact hlk_), kw_push (k_ := 0) B9_ GD9_ hj_ e64_ (fr_arr f64_ rfl) (fr_arr f64_ rfl) GU9_ IJ9_ RU9_ (by omega) (by (rw [R19_.1]; decide)) ?_ (fun j_ h_ => absurd h_ (Nat.not_lt_zero _))⟩; rw [R19_.2.1, jt1_.2, jtk_0]; omega)
          | (have y8_ := e81_; have m81_ : mdr F_ S0_ (rpv F_ S0_ (jtk (jtos S0_) (jtop S0_)) 0) = lnf F_ S0_ (S0_.2.2.1 220 0 (S0_.1 13 0 137 - 1).toNat) := (by (rw [R19_.2.1, jt1_.2]; have z9_ := mdr_n (F_ := F_) (y_ := (S0_.2.2.1 220 0 (S0_.1 13 0 137 - 1).toNat)) (b_ := 0) (S_ := S0_) t1_.1 (Or.inl rfl); unfold ltk at z9_; rw [show (3 * (S0_.2.2.1 220 0 (S0_.1 13 0 137 - 1).toNat) + (if (S0_.2.2.1 220 0 (S0_.1 13 0 137 - 1).toNat) < F_ ∨ S0_.2.2.1 203 0 (S0_.2.2.1 220 0 (S0_.1 13 0 137 - 1).toNat).toNat ≠ 0 then 2 * 0 else 0) : Int) = 3 * (S0_.2.2.1 220 0 (S0_.1 13 0 137 - 1).toNat) by (split <;> omega)] at z9_; rw [z9_]; unfold noi; rw [if_neg (by (have b3_ : 0 ≤ S0_.2.2.1 203 0 (S0_.2.2.1 220 0 (S0_.1 13 0 137 - 1).toNat).toNat := (hI_.2 203 0 _).1; have q9_ := t1_.2.2.2; omega)), if_pos rfl])); have E9_ : (rgc S0_ (jtk (jtos S0_) (jtop S0_)), nts (fun k_ => mdr F_ S0_ (rpv F_ S0_ (jtk (jtos S0_) (jtop S0_)) k_)) (rpn S0_ (jtk (jtos S0_) (jtop S0_)))) = (S0_.1 13 0 107, [lnf F_ S0_ (S0_.2.2.1 220 0 (S0_.1 13 0 137 - 1).toNat)]) := (by (rw [R19_.1, R19_.2.2]; show (_, [mdr F_ S0_ (rpv F_ S0_ (jtk (jtos S0_) (jtop S0_)) 0)]) = _; rw [m81_])); rw [lk78_] at z81_; refine ⟨gs_ ++ [(S0_.1 13 0 107, [lnf F_ S0_ (S0_.2.2.1 220 0 (S0_.1 13 0 137 - 1).toNat)])], rgz_fr (w_ := ([], [219], [])) z81_ (ai_fr_aI rfl), lck_a hlk_ l81_, ?_⟩; rw [← E9_]; refine kw_fin hj_ (jst_cg (f81_.1 13 0 137 rfl) ((rd_ne_ (by decide)).trans (fr_arr f81_ rfl)) ((rd_ne_ (by decide)).trans (fr_arr f81_ rfl))) ?_ B9_ (by omega) (fun j_ h_ => ?_); (have z9_ := mdr_t (F_ := F_) (w_ := (S0_.2.2.1 220 0 (S0_.1 13 0 137 - 1).toNat)) (S_ := S0_) (S'_ := (sm_aI Sx45_ 219 0 (S0_.2.2.1 220 0 ((S0_.1 13 0 137) - 1).toNat).toNat vx50_)) (v_ := F_ - 1 + S0_.1 13 0 129) (by omega) (fun j_ => by (rw [rd_eq, fr_arr (t := 219) (i := 0) f81_ rfl, e81_.1])) ((rd_ne_ (by decide)).trans (fr_arr f81_ rfl)); rw [z9_, u19_, jt1_.2, Z9_]); (rw [R19_.1] at h_; rw [show j_ = 0 by omega, m81_]; have z9_ := n79_; rw [lk78_] at z9_; omega))
          | exact ⟨gs_, rgz_fr (w_ := ([(13, 137)], [], [])) hgz_ (ai_fr_pI rfl), by (unfold lck; rw [rf_nk (by decide)]; exact hlk_), kw_pop hj_ (by omega)⟩
      · have cx38_ : ¬ (vx37_ ≠ (-1)) := of_decide_eq_false cx38_
        refine sm_T_go 4 (c1 := (63, [some (.inr (.inr (some (13, 0)))), some (.inl (S0_.2.2.1 220 0 ((S0_.1 13 0 137) - 1).toNat)), none, none, none, none], [.inl (S0_.2.2.1 220 0 ((S0_.1 13 0 137) - 1).toNat), .inl 2, .inl 0, .inr (.inr (some (13, 0)))], S0_)) rfl ?_
        refine sm_T_bin (w := 2 * (S0_.2.2.1 220 0 ((S0_.1 13 0 137) - 1).toNat)) rfl (bi_mul (by omega) (by omega) (by omega)) ?_ -- pc_ 63
        refine sm_T_cal (d1 := 0) (Q1 := vq_412 0 (2 * (S0_.2.2.1 220 0 ((S0_.1 13 0 137) - 1).toNat)) S0_) rfl rfl (by decide) (vc_412 0 (2 * (S0_.2.2.1 220 0 ((S0_.1 13 0 137) - 1).toNat)) S0_ hI_ (by omega) (by omega)) (fun u_ Sx54_ px57_ => ?_)
        obtain ⟨rfl, hIx55_, hFx56_, px57_⟩ := px57_
        have hFx58_ : ai_fr (sx_W vw_417n) S0_ Sx54_ := ai_fr_tr hF_ (fr_le hFx56_ rfl)
        have e64_ := px57_
        have f64_ := hFx56_
        refine sm_T_go 1 (c1 := (85, [some (.inr (.inr (some (13, 0)))), some (.inl (S0_.2.2.1 220 0 ((S0_.1 13 0 137) - 1).toNat)), none, none, none, none], [], Sx54_)) rfl ?_
        refine sm_T_rv rfl ⟨_, _, rfl, rfl, hIx55_, hFx58_, ?_⟩
        refine ⟨?_, ?_⟩
        · first
          | (have y8_ := e64_; have z9_ := e52_.1; unfold lnf at z9_; have F9_ : ¬ ((S0_.2.2.1 220 0 (S0_.1 13 0 137 - 1).toNat) < F_) := fun F9_ => by (rw [if_pos F9_] at z9_; omega)
             rw [if_neg F9_] at z9_; have c9_ : S0_.2.2.1 211 0 (2 * (S0_.2.2.1 220 0 (S0_.1 13 0 137 - 1).toNat)).toNat ≤ 1 := (hI_.2 211 0 _).2
             exact wk_push hI_ hgs_ hjs_ hj_ (by omega) e64_ f64_ (Or.inr ⟨rfl, by omega, by omega, by (rw [q2w]; exact t1_.2.2.1), by omega⟩) (by (unfold jrk jtos jtop; rw [if_neg (by decide), if_pos (by omega), q2w]; omega)) (by (unfold jdn jtos jtop; omega)) (by (unfold jdn; omega)))
          | (have y8_ := e81_; exact wk_t (by assumption) hgs_ hjs_ (by omega) (by omega) f81_ ⟨t1_.1, t1_.2.1⟩ (by omega) e81_)
          | exact wk_pop hI_ hgs_ hjs_ hj_ (by omega) (Or.inl ⟨by (show (S0_.2.2.1 221 0 (S0_.1 13 0 137 - 1).toNat) = 1; omega), by (show S0_.2.2.1 219 0 (S0_.2.2.1 220 0 (S0_.1 13 0 137 - 1).toNat).toNat ≠ -1; omega)⟩)
        · have jt1_ : jtos S0_ = 1 ∧ jtop S0_ = (S0_.2.2.1 220 0 (S0_.1 13 0 137 - 1).toNat) := ⟨by (unfold jtos; omega), rfl⟩
          have R19_ := rp_1 (F_ := F_) (S_ := S0_) (w_ := jtop S0_) (by (rw [jt1_.2]; exact t1_.1))
          have u19_ : (jtk (jtos S0_) (jtop S0_)) = jtk 1 (jtop S0_) := by rw [jt1_.1]
          rw [← u19_] at R19_
          have MV9_ : mdr F_ S0_ (jtk (jtos S0_) (jtop S0_)) = S0_.2.2.1 219 0 (S0_.2.2.1 220 0 (S0_.1 13 0 137 - 1).toNat).toNat := by (rw [MU9_, if_pos jt1_.1, jt1_.2])
          first
          | (have y8_ := e64_; refine ⟨gs_, rgz_fr hgz_ f64_, by (unfold lck; rw [f64_.1 13 0 134 rfl]; exact hlk_), kw_push (k_ := 0) B9_ GD9_ hj_ e64_ (fr_arr f64_ rfl) (fr_arr f64_ rfl) GU9_ IJ9_ RU9_ (by omega) (by (rw [R19_.1]; decide)) ?_ (fun j_ h_ => absurd h_ (Nat.not_lt_zero _))⟩; rw [R19_.2.1, jt1_.2, jtk_0]; omega)
          | (have y8_ := e81_; have m81_ : mdr F_ S0_ (rpv F_ S0_ (jtk (jtos S0_) (jtop S0_)) 0) = lnf F_ S0_ (S0_.2.2.1 220 0 (S0_.1 13 0 137 - 1).toNat) := (by (rw [R19_.2.1, jt1_.2]; have z9_ := mdr_n (F_ := F_) (y_ := (S0_.2.2.1 220 0 (S0_.1 13 0 137 - 1).toNat)) (b_ := 0) (S_ := S0_) t1_.1 (Or.inl rfl); unfold ltk at z9_; rw [show (3 * (S0_.2.2.1 220 0 (S0_.1 13 0 137 - 1).toNat) + (if (S0_.2.2.1 220 0 (S0_.1 13 0 137 - 1).toNat) < F_ ∨ S0_.2.2.1 203 0 (S0_.2.2.1 220 0 (S0_.1 13 0 137 - 1).toNat).toNat ≠ 0 then 2 * 0 else 0) : Int) = 3 * (S0_.2.2.1 220 0 (S0_.1 13 0 137 - 1).toNat) by (split <;> omega)] at z9_; rw [z9_]; unfold noi; rw [if_neg (by (have b3_ : 0 ≤ S0_.2.2.1 203 0 (S0_.2.2.1 220 0 (S0_.1 13 0 137 - 1).toNat).toNat := (hI_.2 203 0 _).1; have q9_ := t1_.2.2.2; omega)), if_pos rfl])); have E9_ : (rgc S0_ (jtk (jtos S0_) (jtop S0_)), nts (fun k_ => mdr F_ S0_ (rpv F_ S0_ (jtk (jtos S0_) (jtop S0_)) k_)) (rpn S0_ (jtk (jtos S0_) (jtop S0_)))) = (S0_.1 13 0 107, [lnf F_ S0_ (S0_.2.2.1 220 0 (S0_.1 13 0 137 - 1).toNat)]) := (by (rw [R19_.1, R19_.2.2]; show (_, [mdr F_ S0_ (rpv F_ S0_ (jtk (jtos S0_) (jtop S0_)) 0)]) = _; rw [m81_])); rw [lk78_] at z81_; refine ⟨gs_ ++ [(S0_.1 13 0 107, [lnf F_ S0_ (S0_.2.2.1 220 0 (S0_.1 13 0 137 - 1).toNat)])], rgz_fr (w_ := ([], [219], [])) z81_ (ai_fr_aI rfl), lck_a hlk_ l81_, ?_⟩; rw [← E9_]; refine kw_fin hj_ (jst_cg (f81_.1 13 0 137 rfl) ((rd_ne_ (by decide)).trans (fr_arr f81_ rfl)) ((rd_ne_ (by decide)).trans (fr_arr f81_ rfl))) ?_ B9_ (by omega) (fun j_ h_ => ?_); (have z9_ := mdr_t (F_ := F_) (w_ := (S0_.2.2.1 220 0 (S0_.1 13 0 137 - 1).toNat)) (S_ := S0_) (S'_ := Sx54_) (v_ := F_ - 1 + S0_.1 13 0 129) (by omega) (fun j_ => by (rw [rd_eq, fr_arr (t := 219) (i := 0) f81_ rfl, e81_.1])) ((rd_ne_ (by decide)).trans (fr_arr f81_ rfl)); rw [z9_, u19_, jt1_.2, Z9_]); (rw [R19_.1] at h_; rw [show j_ = 0 by omega, m81_]; have z9_ := n79_; rw [lk78_] at z9_; omega))
          | exact ⟨gs_, rgz_fr (w_ := ([(13, 137)], [], [])) hgz_ (ai_fr_pI rfl), by (unfold lck; rw [rf_nk (by decide)]; exact hlk_), kw_pop hj_ (by omega)⟩
    · have cx31_ : ¬ ((S0_.2.2.1 219 0 (S0_.2.2.1 220 0 ((S0_.1 13 0 137) - 1).toNat).toNat) = (-1)) := of_decide_eq_false cx31_
      refine sm_T_go 4 (c1 := (43, [some (.inr (.inr (some (13, 0)))), some (.inl (S0_.2.2.1 220 0 ((S0_.1 13 0 137) - 1).toNat)), none, none, none, none], [.inl 1, .inl (S0_.1 13 0 137), .inr (.inr (some (13, 0)))], S0_)) rfl ?_
      refine sm_T_bin (w := (S0_.1 13 0 137) - 1) rfl (bi_sub (by omega) (by omega) (by omega)) ?_ -- pc_ 43
      have hIx59_ : gi (sm_pI S0_ 13 0 137 ((S0_.1 13 0 137) - 1)) := gi_pI hI_ (show 0 ≤ (S0_.1 13 0 137) - 1 ∧ (S0_.1 13 0 137) - 1 ≤ 8191 from ⟨by omega, by omega⟩)
      have hFx60_ : ai_fr (sx_W vw_417n) S0_ (sm_pI S0_ 13 0 137 ((S0_.1 13 0 137) - 1)) := ai_fr_tr hF_ (ai_fr_pI rfl)
      refine sm_T_go 2 (c1 := (85, [some (.inr (.inr (some (13, 0)))), some (.inl (S0_.2.2.1 220 0 ((S0_.1 13 0 137) - 1).toNat)), none, none, none, none], [], sm_pI S0_ 13 0 137 ((S0_.1 13 0 137) - 1))) rfl ?_
      refine sm_T_rv rfl ⟨_, _, rfl, rfl, hIx59_, hFx60_, ?_⟩
      refine ⟨?_, ?_⟩
      · first
        | (have y8_ := e64_; have z9_ := e52_.1; unfold lnf at z9_; have F9_ : ¬ ((S0_.2.2.1 220 0 (S0_.1 13 0 137 - 1).toNat) < F_) := fun F9_ => by (rw [if_pos F9_] at z9_; omega)
           rw [if_neg F9_] at z9_; have c9_ : S0_.2.2.1 211 0 (2 * (S0_.2.2.1 220 0 (S0_.1 13 0 137 - 1).toNat)).toNat ≤ 1 := (hI_.2 211 0 _).2
           exact wk_push hI_ hgs_ hjs_ hj_ (by omega) e64_ f64_ (Or.inr ⟨rfl, by omega, by omega, by (rw [q2w]; exact t1_.2.2.1), by omega⟩) (by (unfold jrk jtos jtop; rw [if_neg (by decide), if_pos (by omega), q2w]; omega)) (by (unfold jdn jtos jtop; omega)) (by (unfold jdn; omega)))
        | (have y8_ := e81_; exact wk_t (by assumption) hgs_ hjs_ (by omega) (by omega) f81_ ⟨t1_.1, t1_.2.1⟩ (by omega) e81_)
        | exact wk_pop hI_ hgs_ hjs_ hj_ (by omega) (Or.inl ⟨by (show (S0_.2.2.1 221 0 (S0_.1 13 0 137 - 1).toNat) = 1; omega), by (show S0_.2.2.1 219 0 (S0_.2.2.1 220 0 (S0_.1 13 0 137 - 1).toNat).toNat ≠ -1; omega)⟩)
      · have jt1_ : jtos S0_ = 1 ∧ jtop S0_ = (S0_.2.2.1 220 0 (S0_.1 13 0 137 - 1).toNat) := ⟨by (unfold jtos; omega), rfl⟩
        have R19_ := rp_1 (F_ := F_) (S_ := S0_) (w_ := jtop S0_) (by (rw [jt1_.2]; exact t1_.1))
        have u19_ : (jtk (jtos S0_) (jtop S0_)) = jtk 1 (jtop S0_) := by rw [jt1_.1]
        rw [← u19_] at R19_
        have MV9_ : mdr F_ S0_ (jtk (jtos S0_) (jtop S0_)) = S0_.2.2.1 219 0 (S0_.2.2.1 220 0 (S0_.1 13 0 137 - 1).toNat).toNat := by (rw [MU9_, if_pos jt1_.1, jt1_.2])
        first
        | (have y8_ := e64_; refine ⟨gs_, rgz_fr hgz_ f64_, by (unfold lck; rw [f64_.1 13 0 134 rfl]; exact hlk_), kw_push (k_ := 0) B9_ GD9_ hj_ e64_ (fr_arr f64_ rfl) (fr_arr f64_ rfl) GU9_ IJ9_ RU9_ (by omega) (by (rw [R19_.1]; decide)) ?_ (fun j_ h_ => absurd h_ (Nat.not_lt_zero _))⟩; rw [R19_.2.1, jt1_.2, jtk_0]; omega)
        | (have y8_ := e81_; have m81_ : mdr F_ S0_ (rpv F_ S0_ (jtk (jtos S0_) (jtop S0_)) 0) = lnf F_ S0_ (S0_.2.2.1 220 0 (S0_.1 13 0 137 - 1).toNat) := (by (rw [R19_.2.1, jt1_.2]; have z9_ := mdr_n (F_ := F_) (y_ := (S0_.2.2.1 220 0 (S0_.1 13 0 137 - 1).toNat)) (b_ := 0) (S_ := S0_) t1_.1 (Or.inl rfl); unfold ltk at z9_; rw [show (3 * (S0_.2.2.1 220 0 (S0_.1 13 0 137 - 1).toNat) + (if (S0_.2.2.1 220 0 (S0_.1 13 0 137 - 1).toNat) < F_ ∨ S0_.2.2.1 203 0 (S0_.2.2.1 220 0 (S0_.1 13 0 137 - 1).toNat).toNat ≠ 0 then 2 * 0 else 0) : Int) = 3 * (S0_.2.2.1 220 0 (S0_.1 13 0 137 - 1).toNat) by (split <;> omega)] at z9_; rw [z9_]; unfold noi; rw [if_neg (by (have b3_ : 0 ≤ S0_.2.2.1 203 0 (S0_.2.2.1 220 0 (S0_.1 13 0 137 - 1).toNat).toNat := (hI_.2 203 0 _).1; have q9_ := t1_.2.2.2; omega)), if_pos rfl])); have E9_ : (rgc S0_ (jtk (jtos S0_) (jtop S0_)), nts (fun k_ => mdr F_ S0_ (rpv F_ S0_ (jtk (jtos S0_) (jtop S0_)) k_)) (rpn S0_ (jtk (jtos S0_) (jtop S0_)))) = (S0_.1 13 0 107, [lnf F_ S0_ (S0_.2.2.1 220 0 (S0_.1 13 0 137 - 1).toNat)]) := (by (rw [R19_.1, R19_.2.2]; show (_, [mdr F_ S0_ (rpv F_ S0_ (jtk (jtos S0_) (jtop S0_)) 0)]) = _; rw [m81_])); rw [lk78_] at z81_; refine ⟨gs_ ++ [(S0_.1 13 0 107, [lnf F_ S0_ (S0_.2.2.1 220 0 (S0_.1 13 0 137 - 1).toNat)])], rgz_fr (w_ := ([], [219], [])) z81_ (ai_fr_aI rfl), lck_a hlk_ l81_, ?_⟩; rw [← E9_]; refine kw_fin hj_ (jst_cg (f81_.1 13 0 137 rfl) ((rd_ne_ (by decide)).trans (fr_arr f81_ rfl)) ((rd_ne_ (by decide)).trans (fr_arr f81_ rfl))) ?_ B9_ (by omega) (fun j_ h_ => ?_); (have z9_ := mdr_t (F_ := F_) (w_ := (S0_.2.2.1 220 0 (S0_.1 13 0 137 - 1).toNat)) (S_ := S0_) (S'_ := (sm_pI S0_ 13 0 137 ((S0_.1 13 0 137) - 1))) (v_ := F_ - 1 + S0_.1 13 0 129) (by omega) (fun j_ => by (rw [rd_eq, fr_arr (t := 219) (i := 0) f81_ rfl, e81_.1])) ((rd_ne_ (by decide)).trans (fr_arr f81_ rfl)); rw [z9_, u19_, jt1_.2, Z9_]); (rw [R19_.1] at h_; rw [show j_ = 0 by omega, m81_]; have z9_ := n79_; rw [lk78_] at z9_; omega))
        | exact ⟨gs_, rgz_fr (w_ := ([(13, 137)], [], [])) hgz_ (ai_fr_pI rfl), by (unfold lck; rw [rf_nk (by decide)]; exact hlk_), kw_pop hj_ (by omega)⟩
end
/-! 99.ztZd -/
section
/-! nets of roots: the reference; written by wip/p55/gen/vg -/

/-! nets of_ roots, the_ reference -/
theorem rp_fr {w_ : sx_Wl} {F_ : Int} {S_ S'_ : sm_S} (g_ : ai_fr (sx_W w_) S_ S'_) (a1_ : (sx_W w_).2.1 185 = false := by rfl) (a2_ : (sx_W w_).2.1 203 = false := by rfl) (a3_ : (sx_W w_).2.1 207 = false := by rfl) (a4_ : (sx_W w_).2.1 208 = false := by rfl) (a5_ : (sx_W w_).2.1 209 = false := by rfl) (a6_ : (sx_W w_).2.1 211 = false := by rfl) (a7_ : (sx_W w_).1 13 106 = false := by rfl) (a8_ : (sx_W w_).1 13 107 = false := by rfl) : rpn S'_ = rpn S_ ∧ rpv F_ S'_ = rpv F_ S_ ∧ rgc S'_ = rgc S_ := by
  have c_ : rcw S'_ = rcw S_ := by
    funext x_
    unfold rcw
    rw [fr_arr (t := 207) g_ a3_, fr_arr (t := 211) g_ a6_]
  have n_ : rnp S'_ = rnp S_ := by
    funext x_
    unfold rnp
    rw [fr_arr (t := 185) g_ a1_, g_.1 13 0 106 a7_]
  refine ⟨?_, ?_, ?_⟩
  · funext u_
    unfold rpn
    rw [c_, n_]
  · funext u_ k_
    unfold rpv
    rw [c_, fr_arr (t := 203) g_ a2_, fr_arr (t := 208) g_ a4_, fr_arr (t := 209) g_ a5_]
  · funext u_
    unfold rgc
    rw [c_, g_.1 13 0 107 a8_]
theorem ltk_r {F_ q_ : Int} {S_ : sm_S} (h_ : q_ / 2 < F_ ∨ S_.2.2.1 203 0 (q_ / 2).toNat = 1) : ltk F_ S_ (q_ / 2) (q_ % 2) = 3 * (q_ / 2) + 2 * (q_ % 2) := by
  unfold ltk
  rw [if_pos (by
    rcases h_ with h_ | h_
    · exact Or.inl h_
    · exact Or.inr (by omega))]

/-! M_.netOfRoot -/
def vw_418n : sx_Wl := ([(13, 129), (13, 134), (13, 137)], [216, 217, 218, 219, 220, 221], [])
def vq_418n (l_ : Int) (F_ : Int) (N_ : Int) (d_ : Int) (gs_ : List (Int × List Int)) (S0_ : sm_S) (u_ : Option sm_V) (S1_ : sm_S) : Prop := ∃ v_ : Int, u_ = some (.inl v_) ∧ gi S1_ ∧ ai_fr (sx_W vw_418n) S0_ S1_ ∧ ((gst F_ N_ S1_ ∧ S0_.1 13 0 129 ≤ S1_.1 13 0 129 ∧ (v_ = -1 ∨ v_ = -2 ∨ (0 ≤ v_ ∧ v_ < F_ - 1 + S1_.1 13 0 129))) ∧ ∃ g1_ : List (Int × List Int), rgz S1_ g1_ ∧ lck S1_ g1_ ∧ (mdr F_ S1_, g1_) = (if (i_xor (S0_.2.2.1 166 0 (2048 * d_ + l_ / 2).toNat) (l_ % 2)) ≤ 1 then (mdr F_ S0_, gs_) else gmk (rpn S0_) (rpv F_ S0_) (rgc S0_) (F_ - 1) 4000 (3 * ((i_xor (S0_.2.2.1 166 0 (2048 * d_ + l_ / 2).toNat) (l_ % 2)) / 2) + 2 * ((i_xor (S0_.2.2.1 166 0 (2048 * d_ + l_ / 2).toNat) (l_ % 2)) % 2)).toNat (mdr F_ S0_, gs_)) ∧ v_ = (if (i_xor (S0_.2.2.1 166 0 (2048 * d_ + l_ / 2).toNat) (l_ % 2)) ≤ 1 then -1 - (i_xor (S0_.2.2.1 166 0 (2048 * d_ + l_ / 2).toNat) (l_ % 2)) else mdr F_ S1_ (3 * ((i_xor (S0_.2.2.1 166 0 (2048 * d_ + l_ / 2).toNat) (l_ % 2)) / 2) + 2 * ((i_xor (S0_.2.2.1 166 0 (2048 * d_ + l_ / 2).toNat) (l_ % 2)) % 2)).toNat))
set_option maxHeartbeats 2000000 in
set_option maxRecDepth 20000 in
theorem vl_418n {sc_ : Nat × (Nat → Int)} (l_ : Int) (F_ : Int) (N_ : Int) (d_ : Int) (gs_ : List (Int × List Int)) (S0_ : sm_S) (hd_ : dmp F_ N_ d_ S0_) (hal_ : wal9 F_ N_ S0_) (hgd_ : gdr F_ N_ S0_) (hiv_ : (S0_.1 13 0 107) = -1 ∨ S0_.2.2.1 185 0 (12 * S0_.1 13 0 106 + S0_.1 13 0 107).toNat = 1) (hgs_ : gst F_ N_ S0_) (hgz_ : rgz S0_ gs_) (hlk_ : lck S0_ gs_) (hl_ : 0 ≤ l_ ∧ l_ < 2 * N_) (hm_ : mrk F_ S0_ (nod d_ S0_ l_)) : ∀ nn_ : Nat, (∀ (q_ : Int) (S_ : sm_S), gi S_ → ai_fr (sx_W vw_418n) S0_ S_ → ((q_ / 2 = nod d_ S0_ l_ ∧ 2 ≤ q_ ∧ q_ ≤ 2025) ∧ (gst F_ N_ S_) ∧ (jsk F_ N_ S_) ∧ (S0_.1 13 0 129 ≤ S_.1 13 0 129) ∧ (∃ g1_ : List (Int × List Int), rgz S_ g1_ ∧ lck S_ g1_ ∧ gsr (rpn S0_) (rpv F_ S0_) (rgc S0_) (F_ - 1) 4000 (jst S_) (mdr F_ S_, g1_) = gmk (rpn S0_) (rpv F_ S0_) (rgc S0_) (F_ - 1) 4000 (3 * ((i_xor (S0_.2.2.1 166 0 (2048 * d_ + l_ / 2).toNat) (l_ % 2)) / 2) + 2 * ((i_xor (S0_.2.2.1 166 0 (2048 * d_ + l_ / 2).toNat) (l_ % 2)) % 2)).toNat (mdr F_ S0_, gs_)) ∧ (q_ = (i_xor (S0_.2.2.1 166 0 (2048 * d_ + l_ / 2).toNat) (l_ % 2))) ∧ (mrk F_ S0_ (nod d_ S0_ l_)) ∧ True) → (mea_ N_ S_) < nn_ → sm_T (mt_P sc_) 4 418 (44, [some (.inr (.inr (some (13, 0)))), some (.inl l_), some (.inl q_)], [], S_) (fun ro9_ => ∃ u_ S1_, ro9_ = (.inl u_, S1_, 0) ∧ vq_418n l_ F_ N_ d_ gs_ S0_ u_ S1_)) := by
  intro nn_
  induction nn_ with
  | zero => exact fun _ _ _ _ _ h_ => absurd h_ (Nat.not_lt_zero _)
  | succ nn_ ih_ =>
    rintro q_ S_ hI_ hF_ ⟨h0_, hg9_, hj9_, hm9_, hX_, hq_, hmk_, -⟩ hm_
    have d9_ := dmp_fr hd_ hF_
    have d1_ := d9_.1
    have f160_ : S_.2.2.1 160 0 (S_.1 13 0 105).toNat = F_ := by (rw [d1_.2.2.1]; exact d1_.2.2.2.1)
    have nb := nod_b hd_ hl_.1 hl_.2
    have cj_ : 0 ≤ S_.1 13 0 137 := (hI_.1 13 0 137 rfl).1
    have bx1_ : 0 ≤ S_.1 13 0 137 ∧ S_.1 13 0 137 ≤ 8191 := hI_.1 13 0 137 rfl
    refine sm_T_go 2 (c1 := (48, [some (.inr (.inr (some (13, 0)))), some (.inl l_), some (.inl q_)], [.inl (S_.1 13 0 137)], S_)) rfl ?_
    refine sm_T_b0 (a := 5) (z := 10) rfl (fun cx2_ => ?_) (fun cx2_ => ?_)
    · have cx2_ : (S_.1 13 0 137) ≤ 0 := of_decide_eq_true cx2_
      refine sm_T_go 3 (c1 := (61, [some (.inr (.inr (some (13, 0)))), some (.inl l_), some (.inl q_)], [.inl 1, .inl q_, .inr (.inr (some (13, 0)))], S_)) rfl ?_
      refine sm_T_bin (w := (q_ / 2)) rfl (bi_shr (k := 1) (by decide) (by omega) (by omega)) ?_ -- pc_ 61
      refine sm_T_go 2 (c1 := (64, [some (.inr (.inr (some (13, 0)))), some (.inl l_), some (.inl q_)], [.inl 1, .inl q_, .inl (q_ / 2), .inr (.inr (some (13, 0)))], S_)) rfl ?_
      refine sm_T_bin (w := (q_ % 2)) rfl (bi_msk (k := 1) (by decide)) ?_ -- pc_ 64
      refine sm_T_cal (d1 := 2) (Q1 := vq_415 (q_ / 2) (q_ % 2) F_ S_) rfl rfl (by decide) (vc_415 (q_ / 2) (q_ % 2) F_ S_ hI_ (by exact f160_) (by omega)) (fun u_ Sx3_ px6_ => ?_)
      obtain ⟨rfl, vx8_, rfl, px6_⟩ := px6_
      have e65_ := px6_
      refine sm_T_ri rfl ⟨_, _, rfl, _, rfl, hI_, hF_, ?_⟩
      refine ⟨?_, ?_⟩
      · have b9_ := noi_b hg9_ (x_ := q_ / 2) (t_ := q_ % 2) (by omega) (by omega)
        rw [← e65_.1] at b9_
        exact ⟨hg9_, hm9_, by (rcases b9_ with b9_ | b9_; exact Or.inl b9_; exact Or.inr (Or.inr b9_))⟩
      · obtain ⟨g9_, z9x, l9x, x9x⟩ := hX_
        have j0_ : jst S_ = [] := by (unfold jst; rw [show (S_.1 13 0 137).toNat = 0 by omega]; rfl)
        rw [j0_] at x9x
        refine ⟨g9_, z9x, l9x, ?_, ?_⟩
        · rw [if_neg (by omega)]; exact x9x
        · rw [if_neg (by omega), e65_.1, ← hq_]
          have L9_ := ltk_r (F_ := F_) (q_ := q_) (S_ := S_) (by (have y9_ := hmk_.2; rw [h0_.1, fr_arr (t := 203) (i := 0) hF_ rfl]; exact y9_))
          rw [← L9_]
          exact (mdr_n (by omega) (by omega)).symm
    · have cx2_ : ¬ ((S_.1 13 0 137) ≤ 0) := of_decide_eq_false cx2_
      obtain ⟨g9_, z9x, l9x, x9x⟩ := hX_
      refine sm_T_go 1 (c1 := (52, [some (.inr (.inr (some (13, 0)))), some (.inl l_), some (.inl q_)], [.inr (.inr (some (13, 0)))], S_)) rfl ?_
      refine sm_T_cal (d1 := 3) (Q1 := vq_417n F_ N_ d_ g9_ S_) rfl rfl (by decide) (vc_417n F_ N_ d_ g9_ S_ hI_ (by exact d9_) (by exact wal9_cg hal_ (fr_arr hF_ rfl) (fr_arr hF_ rfl) (fr_arr hF_ rfl) (fr_arr hF_ rfl) (fr_arr hF_ rfl) (fr_arr hF_ rfl) (fr_arr hF_ rfl) (fr_arr hF_ rfl) (fr_arr hF_ rfl) (hF_.1 13 0 106 rfl) (hF_.1 13 0 108 rfl)) (by exact gdr_cg hgd_ (fr_arr hF_ rfl) (fr_arr hF_ rfl) (fr_arr hF_ rfl)) (by (rw [hF_.1 13 0 107 rfl, hF_.1 13 0 106 rfl, fr_arr hF_ (t := 185) rfl]; exact hiv_)) (by exact hg9_) (by exact hj9_) (by omega) (by exact z9x) (by exact l9x)) (fun u_ Sx9_ px12_ => ?_)
      obtain ⟨rfl, hIx10_, hFx11_, px12_⟩ := px12_
      have hFx13_ : ai_fr (sx_W vw_418n) S0_ Sx9_ := ai_fr_tr hF_ (fr_le hFx11_ rfl)
      have e52_ := (px12_).1
      have X52_ := (px12_).2
      have rq9_ := rp_fr (F_ := F_) hF_
      rw [rq9_.1, rq9_.2.1, rq9_.2.2] at X52_
      refine sm_T_go 1 (c1 := (44, [some (.inr (.inr (some (13, 0)))), some (.inl l_), some (.inl q_)], [], Sx9_)) rfl ?_
      refine ih_ q_ Sx9_ hIx10_ hFx13_ ⟨?_, ?_, ?_, ?_, ?_, ?_, ?_, trivial⟩ ?_
      · exact h0_
      · exact e52_.1
      · exact e52_.2.1
      · omega
      · obtain ⟨g8_, z8x, l8x, x8x⟩ := X52_
        exact ⟨g8_, z8x, l8x, x8x.trans x9x⟩
      · exact hq_
      · exact hmk_
      · (have y9_ := e52_.2.2.1; omega)
set_option maxHeartbeats 2000000 in
set_option maxRecDepth 20000 in
theorem vc_418n {sc_ : Nat × (Nat → Int)} (l_ : Int) (F_ : Int) (N_ : Int) (d_ : Int) (gs_ : List (Int × List Int)) (S0_ : sm_S) (hI_ : gi S0_) (hd_ : dmp F_ N_ d_ S0_) (hal_ : wal9 F_ N_ S0_) (hgd_ : gdr F_ N_ S0_) (hiv_ : (S0_.1 13 0 107) = -1 ∨ S0_.2.2.1 185 0 (12 * S0_.1 13 0 106 + S0_.1 13 0 107).toNat = 1) (hgs_ : gst F_ N_ S0_) (hgz_ : rgz S0_ gs_) (hlk_ : lck S0_ gs_) (hl_ : 0 ≤ l_ ∧ l_ < 2 * N_) (hm_ : mrk F_ S0_ (nod d_ S0_ l_)) : sm_T (mt_P sc_) 4 418 (0, [some (.inr (.inr (some (13, 0)))), some (.inl l_), none], [], S0_) (fun ro9_ => ∃ u_ S1_, ro9_ = (.inl u_, S1_, 0) ∧ vq_418n l_ F_ N_ d_ gs_ S0_ u_ S1_) := by
  have hF_ : ai_fr (sx_W vw_418n) S0_ S0_ := ai_fr_rf
  have d1_ := hd_.1
  have f160_ : S0_.2.2.1 160 0 (S0_.1 13 0 105).toNat = F_ := by (rw [d1_.2.2.1]; exact d1_.2.2.2.1)
  have nb := nod_b hd_ hl_.1 hl_.2
  refine sm_T_go 2 (c1 := (2, [some (.inr (.inr (some (13, 0)))), some (.inl l_), none], [.inl l_, .inr (.inr (some (13, 0)))], S0_)) rfl ?_
  refine sm_T_cal (d1 := 0) (Q1 := vq_392 l_ F_ N_ d_ S0_) rfl rfl (by decide) (vc_392 l_ F_ N_ d_ S0_ hI_ (by exact hd_) (by exact hl_)) (fun u_ Sx1_ px4_ => ?_)
  obtain ⟨rfl, vx6_, rfl, px4_⟩ := px4_
  have e2_ := px4_
  have k2_ := e2_.2.2.2
  refine sm_T_go 3 (c1 := (8, [some (.inr (.inr (some (13, 0)))), some (.inl l_), some (.inl vx6_)], [.inl 2, .inl vx6_], S0_)) rfl ?_
  refine sm_T_br (a := 3) (z := 7) rfl (fun cx7_ => ?_) (fun cx7_ => ?_)
  · have cx7_ : 2 ≤ vx6_ := of_decide_eq_true cx7_
    have hIx8_ : gi (sm_pI S0_ 13 0 137 0) := gi_pI hI_ (show 0 ≤ 0 ∧ 0 ≤ 8191 from ⟨by omega, by omega⟩)
    have hFx9_ : ai_fr (sx_W vw_418n) S0_ (sm_pI S0_ 13 0 137 0) := ai_fr_tr hF_ (ai_fr_pI rfl)
    refine sm_T_go 6 (c1 := (23, [some (.inr (.inr (some (13, 0)))), some (.inl l_), some (.inl vx6_)], [.inl 1, .inl vx6_, .inr (.inr (some (13, 0)))], sm_pI S0_ 13 0 137 0)) rfl ?_
    refine sm_T_bin (w := (vx6_ / 2)) rfl (bi_shr (k := 1) (by decide) (by omega) (by omega)) ?_ -- pc_ 23
    refine sm_T_go 2 (c1 := (26, [some (.inr (.inr (some (13, 0)))), some (.inl l_), some (.inl vx6_)], [.inl 1, .inl vx6_, .inl (vx6_ / 2), .inr (.inr (some (13, 0)))], sm_pI S0_ 13 0 137 0)) rfl ?_
    refine sm_T_bin (w := (vx6_ % 2)) rfl (bi_msk (k := 1) (by decide)) ?_ -- pc_ 26
    refine sm_T_cal (d1 := 2) (Q1 := vq_415 (vx6_ / 2) (vx6_ % 2) F_ (sm_pI S0_ 13 0 137 0)) rfl rfl (by decide) (vc_415 (vx6_ / 2) (vx6_ % 2) F_ (sm_pI S0_ 13 0 137 0) hIx8_ (by exact f160_) (by omega)) (fun u_ Sx10_ px13_ => ?_)
    obtain ⟨rfl, vx15_, rfl, px13_⟩ := px13_
    have e27_ := px13_
    refine sm_T_go 1 (c1 := (31, [some (.inr (.inr (some (13, 0)))), some (.inl l_), some (.inl vx6_)], [.inl (-1), .inl vx15_], sm_pI S0_ 13 0 137 0)) rfl ?_
    refine sm_T_br (a := 1) (z := 13) rfl (fun cx16_ => ?_) (fun cx16_ => ?_)
    · have cx16_ : vx15_ ≠ (-1) := of_decide_eq_true cx16_
      refine sm_T_go 0 (c1 := (44, [some (.inr (.inr (some (13, 0)))), some (.inl l_), some (.inl vx6_)], [], sm_pI S0_ 13 0 137 0)) rfl ?_
      refine (vl_418n l_ F_ N_ d_ gs_ S0_ hd_ hal_ hgd_ hiv_ hgs_ hgz_ hlk_ hl_ hm_ _) vx6_ (sm_pI S0_ 13 0 137 0) hIx8_ hFx9_ ⟨?_, ?_, ?_, ?_, ?_, ?_, ?_, trivial⟩ (Nat.lt_succ_self _)
      · omega
      · have G9_ : gst F_ N_ (sm_pI S0_ 13 0 137 0) := gst_cg hgs_ (rf_nk (by decide)) rfl rfl rfl rfl rfl (rf_nk (by decide)) (rf_nk (by decide))
        first | (have y8_ := f41_; exact gst_cg G9_ (f41_.1 13 0 129 rfl) (fr_arr f41_ rfl) (fr_arr f41_ rfl) (fr_arr f41_ rfl) (fr_arr f41_ rfl) (fr_arr f41_ rfl) (f41_.1 13 0 106 rfl) (f41_.1 13 0 134 rfl)) | exact G9_
      · have M9_ : mrk F_ (sm_pI S0_ 13 0 137 0) (nod d_ S0_ l_) := hm_
        rw [← e2_.1] at M9_
        first | (have y8_ := e41_; exact jsk_1 (S_ := sm_pI S0_ 13 0 137 0) (by assumption) (by omega) (by omega) (by omega) rf_eq (gdr_cg hgd_ rfl rfl rfl) M9_ (by (rw [← e27_.1]; omega)) e41_ (fr_arr f41_ rfl) (fr_arr f41_ rfl) (fr_arr f41_ rfl) (fr_arr f41_ rfl)) | exact jsk_0 rf_eq
      · have r9_ : (sm_pI S0_ 13 0 137 0).1 13 0 129 = S0_.1 13 0 129 := rf_nk (by decide)
        first | (have y8_ := f41_.1 13 0 129 rfl; omega) | omega
      · have P9_ : rpn (sm_pI S0_ 13 0 137 0) = rpn S0_ := rfl
        have mk9_ : mdr F_ (sm_pI S0_ 13 0 137 0) = mdr F_ S0_ := rfl
        have lk9_ : ltk F_ S0_ ((i_xor (S0_.2.2.1 166 0 (2048 * d_ + l_ / 2).toNat) (l_ % 2)) / 2) ((i_xor (S0_.2.2.1 166 0 (2048 * d_ + l_ / 2).toNat) (l_ % 2)) % 2) = 3 * ((i_xor (S0_.2.2.1 166 0 (2048 * d_ + l_ / 2).toNat) (l_ % 2)) / 2) + 2 * ((i_xor (S0_.2.2.1 166 0 (2048 * d_ + l_ / 2).toNat) (l_ % 2)) % 2) := ltk_r (by (have y9_ := hm_.2; rw [← e2_.1, k2_] at y9_; exact y9_))
        have md9_ := mdr_n (F_ := F_) (S_ := S0_) (y_ := (i_xor (S0_.2.2.1 166 0 (2048 * d_ + l_ / 2).toNat) (l_ % 2)) / 2) (b_ := (i_xor (S0_.2.2.1 166 0 (2048 * d_ + l_ / 2).toNat) (l_ % 2)) % 2) (by (rw [← k2_]; omega)) (by omega)
        rw [lk9_] at md9_
        have nq9_ : noi F_ (sm_pI S0_ 13 0 137 0) = noi F_ S0_ := rfl
        first | (have y8_ := f41_; refine ⟨gs_, rgz_fr (rgz_fr (w_ := ([(13, 137)], [], [])) hgz_ (ai_fr_pI rfl)) f41_, by (unfold lck; rw [f41_.1 13 0 134 rfl, rf_nk (by decide)]; exact hlk_), ?_⟩; have jj9_ : jst (sm_pI S0_ 13 0 137 0) = [] := (by (unfold jst; rw [rf_eq]; rfl)); have mm9_ : mdr F_ (sm_pI S0_ 13 0 137 0) = mdr F_ S0_ := (by (rw [mdr_cg (fr_arr f41_ rfl) (fr_arr f41_ rfl)]; rfl)); have tt9_ : jst (sm_pI S0_ 13 0 137 0) = [(3 * ((i_xor (S0_.2.2.1 166 0 (2048 * d_ + l_ / 2).toNat) (l_ % 2)) / 2) + 2 * ((i_xor (S0_.2.2.1 166 0 (2048 * d_ + l_ / 2).toNat) (l_ % 2)) % 2)).toNat] := (by (rcases e41_ with a9_ | a9_; (rw [jst_push a9_.2.2 (by (rw [rf_eq]; decide)), jj9_, jtk_1, k2_]; have b9_ := a9_.2.1; rw [k2_] at b9_; rw [show (3 * ((i_xor (S0_.2.2.1 166 0 (2048 * d_ + l_ / 2).toNat) (l_ % 2)) / 2) + 2 * ((i_xor (S0_.2.2.1 166 0 (2048 * d_ + l_ / 2).toNat) (l_ % 2)) % 2)) = 3 * ((i_xor (S0_.2.2.1 166 0 (2048 * d_ + l_ / 2).toNat) (l_ % 2)) / 2) + 2 by omega]); (rw [jst_push a9_.2 (by (rw [rf_eq]; decide)), jj9_, jtk_0, k2_]; have y9_ := hm_.2; rw [← e2_.1, k2_] at y9_; have b9_ : (i_xor (S0_.2.2.1 166 0 (2048 * d_ + l_ / 2).toNat) (l_ % 2)) % 2 = 0 := (by (have a8_ := a9_.1; rw [k2_] at a8_; rcases a8_ with b9_ | b9_; (exfalso; rcases y9_ with y9_ | y9_; omega; (have c9_ := b9_.2; rw [show (sm_pI S0_ 13 0 137 0).2.2.1 203 0 ((i_xor (S0_.2.2.1 166 0 (2048 * d_ + l_ / 2).toNat) (l_ % 2)) / 2).toNat = S0_.2.2.1 203 0 ((i_xor (S0_.2.2.1 166 0 (2048 * d_ + l_ / 2).toNat) (l_ % 2)) / 2).toNat from rfl, y9_] at c9_; exact absurd c9_ (by decide))); exact b9_)); rw [show 3 * ((2 * ((i_xor (S0_.2.2.1 166 0 (2048 * d_ + l_ / 2).toNat) (l_ % 2)) / 2) + (i_xor (S0_.2.2.1 166 0 (2048 * d_ + l_ / 2).toNat) (l_ % 2)) % 2) / 2) + (2 * ((i_xor (S0_.2.2.1 166 0 (2048 * d_ + l_ / 2).toNat) (l_ % 2)) / 2) + (i_xor (S0_.2.2.1 166 0 (2048 * d_ + l_ / 2).toNat) (l_ % 2)) % 2) % 2 = 3 * ((i_xor (S0_.2.2.1 166 0 (2048 * d_ + l_ / 2).toNat) (l_ % 2)) / 2) + 2 * ((i_xor (S0_.2.2.1 166 0 (2048 * d_ + l_ / 2).toNat) (l_ % 2)) % 2) by omega]))); rw [tt9_, mm9_]; rfl) | (refine ⟨gs_, rgz_fr (w_ := ([(13, 137)], [], [])) hgz_ (ai_fr_pI rfl), by (unfold lck; rw [rf_nk (by decide)]; exact hlk_), ?_⟩; have jj9_ : jst (sm_pI S0_ 13 0 137 0) = [] := (by (unfold jst; rw [rf_eq]; rfl)); rw [jj9_]; have n27_ := e27_.1; rw [k2_, nq9_, ← md9_] at n27_; exact (gmk_n (s_ := (mdr F_ S0_, gs_)) (show ¬ mdr F_ S0_ (3 * ((i_xor (S0_.2.2.1 166 0 (2048 * d_ + l_ / 2).toNat) (l_ % 2)) / 2) + 2 * ((i_xor (S0_.2.2.1 166 0 (2048 * d_ + l_ / 2).toNat) (l_ % 2)) % 2)).toNat = -1 by (rw [← n27_]; omega))).symm)
      · exact k2_
      · exact hm_
    · have cx16_ : ¬ (vx15_ ≠ (-1)) := of_decide_eq_false cx16_
      refine sm_T_go 3 (c1 := (37, [some (.inr (.inr (some (13, 0)))), some (.inl l_), some (.inl vx6_)], [.inl 1, .inl vx6_, .inr (.inr (some (13, 0)))], sm_pI S0_ 13 0 137 0)) rfl ?_
      refine sm_T_bin (w := (vx6_ / 2)) rfl (bi_shr (k := 1) (by decide) (by omega) (by omega)) ?_ -- pc_ 37
      refine sm_T_go 2 (c1 := (40, [some (.inr (.inr (some (13, 0)))), some (.inl l_), some (.inl vx6_)], [.inl 1, .inl vx6_, .inl (vx6_ / 2), .inr (.inr (some (13, 0)))], sm_pI S0_ 13 0 137 0)) rfl ?_
      refine sm_T_bin (w := (vx6_ % 2)) rfl (bi_msk (k := 1) (by decide)) ?_ -- pc_ 40
      refine sm_T_cal (d1 := 2) (Q1 := vq_416 (vx6_ / 2) (vx6_ % 2) F_ (sm_pI S0_ 13 0 137 0)) rfl rfl (by decide) (vc_416 (vx6_ / 2) (vx6_ % 2) F_ (sm_pI S0_ 13 0 137 0) hIx8_ (by exact f160_) (by omega) (by ((try simp only [rd_eq, rd_ne, rf_eq, rf_nk, rf_nt, rd_fa, rd_af, rd_fl, rd_al, rd_lf, rd_la, rd_leq, rd_lne, rd_fr, rd_ar, ne_eq, Nat.reduceEqDiff, not_false_eq_true]); omega))) (fun u_ Sx17_ px20_ => ?_)
      obtain ⟨rfl, hIx18_, hFx19_, px20_⟩ := px20_
      have hFx21_ : ai_fr (sx_W vw_418n) S0_ Sx17_ := ai_fr_tr hFx9_ (fr_le hFx19_ rfl)
      have e41_ := px20_
      have f41_ := hFx19_
      refine sm_T_go 0 (c1 := (44, [some (.inr (.inr (some (13, 0)))), some (.inl l_), some (.inl vx6_)], [], Sx17_)) rfl ?_
      refine (vl_418n l_ F_ N_ d_ gs_ S0_ hd_ hal_ hgd_ hiv_ hgs_ hgz_ hlk_ hl_ hm_ _) vx6_ Sx17_ hIx18_ hFx21_ ⟨?_, ?_, ?_, ?_, ?_, ?_, ?_, trivial⟩ (Nat.lt_succ_self _)
      · omega
      · have G9_ : gst F_ N_ (sm_pI S0_ 13 0 137 0) := gst_cg hgs_ (rf_nk (by decide)) rfl rfl rfl rfl rfl (rf_nk (by decide)) (rf_nk (by decide))
        first | (have y8_ := f41_; exact gst_cg G9_ (f41_.1 13 0 129 rfl) (fr_arr f41_ rfl) (fr_arr f41_ rfl) (fr_arr f41_ rfl) (fr_arr f41_ rfl) (fr_arr f41_ rfl) (f41_.1 13 0 106 rfl) (f41_.1 13 0 134 rfl)) | exact G9_
      · have M9_ : mrk F_ (sm_pI S0_ 13 0 137 0) (nod d_ S0_ l_) := hm_
        rw [← e2_.1] at M9_
        first | (have y8_ := e41_; exact jsk_1 (S_ := sm_pI S0_ 13 0 137 0) (by assumption) (by omega) (by omega) (by omega) rf_eq (gdr_cg hgd_ rfl rfl rfl) M9_ (by (rw [← e27_.1]; omega)) e41_ (fr_arr f41_ rfl) (fr_arr f41_ rfl) (fr_arr f41_ rfl) (fr_arr f41_ rfl)) | exact jsk_0 rf_eq
      · have r9_ : (sm_pI S0_ 13 0 137 0).1 13 0 129 = S0_.1 13 0 129 := rf_nk (by decide)
        first | (have y8_ := f41_.1 13 0 129 rfl; omega) | omega
      · have P9_ : rpn (sm_pI S0_ 13 0 137 0) = rpn S0_ := rfl
        have mk9_ : mdr F_ (sm_pI S0_ 13 0 137 0) = mdr F_ S0_ := rfl
        have lk9_ : ltk F_ S0_ ((i_xor (S0_.2.2.1 166 0 (2048 * d_ + l_ / 2).toNat) (l_ % 2)) / 2) ((i_xor (S0_.2.2.1 166 0 (2048 * d_ + l_ / 2).toNat) (l_ % 2)) % 2) = 3 * ((i_xor (S0_.2.2.1 166 0 (2048 * d_ + l_ / 2).toNat) (l_ % 2)) / 2) + 2 * ((i_xor (S0_.2.2.1 166 0 (2048 * d_ + l_ / 2).toNat) (l_ % 2)) % 2) := ltk_r (by (have y9_ := hm_.2; rw [← e2_.1, k2_] at y9_; exact y9_))
        have md9_ := mdr_n (F_ := F_) (S_ := S0_) (y_ := (i_xor (S0_.2.2.1 166 0 (2048 * d_ + l_ / 2).toNat) (l_ % 2)) / 2) (b_ := (i_xor (S0_.2.2.1 166 0 (2048 * d_ + l_ / 2).toNat) (l_ % 2)) % 2) (by (rw [← k2_]; omega)) (by omega)
        rw [lk9_] at md9_
        have nq9_ : noi F_ (sm_pI S0_ 13 0 137 0) = noi F_ S0_ := rfl
        first | (have y8_ := f41_; refine ⟨gs_, rgz_fr (rgz_fr (w_ := ([(13, 137)], [], [])) hgz_ (ai_fr_pI rfl)) f41_, by (unfold lck; rw [f41_.1 13 0 134 rfl, rf_nk (by decide)]; exact hlk_), ?_⟩; have jj9_ : jst (sm_pI S0_ 13 0 137 0) = [] := (by (unfold jst; rw [rf_eq]; rfl)); have mm9_ : mdr F_ Sx17_ = mdr F_ S0_ := (by (rw [mdr_cg (fr_arr f41_ rfl) (fr_arr f41_ rfl)]; rfl)); have tt9_ : jst Sx17_ = [(3 * ((i_xor (S0_.2.2.1 166 0 (2048 * d_ + l_ / 2).toNat) (l_ % 2)) / 2) + 2 * ((i_xor (S0_.2.2.1 166 0 (2048 * d_ + l_ / 2).toNat) (l_ % 2)) % 2)).toNat] := (by (rcases e41_ with a9_ | a9_; (rw [jst_push a9_.2.2 (by (rw [rf_eq]; decide)), jj9_, jtk_1, k2_]; have b9_ := a9_.2.1; rw [k2_] at b9_; rw [show (3 * ((i_xor (S0_.2.2.1 166 0 (2048 * d_ + l_ / 2).toNat) (l_ % 2)) / 2) + 2 * ((i_xor (S0_.2.2.1 166 0 (2048 * d_ + l_ / 2).toNat) (l_ % 2)) % 2)) = 3 * ((i_xor (S0_.2.2.1 166 0 (2048 * d_ + l_ / 2).toNat) (l_ % 2)) / 2) + 2 by omega]); (rw [jst_push a9_.2 (by (rw [rf_eq]; decide)), jj9_, jtk_0, k2_]; have y9_ := hm_.2; rw [← e2_.1, k2_] at y9_; have b9_ : (i_xor (S0_.2.2.1 166 0 (2048 * d_ + l_ / 2).toNat) (l_ % 2)) % 2 = 0 := (by (have a8_ := a9_.1; rw [k2_] at a8_; rcases a8_ with b9_ | b9_; (exfalso; rcases y9_ with y9_ | y9_; omega; (have c9_ := b9_.2; rw [show (sm_pI S0_ 13 0 137 0).2.2.1 203 0 ((i_xor (S0_.2.2.1 166 0 (2048 * d_ + l_ / 2).toNat) (l_ % 2)) / 2).toNat = S0_.2.2.1 203 0 ((i_xor (S0_.2.2.1 166 0 (2048 * d_ + l_ / 2).toNat) (l_ % 2)) / 2).toNat from rfl, y9_] at c9_; exact absurd c9_ (by decide))); exact b9_)); rw [show 3 * ((2 * ((i_xor (S0_.2.2.1 166 0 (2048 * d_ + l_ / 2).toNat) (l_ % 2)) / 2) + (i_xor (S0_.2.2.1 166 0 (2048 * d_ + l_ / 2).toNat) (l_ % 2)) % 2) / 2) + (2 * ((i_xor (S0_.2.2.1 166 0 (2048 * d_ + l_ / 2).toNat) (l_ % 2)) / 2) + (i_xor (S0_.2.2.1 166 0 (2048 * d_ + l_ / 2).toNat) (l_ % 2)) % 2) % 2 = 3 * ((i_xor (S0_.2.2.1 166 0 (2048 * d_ + l_ / 2).toNat) (l_ % 2)) / 2) + 2 * ((i_xor (S0_.2.2.1 166 0 (2048 * d_ + l_ / 2).toNat) (l_ % 2)) % 2) by omega]))); rw [tt9_, mm9_]; rfl) | (refine ⟨gs_, rgz_fr (w_ := ([(13, 137)], [], [])) hgz_ (ai_fr_pI rfl), by (unfold lck; rw [rf_nk (by decide)]; exact hlk_), ?_⟩; have jj9_ : jst (sm_pI S0_ 13 0 137 0) = [] := (by (unfold jst; rw [rf_eq]; rfl)); rw [jj9_]; have n27_ := e27_.1; rw [k2_, nq9_, ← md9_] at n27_; exact (gmk_n (s_ := (mdr F_ S0_, gs_)) (show ¬ mdr F_ S0_ (3 * ((i_xor (S0_.2.2.1 166 0 (2048 * d_ + l_ / 2).toNat) (l_ % 2)) / 2) + 2 * ((i_xor (S0_.2.2.1 166 0 (2048 * d_ + l_ / 2).toNat) (l_ % 2)) % 2)).toNat = -1 by (rw [← n27_]; omega))).symm)
      · exact k2_
      · exact hm_
  · have cx7_ : ¬ (2 ≤ vx6_) := of_decide_eq_false cx7_
    refine sm_T_go 2 (c1 := (13, [some (.inr (.inr (some (13, 0)))), some (.inl l_), some (.inl vx6_)], [.inl vx6_, .inl (-1)], S0_)) rfl ?_
    refine sm_T_bin (w := -vx6_ - 1) rfl (bi_sub (by omega) (by omega) (by omega)) ?_ -- pc_ 13
    refine sm_T_ri rfl ⟨_, _, rfl, _, rfl, hI_, hF_, ?_⟩
    refine ⟨⟨hgs_, by omega, by omega⟩, gs_, hgz_, hlk_, ?_, ?_⟩
    · rw [if_pos (by omega)]
    · rw [if_pos (by omega)]; omega
end
/-! 99.ztZe -/
section
/-! both sides have the same ways of a node; written by wip/p55/gen/vg -/

/-! both sides' ways of_ a_ node -/
def cnn (F_ : Nat) (S_ : sm_S) (y_ : Nat) : Bool := decide (F_ ≤ y_ ∧ S_.2.2.1 60 0 y_ = 0)
def ccl (dd_ : Nat) (S_ : sm_S) (y_ : Nat) : Nat := srp dd_ S_ (S_.2.2.1 42 (0 + dd_) y_)
def cch (dd_ : Nat) (S_ : sm_S) (y_ : Nat) : Nat := srp dd_ S_ (S_.2.2.1 43 (0 + dd_) y_)
def ctl (dd_ : Nat) (S_ : sm_S) (y_ : Nat) : Int := slt dd_ S_ (S_.2.2.1 42 (0 + dd_) y_) % 2
def ctu (dd_ : Nat) (S_ : sm_S) (y_ : Nat) : Int := slt dd_ S_ (S_.2.2.1 43 (0 + dd_) y_) % 2
def rnn (F_ : Int) (R_ : sm_S) (y_ : Nat) : Bool := decide (F_ ≤ (y_ : Int) ∧ R_.2.2.1 203 0 y_ = 0)
def rcu (R_ : sm_S) (y_ : Nat) : Nat := (R_.2.2.1 199 0 y_ / 2).toNat
def rhq (R_ : sm_S) (y_ : Nat) : Nat := (R_.2.2.1 200 0 y_ / 2).toNat
def rtl (R_ : sm_S) (y_ : Nat) : Int := R_.2.2.1 199 0 y_ % 2
def rtu (R_ : sm_S) (y_ : Nat) : Int := R_.2.2.1 200 0 y_ % 2
def car (ll_ : Nat) (S_ : sm_S) (cell : Nat) : Int := S_.2.2.1 57 (0 + ll_) cell
def cip (ll_ : Nat) (S_ : sm_S) (cell : Nat) : Nat := (S_.2.2.1 55 (0 + ll_) cell).toNat
def rar (R_ : sm_S) (cell : Nat) : Int := R_.2.2.1 187 0 (12 * R_.1 13 0 106 + (cell : Int)).toNat
def rip (R_ : sm_S) (cell : Nat) : Nat := (R_.2.2.1 185 0 (12 * R_.1 13 0 106 + (cell : Int)).toNat).toNat
def rfq (R_ : sm_S) (cell : Nat) : Int := R_.2.2.1 186 0 (12 * R_.1 13 0 106 + (cell : Int)).toNat
/-- all_ that is_ said of_ a_ node's ways, the_ class -/
def cnw (dd_ F_ ll_ : Nat) (T_ : Nat → Prop) (S_ : sm_S) (x_ : Nat) : Prop := ∃ (m_ : Nat) (Q_ : Nat → List Nat) (TB_ : Nat → Int), (crn (cnn F_ S_) (ccl dd_ S_) (cch dd_ S_) x_ m_).length ≤ m_ / 3 ∧ prm (crn (cnn F_ S_) (ccl dd_ S_) (cch dd_ S_) x_ m_).length Q_ (fun i_ => (crn (cnn F_ S_) (ccl dd_ S_) (cch dd_ S_) x_ m_).getD i_ []) ∧ sor (crn (cnn F_ S_) (ccl dd_ S_) (cch dd_ S_) x_ m_).length Q_ ∧ (∀ i_, i_ < (crn (cnn F_ S_) (ccl dd_ S_) (cch dd_ S_) x_ m_).length → ((2 ≤ (Q_ i_).length ∧ (Q_ i_).length ≤ 3) ∧ Q_ i_ ∈ crn (cnn F_ S_) (ccl dd_ S_) (cch dd_ S_) x_ m_) ∧ tbo (ccl dd_ S_) (cch dd_ S_) (ctl dd_ S_) (ctu dd_ S_) T_ x_ (Q_ i_) (TB_ i_)) ∧ fnc ll_ S_ (2 * x_) (wbs adc (pcc (F_ : Int) ll_ S_) (hcf (S_.2.2.1 69 0) TB_ Q_ 0) (car ll_ S_) (cip ll_ S_) Q_ (crn (cnn F_ S_) (ccl dd_ S_) (cch dd_ S_) x_ m_).length (S_.1 5 ll_ 1).toNat 268435456) (wbs adc (pcc (F_ : Int) ll_ S_) (hcf (S_.2.2.1 69 0) TB_ Q_ 1) (car ll_ S_) (cip ll_ S_) Q_ (crn (cnn F_ S_) (ccl dd_ S_) (cch dd_ S_) x_ m_).length (S_.1 5 ll_ 1).toNat 268435456) ∧ fnc ll_ S_ (2 * x_ + 1) (wbs adc (pcc (F_ : Int) ll_ S_) (hcf (S_.2.2.1 69 0) TB_ Q_ 1) (car ll_ S_) (cip ll_ S_) Q_ (crn (cnn F_ S_) (ccl dd_ S_) (cch dd_ S_) x_ m_).length (S_.1 5 ll_ 1).toNat 268435456) (wbs adc (pcc (F_ : Int) ll_ S_) (hcf (S_.2.2.1 69 0) TB_ Q_ 0) (car ll_ S_) (cip ll_ S_) Q_ (crn (cnn F_ S_) (ccl dd_ S_) (cch dd_ S_) x_ m_).length (S_.1 5 ll_ 1).toNat 268435456)
/-- the_ reference -/
def rnw (F_ : Int) (T_ : Nat → Prop) (R_ : sm_S) (x_ : Nat) : Prop := ∃ (m_ : Nat) (Q_ : Nat → List Nat) (TB_ : Nat → Int), (crn (rnn F_ R_) (rcu R_) (rhq R_) x_ m_).length ≤ m_ / 3 ∧ prm (crn (rnn F_ R_) (rcu R_) (rhq R_) x_ m_).length Q_ (fun i_ => (crn (rnn F_ R_) (rcu R_) (rhq R_) x_ m_).getD i_ []) ∧ sor (crn (rnn F_ R_) (rcu R_) (rhq R_) x_ m_).length Q_ ∧ (∀ i_, i_ < (crn (rnn F_ R_) (rcu R_) (rhq R_) x_ m_).length → ((2 ≤ (Q_ i_).length ∧ (Q_ i_).length ≤ 3) ∧ Q_ i_ ∈ crn (rnn F_ R_) (rcu R_) (rhq R_) x_ m_) ∧ tbq (rcu R_) (rhq R_) (rtl R_) (rtu R_) T_ x_ (Q_ i_) (TB_ i_)) ∧ fnr R_ (2 * x_) (wbs adr (pcq F_ R_) (hrf (rfq R_) TB_ Q_ 0) (rar R_) (rip R_) Q_ (crn (rnn F_ R_) (rcu R_) (rhq R_) x_ m_).length (R_.2.2.1 184 0 (R_.1 13 0 106).toNat).toNat 1000000000) (wbs adr (pcq F_ R_) (hrf (rfq R_) TB_ Q_ 1) (rar R_) (rip R_) Q_ (crn (rnn F_ R_) (rcu R_) (rhq R_) x_ m_).length (R_.2.2.1 184 0 (R_.1 13 0 106).toNat).toNat 1000000000) ∧ fnr R_ (2 * x_ + 1) (wbs adr (pcq F_ R_) (hrf (rfq R_) TB_ Q_ 1) (rar R_) (rip R_) Q_ (crn (rnn F_ R_) (rcu R_) (rhq R_) x_ m_).length (R_.2.2.1 184 0 (R_.1 13 0 106).toNat).toNat 1000000000) (wbs adr (pcq F_ R_) (hrf (rfq R_) TB_ Q_ 0) (rar R_) (rip R_) Q_ (crn (rnn F_ R_) (rcu R_) (rhq R_) x_ m_).length (R_.2.2.1 184 0 (R_.1 13 0 106).toNat).toNat 1000000000)
/-- a_ literal is_ made alike -/
def wye (ll_ : Nat) (S_ R_ : sm_S) (l_ : Nat) : Prop := (S_.2.2.1 61 0 l_ = 268435456 ∧ S_.2.2.1 62 0 l_ = -1 ∧ R_.2.2.1 210 0 l_ = 1000000000) ∨ (S_.2.2.1 61 0 l_ < 268435456 ∧ R_.2.2.1 210 0 l_ < 1000000000 ∧ ((S_.2.2.1 62 0 l_ = -2 ∧ R_.2.2.1 211 0 l_ = 1) ∨ (R_.2.2.1 211 0 l_ = 0 ∧ (0 ≤ S_.2.2.1 62 0 l_ ∧ S_.2.2.1 62 0 l_ < S_.1 5 ll_ 1) ∧ S_.2.2.1 62 0 l_ = R_.2.2.1 207 0 l_ ∧ S_.2.2.1 63 0 l_ = R_.2.2.1 209 0 l_ ∧ ∀ k_ : Nat, (k_ : Int) < S_.2.2.1 55 (0 + ll_) (S_.2.2.1 62 0 l_).toNat → S_.2.2.1 64 0 (3 * l_ + k_) = R_.2.2.1 208 0 (3 * l_ + k_))))
/-- a_ way_ that is_ there is_ of_ a_ cell that is_ there -/
theorem cfo_p {P_ : Int × Int × Int × (Nat → Int) → Prop} {f_ : Nat → Int × Int × Int × (Nat → Int) → Int × Int × Int × (Nat → Int)} {b_ : Int × Int × Int × (Nat → Int)} (h0_ : P_ b_) : ∀ m_ : Nat, (∀ i_ b_, i_ < m_ → P_ b_ → P_ (f_ i_ b_)) → P_ (cfo f_ m_ b_)
  | 0, _ => h0_
  | m_ + 1, h_ => by
    rw [cfo_s]
    exact h_ m_ _ (Nat.lt_succ_self m_) (cfo_p h0_ m_ (fun i_ b_ hi_ => h_ i_ b_ (by omega)))
theorem wbs_c {ad_ pc_ : Int → Int → Int} {hit_ : Nat → Nat → Nat → Bool} {ar_ : Nat → Int} {inp : Nat → Nat} {Q_ : Nat → List Nat} {len_ nc : Nat} {inf_ : Int} : (wbs ad_ pc_ hit_ ar_ inp Q_ len_ nc inf_).1 = inf_ ∨ ∃ cell, cell < nc ∧ (wbs ad_ pc_ hit_ ar_ inp Q_ len_ nc inf_).2.1 = (cell : Int) := by
  unfold wbs
  refine cfo_p (P_ := fun b_ => b_.1 = inf_ ∨ ∃ cell, cell < nc ∧ b_.2.1 = (cell : Int)) (Or.inl rfl) nc (fun cell b_ hc_ h_ => ?_)
  unfold wcl
  refine cfo_p (P_ := fun b_ => b_.1 = inf_ ∨ ∃ cell, cell < nc ∧ b_.2.1 = (cell : Int)) h_ len_ (fun i_ b_ hi_ h_ => ?_)
  unfold wct
  by_cases z_ : inp cell = (Q_ i_).length
  · rw [if_pos z_]
    refine cfo_p (P_ := fun b_ => b_.1 = inf_ ∨ ∃ cell, cell < nc ∧ b_.2.1 = (cell : Int)) h_ _ (fun v_ b_ hv_ h_ => ?_)
    unfold wvs wst
    by_cases y_ : hit_ cell i_ v_ = true
    · rw [if_pos y_]
      by_cases x_ : cco ad_ pc_ (ar_ cell) (Q_ i_) (inp cell) v_ (inp cell) < b_.1
      · rw [if_pos x_]
        exact Or.inr ⟨cell, hc_, rfl⟩
      · rw [if_neg x_]
        exact h_
    · rw [if_neg y_]
      exact h_
  · rw [if_neg z_]
    exact h_
theorem fin_e {ll_ l_ nc : Nat} {M_ : Int} {S_ R_ : sm_S} {b_ o_ b'_ o'_ : Int × Int × Int × (Nat → Int)} (hM_ : M_ + 1000 < 268435456) (h_ : fnc ll_ S_ l_ b_ o_) (g_ : fnr R_ l_ b'_ o'_) (eb_ : eqw M_ b_ b'_) (eo_ : eqw M_ o_ o'_) (iv_ : (S_.1 5 ll_ 2 = -1 ∧ R_.1 13 0 108 = 1000000000) ∨ (S_.1 5 ll_ 2 ≠ -1 ∧ S_.2.2.1 57 (0 + ll_) (S_.1 5 ll_ 2).toNat = R_.1 13 0 108 ∧ 0 ≤ R_.1 13 0 108 ∧ R_.1 13 0 108 ≤ 1000)) (hc_ : b_.1 = 268435456 ∨ ∃ cell, cell < nc ∧ b_.2.1 = (cell : Int)) (hn_ : ∀ cell : Nat, cell < nc → (cell : Int) < S_.1 5 ll_ 1) (hi_ : ∀ cell, cell < nc → S_.2.2.1 55 (0 + ll_) cell = R_.2.2.1 185 0 (12 * R_.1 13 0 106 + (cell : Int)).toNat) : eqp (M_ + 1000) (S_.2.2.1 61 0 l_) (R_.2.2.1 210 0 l_) ∧ wye ll_ S_ R_ l_ := by
  obtain ⟨g_, gw_⟩ := g_
  have own_ : wrc ll_ S_ l_ b_ → R_.2.2.1 211 0 l_ = 0 → R_.2.2.1 210 0 l_ = b'_.1 → eqp (M_ + 1000) (S_.2.2.1 61 0 l_) (R_.2.2.1 210 0 l_) ∧ wye ll_ S_ R_ l_ := by
    intro w_ r1_ r2_
    have w1_ := w_.1
    have g1_ := gw_.1
    rcases eb_ with ⟨e1_, e2_, e3_, e4_⟩ | ⟨e1_, e2_⟩
    · refine ⟨Or.inl ⟨by omega, by omega, by omega⟩, Or.inr ⟨by omega, by omega, Or.inr ⟨r1_, ?_⟩⟩⟩
      obtain ⟨cell, c1_, c2_⟩ := hc_.resolve_left (by omega)
      rcases w_.2 with ⟨x_, _⟩ | ⟨_, w2_, w3_, w4_⟩
      · omega
      · rcases gw_.2 with x_ | ⟨_, g2_, g3_, g4_⟩
        · omega
        · rw [← e4_] at g2_ g3_ g4_
          refine ⟨⟨by omega, by rw [w2_, c2_]; exact hn_ cell c1_⟩, by rw [w2_, g2_], by rw [w3_, g3_], fun k_ hk_ => ?_⟩
          rw [w2_] at hk_
          rw [w4_ k_ hk_, g4_ k_ ?_]
          rw [c2_] at hk_ ⊢
          rw [Int.toNat_natCast, hi_ cell c1_] at hk_
          exact hk_
    · refine ⟨Or.inr ⟨by omega, by omega⟩, Or.inl ⟨by omega, ?_, by omega⟩⟩
      rcases w_.2 with ⟨_, x_⟩ | ⟨x_, _⟩
      · exact x_
      · omega
  have bb_ : b'_.1 ≤ 1000000000 ∧ 0 ≤ o'_.1 ∧ b_.1 ≤ 268435456 ∧ 0 ≤ o_.1 := by
    rcases eb_ with e_ | e_ <;> rcases eo_ with f_ | f_ <;> omega
  rcases iv_ with ⟨i1_, i2_⟩ | ⟨i1_, i2_, i3_, i4_⟩
  · rcases h_ with ⟨h1_, _⟩ | ⟨_, w_⟩
    · exact absurd i1_ h1_
    · rcases g_ with ⟨_, g2_, _⟩ | ⟨g1_, _, g3_⟩
      · omega
      · exact own_ w_ g1_ g3_
  · rcases h_ with ⟨_, h2_, h3_, h4_⟩ | ⟨h1_, w_⟩
    · rcases g_ with ⟨g1_, g2_, g3_⟩ | ⟨g1_, g2_, g3_⟩
      · rcases eo_ with ⟨f1_, f2_, f3_, _⟩ | ⟨f1_, f2_⟩
        · exact ⟨Or.inl ⟨by omega, by omega, by omega⟩, Or.inr ⟨by omega, by omega, Or.inl ⟨h4_, g1_⟩⟩⟩
        · omega
      · exfalso
        rcases eb_ with ⟨e1_, e2_, e3_, _⟩ | ⟨e1_, e2_⟩ <;> rcases eo_ with ⟨f1_, f2_, f3_, _⟩ | ⟨f1_, f2_⟩ <;> omega
    · have h1_ : ¬ (o_.1 + S_.2.2.1 57 (0 + ll_) (S_.1 5 ll_ 2).toNat < b_.1) := fun q_ => h1_ ⟨i1_, q_⟩
      rcases g_ with ⟨g1_, g2_, g3_⟩ | ⟨g1_, g2_, g3_⟩
      · exfalso
        rcases eb_ with ⟨e1_, e2_, e3_, _⟩ | ⟨e1_, e2_⟩ <;> rcases eo_ with ⟨f1_, f2_, f3_, _⟩ | ⟨f1_, f2_⟩ <;> omega
      · exact own_ w_ g1_ g3_
/-! the_ rows of_ cuts end -/
theorem crn_st {inn_ : Nat → Bool} {cl_ ch_ : Nat → Nat} {n_ m_ : Nat} (h_ : (crn inn_ cl_ ch_ n_ m_).length ≤ m_ / 3) : ∀ d_, crn inn_ cl_ ch_ n_ (m_ + d_) = crn inn_ cl_ ch_ n_ m_
  | 0 => rfl
  | d_ + 1 => by
    show ctst inn_ cl_ ch_ (crn inn_ cl_ ch_ n_ (m_ + d_)) ((m_ + d_) / 3) ((m_ + d_) % 3) = _
    rw [crn_st h_ d_]
    exact ctst_n (List.getElem?_eq_none (by omega))
theorem crn_sm {inn_ : Nat → Bool} {cl_ ch_ : Nat → Nat} {n_ m_ k_ : Nat} (h_ : (crn inn_ cl_ ch_ n_ m_).length ≤ m_ / 3) (g_ : (crn inn_ cl_ ch_ n_ k_).length ≤ k_ / 3) : crn inn_ cl_ ch_ n_ m_ = crn inn_ cl_ ch_ n_ k_ := by
  by_cases c_ : m_ ≤ k_
  · have q_ := crn_st h_ (k_ - m_)
    rw [show m_ + (k_ - m_) = k_ by omega] at q_
    exact q_.symm
  · have q_ := crn_st g_ (m_ - k_)
    rw [show k_ + (m_ - k_) = m_ by omega] at q_
    exact q_
/-- one_ order of_ the_ cuts -/
theorem ord_u {len_ : Nat} {L_ : Nat → List Nat} {Q_ Q'_ : Nat → List Nat} (h1_ : prm len_ Q_ L_) (h2_ : prm len_ Q'_ L_) (s1_ : sor len_ Q_) (s2_ : sor len_ Q'_) : ∀ i_, i_ < len_ → Q_ i_ = Q'_ i_ := by
  refine srq (R_ := fun c_ e_ => lcv (cva c_) (cva e_)) (fun c_ => lcv_q (fun _ _ => rfl)) (fun x_ y_ z_ p_ q_ => lcv_t p_ q_) s1_ s2_ (fun i_ hi_ => ?_) (fun j_ hj_ => ?_)
  · obtain ⟨j_, hj_, e_⟩ := h1_.1 i_ hi_
    obtain ⟨k_, hk_, f_⟩ := h2_.2.1 j_ hj_
    exact ⟨k_, hk_, by rw [e_, f_]⟩
  · obtain ⟨i_, hi_, e_⟩ := h2_.1 j_ hj_
    obtain ⟨k_, hk_, f_⟩ := h1_.2.1 i_ hi_
    exact ⟨k_, hk_, by rw [e_, f_]⟩
/-- nodes of_ a_ cut_ are_ parts of_ needed nodes -/
theorem cut_n {inn_ : Nat → Bool} {cl_ ch_ : Nat → Nat} {n_ m_ : Nat} {T_ : Nat → Prop} (ht_ : trh inn_ cl_ ch_ n_ T_) {c_ : List Nat} (hc_ : c_ ∈ crn inn_ cl_ ch_ n_ m_) {z_ : Nat} (hz_ : z_ ∈ c_) : z_ < n_ ∧ (∃ p_, T_ p_ ∧ (z_ = cl_ p_ ∨ z_ = ch_ p_)) ∧ (inn_ z_ = true → T_ z_) := by
  obtain ⟨E_, e1_, e2_, _⟩ := crn_fr m_ c_ hc_
  have fa_ := frc_a ht_ E_ e1_
  rw [e2_] at hz_
  obtain ⟨⟨p_, hp_, hs_⟩, _⟩ := (fa_.2 z_).mp hz_
  have tp_ : T_ p_ ∧ p_ ≤ n_ := by
    rcases hp_ with e_ | e_
    · rw [e_]
      exact ⟨ht_.1, Nat.le_refl _⟩
    · have q_ := fa_.1 p_ e_
      exact ⟨q_.2.1, Nat.le_of_lt q_.2.2.1⟩
  have q_ := ht_.2.1 p_ tp_.1
  refine ⟨?_, ⟨p_, tp_.1, hs_⟩, fun i_ => ?_⟩
  · rcases hs_ with e_ | e_
    · have := q_.1.1
      omega
    · have := q_.1.2.1
      omega
  · rcases hs_ with e_ | e_
    · rw [e_] at i_ ⊢
      exact q_.2.1 i_
    · rw [e_] at i_ ⊢
      exact q_.2.2 i_
/-- both sides' ways of_ a_ node: alike, if those of_ its_ parts are_ -/
theorem nod_e {dd_ F_ ll_ n_ : Nat} {T_ T'_ : Nat → Prop} {S_ R_ : sm_S} (ht_ : trh (cnn F_ S_) (ccl dd_ S_) (cch dd_ S_) n_ T_) (h_ : cnw dd_ F_ ll_ T_ S_ n_) (g_ : rnw (F_ : Int) T'_ R_ n_) (n13_ : n_ ≤ 1012)
    (ag_ : ∀ x_, T_ x_ → (ccl dd_ S_ x_ = rcu R_ x_ ∧ cch dd_ S_ x_ = rhq R_ x_ ∧ ctl dd_ S_ x_ = rtl R_ x_ ∧ ctu dd_ S_ x_ = rtu R_ x_) ∨ (ccl dd_ S_ x_ = rhq R_ x_ ∧ cch dd_ S_ x_ = rcu R_ x_ ∧ ctl dd_ S_ x_ = rtu R_ x_ ∧ ctu dd_ S_ x_ = rtl R_ x_))
    (hin_ : ∀ x_, T_ x_ → cnn F_ S_ (ccl dd_ S_ x_) = rnn (F_ : Int) R_ (ccl dd_ S_ x_) ∧ cnn F_ S_ (cch dd_ S_ x_) = rnn (F_ : Int) R_ (cch dd_ S_ x_))
    (hnc_ : S_.1 5 ll_ 1 = R_.2.2.1 184 0 (R_.1 13 0 106).toNat) (n12_ : S_.1 5 ll_ 1 ≤ 12)
    (hce_ : ∀ cell : Nat, (cell : Int) < S_.1 5 ll_ 1 → S_.2.2.1 55 (0 + ll_) cell = R_.2.2.1 185 0 (12 * R_.1 13 0 106 + (cell : Int)).toNat ∧ S_.2.2.1 56 (0 + ll_) cell = R_.2.2.1 186 0 (12 * R_.1 13 0 106 + (cell : Int)).toNat ∧ S_.2.2.1 57 (0 + ll_) cell = R_.2.2.1 187 0 (12 * R_.1 13 0 106 + (cell : Int)).toNat ∧ 0 ≤ S_.2.2.1 57 (0 + ll_) cell ∧ S_.2.2.1 57 (0 + ll_) cell ≤ 1000)
    (iv_ : (S_.1 5 ll_ 2 = -1 ∧ R_.1 13 0 108 = 1000000000) ∨ (S_.1 5 ll_ 2 ≠ -1 ∧ S_.2.2.1 57 (0 + ll_) (S_.1 5 ll_ 2).toNat = R_.1 13 0 108 ∧ 0 ≤ R_.1 13 0 108 ∧ R_.1 13 0 108 ≤ 1000))
    (hv_ : ∀ c_ v_ : Nat, (c_ : Int) < S_.1 5 ll_ 1 → (2 ≤ S_.2.2.1 55 (0 + ll_) c_) → v_ < wic (S_.2.2.1 55 (0 + ll_) c_).toNat → vwd ll_ S_ (S_.2.2.1 69 0) c_ v_)
    (hp_ : ∀ y_, y_ < n_ → T_ y_ → cnn F_ S_ y_ = true → ∀ t_ : Nat, t_ < 2 → eqp (5000 * (wtn (cnn F_ S_) (ccl dd_ S_) (cch dd_ S_) y_ : Int)) (S_.2.2.1 61 0 (2 * y_ + t_)) (R_.2.2.1 210 0 (2 * y_ + t_))) :
    ∀ t_ : Nat, t_ < 2 → eqp (5000 * (wtn (cnn F_ S_) (ccl dd_ S_) (cch dd_ S_) n_ : Int)) (S_.2.2.1 61 0 (2 * n_ + t_)) (R_.2.2.1 210 0 (2 * n_ + t_)) ∧ wye ll_ S_ R_ (2 * n_ + t_) := by
  obtain ⟨m_, Q_, TB_, h1_, h2_, h3_, h4_, h5_, h6_⟩ := h_
  obtain ⟨m'_, Q'_, TB'_, g1_, g2_, g3_, g4_, g5_, g6_⟩ := g_
  have P_ : ∀ x_, T_ x_ → agr (ccl dd_ S_) (cch dd_ S_) (rcu R_) (rhq R_) x_ := fun x_ hx_ => (ag_ x_ hx_).imp (fun q_ => ⟨q_.1, q_.2.1⟩) (fun q_ => ⟨q_.1, q_.2.1⟩)
  have ec : ∀ k_, crn (cnn F_ S_) (ccl dd_ S_) (cch dd_ S_) n_ k_ = crn (rnn (F_ : Int) R_) (rcu R_) (rhq R_) n_ k_ := fun k_ => (crn_cg (P_ := fun z_ => cnn F_ S_ z_ = rnn (F_ : Int) R_ z_ ∧ (cnn F_ S_ z_ = true → T_ z_)) ⟨P_ n_ ht_.1, ⟨(hin_ n_ ht_.1).1, (ht_.2.1 n_ ht_.1).2.1⟩, ⟨(hin_ n_ ht_.1).2, (ht_.2.1 n_ ht_.1).2.2⟩⟩ (fun x_ hx_ => hx_.1) (fun x_ hx_ i_ => ⟨P_ x_ (hx_.2 i_), ⟨(hin_ x_ (hx_.2 i_)).1, (ht_.2.1 x_ (hx_.2 i_)).2.1⟩, ⟨(hin_ x_ (hx_.2 i_)).2, (ht_.2.1 x_ (hx_.2 i_)).2.2⟩⟩) k_).1
  have e0_ : crn (rnn (F_ : Int) R_) (rcu R_) (rhq R_) n_ m'_ = crn (cnn F_ S_) (ccl dd_ S_) (cch dd_ S_) n_ m_ := by
    rw [← ec m'_]
    exact crn_sm (by rw [ec m'_]; exact g1_) h1_
  rw [e0_] at g2_ g3_ g4_ g5_ g6_
  have eQ_ := ord_u h2_ g2_ h3_ g3_
  have wb := wtn_b ht_
  have ncE_ : (R_.2.2.1 184 0 (R_.1 13 0 106).toNat).toNat = (S_.1 5 ll_ 1).toNat := by rw [← hnc_]
  have pos_ : 1 ≤ wtn (cnn F_ S_) (ccl dd_ S_) (cch dd_ S_) n_ := by
    rw [wtn_s ht_ ht_.1]
    omega
  have one_ : ∀ t_ : Nat, eqw (5000 * (wtn (cnn F_ S_) (ccl dd_ S_) (cch dd_ S_) n_ : Int) - 1000) (wbs adc (pcc (F_ : Int) ll_ S_) (hcf (S_.2.2.1 69 0) TB_ Q_ t_) (car ll_ S_) (cip ll_ S_) Q_ (crn (cnn F_ S_) (ccl dd_ S_) (cch dd_ S_) n_ m_).length (S_.1 5 ll_ 1).toNat 268435456) (wbs adr (pcq (F_ : Int) R_) (hrf (rfq R_) TB'_ Q'_ t_) (rar R_) (rip R_) Q'_ (crn (cnn F_ S_) (ccl dd_ S_) (cch dd_ S_) n_ m_).length (R_.2.2.1 184 0 (R_.1 13 0 106).toNat).toNat 1000000000) := by
    intro t_
    rw [ncE_]
    refine ways_e (Pw_ := pwt (cnn F_ S_) (wtn (cnn F_ S_) (ccl dd_ S_) (cch dd_ S_))) (by omega) (fun i_ hi_ => ⟨eQ_ i_ hi_, (h4_ i_ hi_).1.1, wsm_c ht_ (h4_ i_ hi_).1.2⟩) (fun cell hc_ => ?_) (fun cell hc_ => ?_) (fun i_ hi_ x_ t_ hx_ t0_ t1_ => ?_) (fun cell i_ v_ hc_ hi_ hip_ hv2_ => ?_)
    · have q_ := hce_ cell (by omega)
      exact ⟨q_.2.2.1, q_.2.2.2.1, q_.2.2.2.2⟩
    · have q_ := hce_ cell (by omega)
      unfold cip rip
      rw [q_.1]
    · have cn_ := cut_n ht_ (h4_ i_ hi_).1.2 hx_
      have xin_ : cnn F_ S_ x_ = rnn (F_ : Int) R_ x_ := by
        obtain ⟨p_, tp_, e_ | e_⟩ := cn_.2.1
        · rw [e_]
          exact (hin_ p_ tp_).1
        · rw [e_]
          exact (hin_ p_ tp_).2
      unfold pcc pcq cst pwt
      by_cases i1_ : cnn F_ S_ x_ = true
      · have a1_ := of_decide_eq_true i1_
        have a2_ := of_decide_eq_true (xin_ ▸ i1_)
        rw [if_pos i1_, if_pos ⟨by omega, by rw [Int.toNat_natCast]; exact a1_.2⟩, if_pos ⟨a2_.1, by rw [Int.toNat_natCast]; exact a2_.2⟩]
        have q_ := hp_ x_ cn_.1 (cn_.2.2 i1_) i1_ t_.toNat (by omega)
        rw [show (2 * (x_ : Int) + t_).toNat = 2 * x_ + t_.toNat by omega]
        rcases q_ with q_ | q_
        · left
          omega
        · exact Or.inr q_
      · have a1_ : ¬ ((F_ : Int) ≤ (x_ : Int) ∧ S_.2.2.1 60 0 ((x_ : Int)).toNat = 0) := fun q_ => i1_ (decide_eq_true ⟨by omega, by have := q_.2; rw [Int.toNat_natCast] at this; exact this⟩)
        have a2_ : ¬ ((F_ : Int) ≤ (x_ : Int) ∧ R_.2.2.1 203 0 ((x_ : Int)).toNat = 0) := fun q_ => i1_ (by rw [xin_]; exact decide_eq_true ⟨q_.1, by have := q_.2; rw [Int.toNat_natCast] at this; exact this⟩)
        rw [if_neg a1_, if_neg a2_, if_neg i1_]
        by_cases z_ : t_ = 0
        · rw [if_pos z_, if_pos z_]
          left
          omega
        · rw [if_neg z_, if_neg z_]
          rcases iv_ with ⟨v1_, v2_⟩ | ⟨v1_, v2_, v3_, v4_⟩
          · rw [if_pos v1_]
            exact Or.inr ⟨rfl, v2_⟩
          · rw [if_neg v1_]
            left
            omega
    · have q_ := hce_ cell (by omega)
      have l2_ := (h4_ i_ hi_).1.1
      have c2_ : 2 ≤ S_.2.2.1 55 (0 + ll_) cell := by
        unfold cip at hip_
        omega
      have w_ := hv_ cell v_ (by omega) c2_ hv2_
      unfold hcf hrf
      unfold vwd at w_
      rw [w_]
      have e2_ : rfq R_ cell = S_.2.2.1 56 (0 + ll_) cell := q_.2.1.symm
      have hip'_ : (S_.2.2.1 55 (0 + ll_) cell).toNat = (Q_ i_).length := hip_
      rw [e2_, ← eQ_ i_ hi_, ← hip'_]
      have tq_ := (g4_ i_ hi_).2
      rw [← eQ_ i_ hi_] at tq_
      have r_ := hit_e (f_ := S_.2.2.1 56 (0 + ll_) cell) (t_ := t_) l2_ hip'_ hv2_ (h4_ i_ hi_).2 tq_ (fun x_ a_ _ => ag_ x_ a_) (fun x_ => ⟨by unfold rtl; omega, by unfold rtu; omega⟩)
      rw [← hip'_] at r_
      exact r_
  intro t_ htt_
  have c_ : t_ = 0 ∨ t_ = 1 := by omega
  have hi2_ : ∀ cell, cell < (S_.1 5 ll_ 1).toNat → S_.2.2.1 55 (0 + ll_) cell = R_.2.2.1 185 0 (12 * R_.1 13 0 106 + (cell : Int)).toNat := fun cell hc_ => (hce_ cell (by omega)).1
  rcases c_ with c_ | c_
  · rw [c_]
    have q_ := fin_e (nc := (S_.1 5 ll_ 1).toNat) (by omega) h5_ g5_ (one_ 0) (one_ 1) iv_ wbs_c (fun cell hc9_ => by omega) hi2_
    rw [show 5000 * (wtn (cnn F_ S_) (ccl dd_ S_) (cch dd_ S_) n_ : Int) - 1000 + 1000 = 5000 * (wtn (cnn F_ S_) (ccl dd_ S_) (cch dd_ S_) n_ : Int) by omega] at q_
    exact q_
  · rw [c_]
    have q_ := fin_e (nc := (S_.1 5 ll_ 1).toNat) (by omega) h6_ g6_ (one_ 1) (one_ 0) iv_ wbs_c (fun cell hc9_ => by omega) hi2_
    rw [show 5000 * (wtn (cnn F_ S_) (ccl dd_ S_) (cch dd_ S_) n_ : Int) - 1000 + 1000 = 5000 * (wtn (cnn F_ S_) (ccl dd_ S_) (cch dd_ S_) n_ : Int) by omega] at q_
    exact q_
end
/-! 99.ztZf -/
section
/-! ways that are found stay; written by wip/p55/gen/vg -/

/-! ways that are_ found stay -/
theorem wbs_cg {ad_ pc_ pd_ : Int → Int → Int} {hit_ : Nat → Nat → Nat → Bool} {ar_ : Nat → Int} {inp : Nat → Nat} {Q_ : Nat → List Nat} {len_ nc : Nat} {inf_ : Int} (hQ_ : ∀ i_, i_ < len_ → 2 ≤ (Q_ i_).length ∧ (Q_ i_).length ≤ 3) (h_ : ∀ i_, i_ < len_ → ∀ (x_ : Nat) (t_ : Int), x_ ∈ Q_ i_ → 0 ≤ t_ → t_ ≤ 1 → pc_ x_ t_ = pd_ x_ t_) : wbs ad_ pc_ hit_ ar_ inp Q_ len_ nc inf_ = wbs ad_ pd_ hit_ ar_ inp Q_ len_ nc inf_ := by
  unfold wbs
  refine cfo_cg nc (fun cell b_ _ => ?_)
  unfold wcl
  refine cfo_cg len_ (fun i_ b_ hi_ => ?_)
  unfold wct
  by_cases z_ : inp cell = (Q_ i_).length
  · rw [if_pos z_, if_pos z_]
    exact cfo_cg _ (fun v_ b_ hv_ => wvs_cg (hQ_ i_ hi_) z_ hv_ (h_ i_ hi_) rfl)
  · rw [if_neg z_, if_neg z_]
theorem fnc_cg {ll_ l_ : Nat} {S_ S'_ : sm_S} {b_ o_ : Int × Int × Int × (Nat → Int)} (h_ : fnc ll_ S_ l_ b_ o_) (e5_ : S'_.1 5 ll_ 2 = S_.1 5 ll_ 2) (e57_ : S'_.2.2.1 57 (0 + ll_) = S_.2.2.1 57 (0 + ll_)) (e1_ : S'_.2.2.1 61 0 l_ = S_.2.2.1 61 0 l_) (e2_ : S'_.2.2.1 62 0 l_ = S_.2.2.1 62 0 l_) (e3_ : S'_.2.2.1 63 0 l_ = S_.2.2.1 63 0 l_) (e4_ : ∀ k_, k_ < 3 → S'_.2.2.1 64 0 (3 * l_ + k_) = S_.2.2.1 64 0 (3 * l_ + k_)) (e55_ : S'_.2.2.1 55 (0 + ll_) = S_.2.2.1 55 (0 + ll_)) (c55_ : ∀ k_, S_.2.2.1 55 (0 + ll_) k_ ≤ 3) : fnc ll_ S'_ l_ b_ o_ := by
  unfold fnc at *
  rw [e5_, e57_, e1_, e2_]
  rcases h_ with h_ | h_
  · exact Or.inl h_
  · exact Or.inr ⟨h_.1, wrc_o h_.2 e1_ e2_ e3_ e4_ e55_ c55_⟩
theorem fnr_cg {l_ : Nat} {R_ R'_ : sm_S} {b_ o_ : Int × Int × Int × (Nat → Int)} (h_ : fnr R_ l_ b_ o_) (e8_ : R'_.1 13 0 108 = R_.1 13 0 108) (e10 : R'_.2.2.1 210 0 l_ = R_.2.2.1 210 0 l_) (e11 : R'_.2.2.1 211 0 l_ = R_.2.2.1 211 0 l_) (e1_ : R'_.2.2.1 206 0 l_ = R_.2.2.1 206 0 l_) (e2_ : R'_.2.2.1 207 0 l_ = R_.2.2.1 207 0 l_) (e3_ : R'_.2.2.1 209 0 l_ = R_.2.2.1 209 0 l_) (e4_ : ∀ k_, k_ < 3 → R'_.2.2.1 208 0 (3 * l_ + k_) = R_.2.2.1 208 0 (3 * l_ + k_)) (e5_ : R'_.2.2.1 185 0 = R_.2.2.1 185 0) (e6_ : R'_.1 13 0 106 = R_.1 13 0 106) (c85_ : ∀ k_, R_.2.2.1 185 0 k_ ≤ 3) : fnr R'_ l_ b_ o_ := by
  obtain ⟨h_, w_⟩ := h_
  refine ⟨?_, wrr_o w_ e1_ e2_ e3_ e4_ e5_ e6_ c85_⟩
  rw [e8_, e10, e11]
  exact h_
theorem cnw_cg {dd_ F_ ll_ x_ : Nat} {T_ : Nat → Prop} {S_ S'_ : sm_S} (ht_ : trh (cnn F_ S_) (ccl dd_ S_) (cch dd_ S_) x_ T_) (h_ : cnw dd_ F_ ll_ T_ S_ x_) (e42_ : S'_.2.2.1 42 (0 + dd_) = S_.2.2.1 42 (0 + dd_)) (e43_ : S'_.2.2.1 43 (0 + dd_) = S_.2.2.1 43 (0 + dd_)) (e44_ : S'_.2.2.1 44 (0 + dd_) = S_.2.2.1 44 (0 + dd_)) (e60_ : S'_.2.2.1 60 0 = S_.2.2.1 60 0) (e69_ : S'_.2.2.1 69 0 = S_.2.2.1 69 0) (e55_ : S'_.2.2.1 55 (0 + ll_) = S_.2.2.1 55 (0 + ll_)) (e57_ : S'_.2.2.1 57 (0 + ll_) = S_.2.2.1 57 (0 + ll_)) (f1_ : S'_.1 5 ll_ 1 = S_.1 5 ll_ 1) (f2_ : S'_.1 5 ll_ 2 = S_.1 5 ll_ 2) (e61_ : ∀ j_, j_ < 2 * x_ + 2 → S'_.2.2.1 61 0 j_ = S_.2.2.1 61 0 j_) (e62_ : ∀ j_, 2 * x_ ≤ j_ → j_ < 2 * x_ + 2 → S'_.2.2.1 62 0 j_ = S_.2.2.1 62 0 j_ ∧ S'_.2.2.1 63 0 j_ = S_.2.2.1 63 0 j_) (e64_ : ∀ j_, 6 * x_ ≤ j_ → j_ < 6 * x_ + 6 → S'_.2.2.1 64 0 j_ = S_.2.2.1 64 0 j_) (c55_ : ∀ k_, S_.2.2.1 55 (0 + ll_) k_ ≤ 3) : cnw dd_ F_ ll_ T_ S'_ x_ := by
  have es_ : srp dd_ S'_ = srp dd_ S_ := by
    funext l_
    unfold srp
    rw [e44_]
  have el_ : slt dd_ S'_ = slt dd_ S_ := by
    funext l_
    unfold slt
    rw [e44_]
  have a1_ : cnn F_ S'_ = cnn F_ S_ := by
    funext y_
    unfold cnn
    rw [e60_]
  have a2_ : ccl dd_ S'_ = ccl dd_ S_ := by
    funext y_
    unfold ccl
    rw [es_, e42_]
  have a3_ : cch dd_ S'_ = cch dd_ S_ := by
    funext y_
    unfold cch
    rw [es_, e43_]
  have a4_ : ctl dd_ S'_ = ctl dd_ S_ := by
    funext y_
    unfold ctl
    rw [el_, e42_]
  have a5_ : ctu dd_ S'_ = ctu dd_ S_ := by
    funext y_
    unfold ctu
    rw [el_, e43_]
  have a6_ : car ll_ S'_ = car ll_ S_ := by
    funext y_
    unfold car
    rw [e57_]
  have a7_ : cip ll_ S'_ = cip ll_ S_ := by
    funext y_
    unfold cip
    rw [e55_]
  obtain ⟨m_, Q_, TB_, h1_, h2_, h3_, h4_, h5_, h6_⟩ := h_
  unfold cnw
  rw [a1_, a2_, a3_, a4_, a5_, a6_, a7_, e69_, f1_]
  have pw_ : ∀ t_ : Nat, wbs adc (pcc (F_ : Int) ll_ S'_) (hcf (S_.2.2.1 69 0) TB_ Q_ t_) (car ll_ S_) (cip ll_ S_) Q_ (crn (cnn F_ S_) (ccl dd_ S_) (cch dd_ S_) x_ m_).length (S_.1 5 ll_ 1).toNat 268435456 = wbs adc (pcc (F_ : Int) ll_ S_) (hcf (S_.2.2.1 69 0) TB_ Q_ t_) (car ll_ S_) (cip ll_ S_) Q_ (crn (cnn F_ S_) (ccl dd_ S_) (cch dd_ S_) x_ m_).length (S_.1 5 ll_ 1).toNat 268435456 := fun t_ => wbs_cg (fun i_ hi_ => (h4_ i_ hi_).1.1) (fun i_ hi_ y_ t_ hy_ t0_ t1_ => pcc_cg (n_ := (x_ : Int)) ⟨by omega, by
      have := (cut_n ht_ (h4_ i_ hi_).1.2 hy_).1
      omega⟩ ⟨t0_, t1_⟩ e60_ (fun j_ hj_ => e61_ j_ (by omega)) f2_ e57_)
  refine ⟨m_, Q_, TB_, h1_, h2_, h3_, h4_, ?_, ?_⟩
  · rw [pw_ 0, pw_ 1]
    exact fnc_cg h5_ f2_ e57_ (e61_ _ (by omega)) (e62_ _ (by omega) (by omega)).1 (e62_ _ (by omega) (by omega)).2 (fun k_ hk_ => e64_ _ (by omega) (by omega)) e55_ c55_
  · rw [pw_ 0, pw_ 1]
    exact fnc_cg h6_ f2_ e57_ (e61_ _ (by omega)) (e62_ _ (by omega) (by omega)).1 (e62_ _ (by omega) (by omega)).2 (fun k_ hk_ => e64_ _ (by omega) (by omega)) e55_ c55_
theorem rnw_cg {F_ : Int} {x_ : Nat} {T_ : Nat → Prop} {R_ R'_ : sm_S} (ht_ : trh (rnn F_ R_) (rcu R_) (rhq R_) x_ T_) (h_ : rnw F_ T_ R_ x_) (e99_ : R'_.2.2.1 199 0 = R_.2.2.1 199 0) (e200_ : R'_.2.2.1 200 0 = R_.2.2.1 200 0) (e203_ : R'_.2.2.1 203 0 = R_.2.2.1 203 0) (e184_ : R'_.2.2.1 184 0 = R_.2.2.1 184 0) (e185_ : R'_.2.2.1 185 0 = R_.2.2.1 185 0) (e186_ : R'_.2.2.1 186 0 = R_.2.2.1 186 0) (e187_ : R'_.2.2.1 187 0 = R_.2.2.1 187 0) (f6_ : R'_.1 13 0 106 = R_.1 13 0 106) (f8 : R'_.1 13 0 108 = R_.1 13 0 108) (e210_ : ∀ j_, j_ < 2 * x_ + 2 → R'_.2.2.1 210 0 j_ = R_.2.2.1 210 0 j_) (e206_ : ∀ j_, 2 * x_ ≤ j_ → j_ < 2 * x_ + 2 → R'_.2.2.1 206 0 j_ = R_.2.2.1 206 0 j_ ∧ R'_.2.2.1 207 0 j_ = R_.2.2.1 207 0 j_ ∧ R'_.2.2.1 209 0 j_ = R_.2.2.1 209 0 j_ ∧ R'_.2.2.1 211 0 j_ = R_.2.2.1 211 0 j_) (e208_ : ∀ j_, 6 * x_ ≤ j_ → j_ < 6 * x_ + 6 → R'_.2.2.1 208 0 j_ = R_.2.2.1 208 0 j_) (c85_ : ∀ k_, R_.2.2.1 185 0 k_ ≤ 3) : rnw F_ T_ R'_ x_ := by
  have a1_ : rnn F_ R'_ = rnn F_ R_ := by
    funext y_
    unfold rnn
    rw [e203_]
  have a2_ : rcu R'_ = rcu R_ := by
    funext y_
    unfold rcu
    rw [e99_]
  have a3_ : rhq R'_ = rhq R_ := by
    funext y_
    unfold rhq
    rw [e200_]
  have a4_ : rtl R'_ = rtl R_ := by
    funext y_
    unfold rtl
    rw [e99_]
  have a5_ : rtu R'_ = rtu R_ := by
    funext y_
    unfold rtu
    rw [e200_]
  have a6_ : rar R'_ = rar R_ := by
    funext y_
    unfold rar
    rw [e187_, f6_]
  have a7_ : rip R'_ = rip R_ := by
    funext y_
    unfold rip
    rw [e185_, f6_]
  have a8_ : rfq R'_ = rfq R_ := by
    funext y_
    unfold rfq
    rw [e186_, f6_]
  obtain ⟨m_, Q_, TB_, h1_, h2_, h3_, h4_, h5_, h6_⟩ := h_
  unfold rnw
  rw [a1_, a2_, a3_, a4_, a5_, a6_, a7_, a8_, e184_, f6_]
  have pw_ : ∀ t_ : Nat, wbs adr (pcq F_ R'_) (hrf (rfq R_) TB_ Q_ t_) (rar R_) (rip R_) Q_ (crn (rnn F_ R_) (rcu R_) (rhq R_) x_ m_).length (R_.2.2.1 184 0 (R_.1 13 0 106).toNat).toNat 1000000000 = wbs adr (pcq F_ R_) (hrf (rfq R_) TB_ Q_ t_) (rar R_) (rip R_) Q_ (crn (rnn F_ R_) (rcu R_) (rhq R_) x_ m_).length (R_.2.2.1 184 0 (R_.1 13 0 106).toNat).toNat 1000000000 := fun t_ => wbs_cg (fun i_ hi_ => (h4_ i_ hi_).1.1) (fun i_ hi_ y_ t_ hy_ t0_ t1_ => by
      have l_ := (cut_n ht_ (h4_ i_ hi_).1.2 hy_).1
      unfold pcq cst
      rw [e203_, f8, e210_ _ (by omega)])
  refine ⟨m_, Q_, TB_, h1_, h2_, h3_, h4_, ?_, ?_⟩
  · rw [pw_ 0, pw_ 1]
    have q_ := e206_ (2 * x_) (by omega) (by omega)
    exact fnr_cg h5_ f8 (e210_ _ (by omega)) q_.2.2.2 q_.1 q_.2.1 q_.2.2.1 (fun k_ hk_ => e208_ _ (by omega) (by omega)) e185_ f6_ c85_
  · rw [pw_ 0, pw_ 1]
    have q_ := e206_ (2 * x_ + 1) (by omega) (by omega)
    exact fnr_cg h6_ f8 (e210_ _ (by omega)) q_.2.2.2 q_.1 q_.2.1 q_.2.2.1 (fun k_ hk_ => e208_ _ (by omega) (by omega)) e185_ f6_ c85_
/-- all_ nodes -/
theorem nod_all {dd_ F_ ll_ N_ : Nat} {T_ : Nat → Prop} {S_ R_ : sm_S} (hT_ : ∀ x_, T_ x_ → x_ < N_) (hN_ : N_ ≤ 1013) (ht_ : ∀ n_, T_ n_ → trh (cnn F_ S_) (ccl dd_ S_) (cch dd_ S_) n_ T_)
    (ag_ : ∀ x_, T_ x_ → (ccl dd_ S_ x_ = rcu R_ x_ ∧ cch dd_ S_ x_ = rhq R_ x_ ∧ ctl dd_ S_ x_ = rtl R_ x_ ∧ ctu dd_ S_ x_ = rtu R_ x_) ∨ (ccl dd_ S_ x_ = rhq R_ x_ ∧ cch dd_ S_ x_ = rcu R_ x_ ∧ ctl dd_ S_ x_ = rtu R_ x_ ∧ ctu dd_ S_ x_ = rtl R_ x_))
    (hin_ : ∀ x_, T_ x_ → cnn F_ S_ (ccl dd_ S_ x_) = rnn (F_ : Int) R_ (ccl dd_ S_ x_) ∧ cnn F_ S_ (cch dd_ S_ x_) = rnn (F_ : Int) R_ (cch dd_ S_ x_))
    (hnc_ : S_.1 5 ll_ 1 = R_.2.2.1 184 0 (R_.1 13 0 106).toNat) (n12_ : S_.1 5 ll_ 1 ≤ 12)
    (hce_ : ∀ cell : Nat, (cell : Int) < S_.1 5 ll_ 1 → S_.2.2.1 55 (0 + ll_) cell = R_.2.2.1 185 0 (12 * R_.1 13 0 106 + (cell : Int)).toNat ∧ S_.2.2.1 56 (0 + ll_) cell = R_.2.2.1 186 0 (12 * R_.1 13 0 106 + (cell : Int)).toNat ∧ S_.2.2.1 57 (0 + ll_) cell = R_.2.2.1 187 0 (12 * R_.1 13 0 106 + (cell : Int)).toNat ∧ 0 ≤ S_.2.2.1 57 (0 + ll_) cell ∧ S_.2.2.1 57 (0 + ll_) cell ≤ 1000)
    (iv_ : (S_.1 5 ll_ 2 = -1 ∧ R_.1 13 0 108 = 1000000000) ∨ (S_.1 5 ll_ 2 ≠ -1 ∧ S_.2.2.1 57 (0 + ll_) (S_.1 5 ll_ 2).toNat = R_.1 13 0 108 ∧ 0 ≤ R_.1 13 0 108 ∧ R_.1 13 0 108 ≤ 1000))
    (hv_ : ∀ c_ v_ : Nat, (c_ : Int) < S_.1 5 ll_ 1 → (2 ≤ S_.2.2.1 55 (0 + ll_) c_) → v_ < wic (S_.2.2.1 55 (0 + ll_) c_).toNat → vwd ll_ S_ (S_.2.2.1 69 0) c_ v_)
    (hr_ : ∀ x_, T_ x_ → rnw (F_ : Int) T_ R_ x_) : ∀ k_ : Nat, (∀ x_, T_ x_ → x_ < k_ → cnw dd_ F_ ll_ T_ S_ x_) → ∀ x_, T_ x_ → x_ < k_ → ∀ t_ : Nat, t_ < 2 → eqp (5000 * (wtn (cnn F_ S_) (ccl dd_ S_) (cch dd_ S_) x_ : Int)) (S_.2.2.1 61 0 (2 * x_ + t_)) (R_.2.2.1 210 0 (2 * x_ + t_)) ∧ wye ll_ S_ R_ (2 * x_ + t_) := by
  intro k_
  induction k_ with
  | zero => exact fun _ x_ _ h_ => absurd h_ (Nat.not_lt_zero _)
  | succ k_ ih_ =>
    intro hc_ x_ tx_ hx_
    have below := ih_ (fun y_ ty_ hy_ => hc_ y_ ty_ (by omega))
    by_cases e_ : x_ < k_
    · exact below x_ tx_ e_
    · have l_ := hT_ x_ tx_
      exact nod_e (ht_ x_ tx_) (hc_ x_ tx_ hx_) (hr_ x_ tx_) (by omega) ag_ hin_ hnc_ n12_ hce_ iv_ hv_ (fun y_ hy_ ty_ _ t_ htt_ => (below y_ ty_ (by omega) t_ htt_).1)
end
/-! 99.ztZg1 -/
section
/-! a chip is started: the class; written by wip/p55/gen/vg -/

/-! the_ cells of_ a_ chip are_ those of_ a_ library -/
theorem ac_f {S_ : sm_S} {t_ i_ t'_ i'_ a_ b_ n_ : Nat} : (sm_acI S_ t_ i_ t'_ i'_ a_ b_ n_).1 = S_.1 := rfl
theorem cp_in {f_ g_ : Nat → Int} {k_ : Nat} (h_ : k_ < 12) : sm_cp f_ g_ (0 : Int).toNat (0 : Int).toNat (12 : Int).toNat k_ = f_ k_ := by
  show sm_cp f_ g_ 0 0 12 k_ = f_ k_
  unfold sm_cp
  rw [if_pos ⟨Nat.zero_le _, by omega⟩, Nat.zero_add, Nat.sub_zero]
def clc (c_ l_ : Nat) (S_ S'_ : sm_S) : Prop := S'_.1 5 (3 + c_) 1 = S_.1 5 l_ 1 ∧ S'_.1 5 (3 + c_) 2 = S_.1 5 l_ 2 ∧ ∀ k_, k_ < 12 → S'_.2.2.1 55 (0 + (3 + c_)) k_ = S_.2.2.1 55 (0 + l_) k_ ∧ S'_.2.2.1 56 (0 + (3 + c_)) k_ = S_.2.2.1 56 (0 + l_) k_ ∧ S'_.2.2.1 57 (0 + (3 + c_)) k_ = S_.2.2.1 57 (0 + l_) k_ ∧ S'_.2.2.1 58 (0 + (3 + c_)) k_ = S_.2.2.1 58 (0 + l_) k_

/-! Library.copyOf -/
def vw_90n : sx_Wl := ([(5, 1), (5, 2)], [55, 56, 57, 58], [])
def vq_90n (ii_ : Nat) (ll_ : Nat) (S0_ : sm_S) (u_ : Option sm_V) (S1_ : sm_S) : Prop := u_ = none ∧ gi S1_ ∧ ai_fr (sx_W vw_90n) S0_ S1_ ∧ (cdf ii_ S0_ S1_ ∧ (clc ii_ ll_ S0_ S1_))
set_option maxHeartbeats 400000 in
theorem vc_90n {sc_ : Nat × (Nat → Int)} (ii_ : Nat) (ll_ : Nat) (S0_ : sm_S) (hI_ : gi S0_)  : sm_T (mt_P sc_) 0 90 (0, [some (.inr (.inr (some (5, (3 + ii_))))), some (.inr (.inr (some (5, ll_))))], [], S0_) (fun ro9_ => ∃ u_ S1_, ro9_ = (.inl u_, S1_, 0) ∧ vq_90n ii_ ll_ S0_ u_ S1_) := by
  have hF_ : ai_fr (sx_W vw_90n) S0_ S0_ := ai_fr_rf
  have hC_ : cdf ii_ S0_ S0_ := cdf_rf
  have bx1_ : 0 ≤ S0_.1 5 ll_ 1 ∧ S0_.1 5 ll_ 1 ≤ 12 := hI_.1 5 ll_ 1 rfl
  have hIx2_ : gi (sm_pI S0_ 5 (3 + ii_) 1 (S0_.1 5 ll_ 1)) := gi_pI hI_ (show 0 ≤ (S0_.1 5 ll_ 1) ∧ (S0_.1 5 ll_ 1) ≤ 12 from ⟨by omega, by omega⟩)
  have hFx3_ : ai_fr (sx_W vw_90n) S0_ (sm_pI S0_ 5 (3 + ii_) 1 (S0_.1 5 ll_ 1)) := ai_fr_tr hF_ (ai_fr_pI rfl)
  have hCx4_ : cdf ii_ S0_ (sm_pI S0_ 5 (3 + ii_) 1 (S0_.1 5 ll_ 1)) := cdf_pI hC_ (Or.inr (by rw [show cof 5 = 3 from rfl] <;> omega))
  have bx5_ : (-1) ≤ S0_.1 5 ll_ 2 ∧ S0_.1 5 ll_ 2 ≤ 11 := hI_.1 5 ll_ 2 rfl
  have ex6_ : (sm_pI S0_ 5 (3 + ii_) 1 (S0_.1 5 ll_ 1)).1 5 ll_ 2 = (S0_.1 5 ll_ 2) := by (try simp only [rf_eq, rf_nk, rf_nt, rd_fa, rd_af, ne_eq, Nat.reduceEqDiff, not_false_eq_true])
  have hIx7_ : gi (sm_pI (sm_pI S0_ 5 (3 + ii_) 1 (S0_.1 5 ll_ 1)) 5 (3 + ii_) 2 ((sm_pI S0_ 5 (3 + ii_) 1 (S0_.1 5 ll_ 1)).1 5 ll_ 2)) := gi_pI hIx2_ (show (-1) ≤ ((sm_pI S0_ 5 (3 + ii_) 1 (S0_.1 5 ll_ 1)).1 5 ll_ 2) ∧ ((sm_pI S0_ 5 (3 + ii_) 1 (S0_.1 5 ll_ 1)).1 5 ll_ 2) ≤ 11 from ⟨by omega, by omega⟩)
  have hFx8_ : ai_fr (sx_W vw_90n) S0_ (sm_pI (sm_pI S0_ 5 (3 + ii_) 1 (S0_.1 5 ll_ 1)) 5 (3 + ii_) 2 ((sm_pI S0_ 5 (3 + ii_) 1 (S0_.1 5 ll_ 1)).1 5 ll_ 2)) := ai_fr_tr hFx3_ (ai_fr_pI rfl)
  have hCx9_ : cdf ii_ S0_ (sm_pI (sm_pI S0_ 5 (3 + ii_) 1 (S0_.1 5 ll_ 1)) 5 (3 + ii_) 2 ((sm_pI S0_ 5 (3 + ii_) 1 (S0_.1 5 ll_ 1)).1 5 ll_ 2)) := cdf_pI hCx4_ (Or.inr (by rw [show cof 5 = 3 from rfl] <;> omega))
  refine sm_T_go 15 (c1 := (28, [some (.inr (.inr (some (5, (3 + ii_))))), some (.inr (.inr (some (5, ll_))))], [.inl 12, .inl 0, .inr (.inr (some (55, (0 + (3 + ii_))))), .inl 0, .inr (.inr (some (55, (0 + ll_))))], sm_pI (sm_pI S0_ 5 (3 + ii_) 1 (S0_.1 5 ll_ 1)) 5 (3 + ii_) 2 ((sm_pI S0_ 5 (3 + ii_) 1 (S0_.1 5 ll_ 1)).1 5 ll_ 2))) rfl ?_
  refine sm_T_nt (u := none) (S1 := sm_acI (sm_pI (sm_pI S0_ 5 (3 + ii_) 1 (S0_.1 5 ll_ 1)) 5 (3 + ii_) 2 ((sm_pI S0_ 5 (3 + ii_) 1 (S0_.1 5 ll_ 1)).1 5 ll_ 2)) 55 (0 + ll_) 55 (0 + (3 + ii_)) (0 : Int).toNat (0 : Int).toNat (12 : Int).toNat) rfl rfl (nt_acI (sc := sc_) (t := 55) (i := (0 + ll_)) (t' := 55) (i' := (0 + (3 + ii_))) (x := 0) (y := 0) (m := 12) (n := 12) (n1 := 12) rfl rfl (by omega) (by omega) (by omega) (by omega) (by omega)) ?_
  have hIx10_ : gi (sm_acI (sm_pI (sm_pI S0_ 5 (3 + ii_) 1 (S0_.1 5 ll_ 1)) 5 (3 + ii_) 2 ((sm_pI S0_ 5 (3 + ii_) 1 (S0_.1 5 ll_ 1)).1 5 ll_ 2)) 55 (0 + ll_) 55 (0 + (3 + ii_)) (0 : Int).toNat (0 : Int).toNat (12 : Int).toNat) := gi_ac hIx7_ (by decide) (by decide)
  have hFx11_ : ai_fr (sx_W vw_90n) S0_ (sm_acI (sm_pI (sm_pI S0_ 5 (3 + ii_) 1 (S0_.1 5 ll_ 1)) 5 (3 + ii_) 2 ((sm_pI S0_ 5 (3 + ii_) 1 (S0_.1 5 ll_ 1)).1 5 ll_ 2)) 55 (0 + ll_) 55 (0 + (3 + ii_)) (0 : Int).toNat (0 : Int).toNat (12 : Int).toNat) := ai_fr_tr hFx8_ (fr_ac rfl)
  have hCx12_ : cdf ii_ S0_ (sm_acI (sm_pI (sm_pI S0_ 5 (3 + ii_) 1 (S0_.1 5 ll_ 1)) 5 (3 + ii_) 2 ((sm_pI S0_ 5 (3 + ii_) 1 (S0_.1 5 ll_ 1)).1 5 ll_ 2)) 55 (0 + ll_) 55 (0 + (3 + ii_)) (0 : Int).toNat (0 : Int).toNat (12 : Int).toNat) := cdf_ac hCx9_ (Or.inr (by rw [show cof 55 = 3 from rfl] <;> omega))
  refine sm_T_go 7 (c1 := (43, [some (.inr (.inr (some (5, (3 + ii_))))), some (.inr (.inr (some (5, ll_))))], [.inl 12, .inl 0, .inr (.inr (some (56, (0 + (3 + ii_))))), .inl 0, .inr (.inr (some (56, (0 + ll_))))], sm_acI (sm_pI (sm_pI S0_ 5 (3 + ii_) 1 (S0_.1 5 ll_ 1)) 5 (3 + ii_) 2 ((sm_pI S0_ 5 (3 + ii_) 1 (S0_.1 5 ll_ 1)).1 5 ll_ 2)) 55 (0 + ll_) 55 (0 + (3 + ii_)) (0 : Int).toNat (0 : Int).toNat (12 : Int).toNat)) rfl ?_
  refine sm_T_nt (u := none) (S1 := sm_acI (sm_acI (sm_pI (sm_pI S0_ 5 (3 + ii_) 1 (S0_.1 5 ll_ 1)) 5 (3 + ii_) 2 ((sm_pI S0_ 5 (3 + ii_) 1 (S0_.1 5 ll_ 1)).1 5 ll_ 2)) 55 (0 + ll_) 55 (0 + (3 + ii_)) (0 : Int).toNat (0 : Int).toNat (12 : Int).toNat) 56 (0 + ll_) 56 (0 + (3 + ii_)) (0 : Int).toNat (0 : Int).toNat (12 : Int).toNat) rfl rfl (nt_acI (sc := sc_) (t := 56) (i := (0 + ll_)) (t' := 56) (i' := (0 + (3 + ii_))) (x := 0) (y := 0) (m := 12) (n := 12) (n1 := 12) rfl rfl (by omega) (by omega) (by omega) (by omega) (by omega)) ?_
  have hIx13_ : gi (sm_acI (sm_acI (sm_pI (sm_pI S0_ 5 (3 + ii_) 1 (S0_.1 5 ll_ 1)) 5 (3 + ii_) 2 ((sm_pI S0_ 5 (3 + ii_) 1 (S0_.1 5 ll_ 1)).1 5 ll_ 2)) 55 (0 + ll_) 55 (0 + (3 + ii_)) (0 : Int).toNat (0 : Int).toNat (12 : Int).toNat) 56 (0 + ll_) 56 (0 + (3 + ii_)) (0 : Int).toNat (0 : Int).toNat (12 : Int).toNat) := gi_ac hIx10_ (by decide) (by decide)
  have hFx14_ : ai_fr (sx_W vw_90n) S0_ (sm_acI (sm_acI (sm_pI (sm_pI S0_ 5 (3 + ii_) 1 (S0_.1 5 ll_ 1)) 5 (3 + ii_) 2 ((sm_pI S0_ 5 (3 + ii_) 1 (S0_.1 5 ll_ 1)).1 5 ll_ 2)) 55 (0 + ll_) 55 (0 + (3 + ii_)) (0 : Int).toNat (0 : Int).toNat (12 : Int).toNat) 56 (0 + ll_) 56 (0 + (3 + ii_)) (0 : Int).toNat (0 : Int).toNat (12 : Int).toNat) := ai_fr_tr hFx11_ (fr_ac rfl)
  have hCx15_ : cdf ii_ S0_ (sm_acI (sm_acI (sm_pI (sm_pI S0_ 5 (3 + ii_) 1 (S0_.1 5 ll_ 1)) 5 (3 + ii_) 2 ((sm_pI S0_ 5 (3 + ii_) 1 (S0_.1 5 ll_ 1)).1 5 ll_ 2)) 55 (0 + ll_) 55 (0 + (3 + ii_)) (0 : Int).toNat (0 : Int).toNat (12 : Int).toNat) 56 (0 + ll_) 56 (0 + (3 + ii_)) (0 : Int).toNat (0 : Int).toNat (12 : Int).toNat) := cdf_ac hCx12_ (Or.inr (by rw [show cof 56 = 3 from rfl] <;> omega))
  refine sm_T_go 7 (c1 := (58, [some (.inr (.inr (some (5, (3 + ii_))))), some (.inr (.inr (some (5, ll_))))], [.inl 12, .inl 0, .inr (.inr (some (57, (0 + (3 + ii_))))), .inl 0, .inr (.inr (some (57, (0 + ll_))))], sm_acI (sm_acI (sm_pI (sm_pI S0_ 5 (3 + ii_) 1 (S0_.1 5 ll_ 1)) 5 (3 + ii_) 2 ((sm_pI S0_ 5 (3 + ii_) 1 (S0_.1 5 ll_ 1)).1 5 ll_ 2)) 55 (0 + ll_) 55 (0 + (3 + ii_)) (0 : Int).toNat (0 : Int).toNat (12 : Int).toNat) 56 (0 + ll_) 56 (0 + (3 + ii_)) (0 : Int).toNat (0 : Int).toNat (12 : Int).toNat)) rfl ?_
  refine sm_T_nt (u := none) (S1 := sm_acI (sm_acI (sm_acI (sm_pI (sm_pI S0_ 5 (3 + ii_) 1 (S0_.1 5 ll_ 1)) 5 (3 + ii_) 2 ((sm_pI S0_ 5 (3 + ii_) 1 (S0_.1 5 ll_ 1)).1 5 ll_ 2)) 55 (0 + ll_) 55 (0 + (3 + ii_)) (0 : Int).toNat (0 : Int).toNat (12 : Int).toNat) 56 (0 + ll_) 56 (0 + (3 + ii_)) (0 : Int).toNat (0 : Int).toNat (12 : Int).toNat) 57 (0 + ll_) 57 (0 + (3 + ii_)) (0 : Int).toNat (0 : Int).toNat (12 : Int).toNat) rfl rfl (nt_acI (sc := sc_) (t := 57) (i := (0 + ll_)) (t' := 57) (i' := (0 + (3 + ii_))) (x := 0) (y := 0) (m := 12) (n := 12) (n1 := 12) rfl rfl (by omega) (by omega) (by omega) (by omega) (by omega)) ?_
  have hIx16_ : gi (sm_acI (sm_acI (sm_acI (sm_pI (sm_pI S0_ 5 (3 + ii_) 1 (S0_.1 5 ll_ 1)) 5 (3 + ii_) 2 ((sm_pI S0_ 5 (3 + ii_) 1 (S0_.1 5 ll_ 1)).1 5 ll_ 2)) 55 (0 + ll_) 55 (0 + (3 + ii_)) (0 : Int).toNat (0 : Int).toNat (12 : Int).toNat) 56 (0 + ll_) 56 (0 + (3 + ii_)) (0 : Int).toNat (0 : Int).toNat (12 : Int).toNat) 57 (0 + ll_) 57 (0 + (3 + ii_)) (0 : Int).toNat (0 : Int).toNat (12 : Int).toNat) := gi_ac hIx13_ (by decide) (by decide)
  have hFx17_ : ai_fr (sx_W vw_90n) S0_ (sm_acI (sm_acI (sm_acI (sm_pI (sm_pI S0_ 5 (3 + ii_) 1 (S0_.1 5 ll_ 1)) 5 (3 + ii_) 2 ((sm_pI S0_ 5 (3 + ii_) 1 (S0_.1 5 ll_ 1)).1 5 ll_ 2)) 55 (0 + ll_) 55 (0 + (3 + ii_)) (0 : Int).toNat (0 : Int).toNat (12 : Int).toNat) 56 (0 + ll_) 56 (0 + (3 + ii_)) (0 : Int).toNat (0 : Int).toNat (12 : Int).toNat) 57 (0 + ll_) 57 (0 + (3 + ii_)) (0 : Int).toNat (0 : Int).toNat (12 : Int).toNat) := ai_fr_tr hFx14_ (fr_ac rfl)
  have hCx18_ : cdf ii_ S0_ (sm_acI (sm_acI (sm_acI (sm_pI (sm_pI S0_ 5 (3 + ii_) 1 (S0_.1 5 ll_ 1)) 5 (3 + ii_) 2 ((sm_pI S0_ 5 (3 + ii_) 1 (S0_.1 5 ll_ 1)).1 5 ll_ 2)) 55 (0 + ll_) 55 (0 + (3 + ii_)) (0 : Int).toNat (0 : Int).toNat (12 : Int).toNat) 56 (0 + ll_) 56 (0 + (3 + ii_)) (0 : Int).toNat (0 : Int).toNat (12 : Int).toNat) 57 (0 + ll_) 57 (0 + (3 + ii_)) (0 : Int).toNat (0 : Int).toNat (12 : Int).toNat) := cdf_ac hCx15_ (Or.inr (by rw [show cof 57 = 3 from rfl] <;> omega))
  refine sm_T_go 7 (c1 := (73, [some (.inr (.inr (some (5, (3 + ii_))))), some (.inr (.inr (some (5, ll_))))], [.inl 12, .inl 0, .inr (.inr (some (58, (0 + (3 + ii_))))), .inl 0, .inr (.inr (some (58, (0 + ll_))))], sm_acI (sm_acI (sm_acI (sm_pI (sm_pI S0_ 5 (3 + ii_) 1 (S0_.1 5 ll_ 1)) 5 (3 + ii_) 2 ((sm_pI S0_ 5 (3 + ii_) 1 (S0_.1 5 ll_ 1)).1 5 ll_ 2)) 55 (0 + ll_) 55 (0 + (3 + ii_)) (0 : Int).toNat (0 : Int).toNat (12 : Int).toNat) 56 (0 + ll_) 56 (0 + (3 + ii_)) (0 : Int).toNat (0 : Int).toNat (12 : Int).toNat) 57 (0 + ll_) 57 (0 + (3 + ii_)) (0 : Int).toNat (0 : Int).toNat (12 : Int).toNat)) rfl ?_
  refine sm_T_nt (u := none) (S1 := sm_acI (sm_acI (sm_acI (sm_acI (sm_pI (sm_pI S0_ 5 (3 + ii_) 1 (S0_.1 5 ll_ 1)) 5 (3 + ii_) 2 ((sm_pI S0_ 5 (3 + ii_) 1 (S0_.1 5 ll_ 1)).1 5 ll_ 2)) 55 (0 + ll_) 55 (0 + (3 + ii_)) (0 : Int).toNat (0 : Int).toNat (12 : Int).toNat) 56 (0 + ll_) 56 (0 + (3 + ii_)) (0 : Int).toNat (0 : Int).toNat (12 : Int).toNat) 57 (0 + ll_) 57 (0 + (3 + ii_)) (0 : Int).toNat (0 : Int).toNat (12 : Int).toNat) 58 (0 + ll_) 58 (0 + (3 + ii_)) (0 : Int).toNat (0 : Int).toNat (12 : Int).toNat) rfl rfl (nt_acI (sc := sc_) (t := 58) (i := (0 + ll_)) (t' := 58) (i' := (0 + (3 + ii_))) (x := 0) (y := 0) (m := 12) (n := 12) (n1 := 12) rfl rfl (by omega) (by omega) (by omega) (by omega) (by omega)) ?_
  have hIx19_ : gi (sm_acI (sm_acI (sm_acI (sm_acI (sm_pI (sm_pI S0_ 5 (3 + ii_) 1 (S0_.1 5 ll_ 1)) 5 (3 + ii_) 2 ((sm_pI S0_ 5 (3 + ii_) 1 (S0_.1 5 ll_ 1)).1 5 ll_ 2)) 55 (0 + ll_) 55 (0 + (3 + ii_)) (0 : Int).toNat (0 : Int).toNat (12 : Int).toNat) 56 (0 + ll_) 56 (0 + (3 + ii_)) (0 : Int).toNat (0 : Int).toNat (12 : Int).toNat) 57 (0 + ll_) 57 (0 + (3 + ii_)) (0 : Int).toNat (0 : Int).toNat (12 : Int).toNat) 58 (0 + ll_) 58 (0 + (3 + ii_)) (0 : Int).toNat (0 : Int).toNat (12 : Int).toNat) := gi_ac hIx16_ (by decide) (by decide)
  have hFx20_ : ai_fr (sx_W vw_90n) S0_ (sm_acI (sm_acI (sm_acI (sm_acI (sm_pI (sm_pI S0_ 5 (3 + ii_) 1 (S0_.1 5 ll_ 1)) 5 (3 + ii_) 2 ((sm_pI S0_ 5 (3 + ii_) 1 (S0_.1 5 ll_ 1)).1 5 ll_ 2)) 55 (0 + ll_) 55 (0 + (3 + ii_)) (0 : Int).toNat (0 : Int).toNat (12 : Int).toNat) 56 (0 + ll_) 56 (0 + (3 + ii_)) (0 : Int).toNat (0 : Int).toNat (12 : Int).toNat) 57 (0 + ll_) 57 (0 + (3 + ii_)) (0 : Int).toNat (0 : Int).toNat (12 : Int).toNat) 58 (0 + ll_) 58 (0 + (3 + ii_)) (0 : Int).toNat (0 : Int).toNat (12 : Int).toNat) := ai_fr_tr hFx17_ (fr_ac rfl)
  have hCx21_ : cdf ii_ S0_ (sm_acI (sm_acI (sm_acI (sm_acI (sm_pI (sm_pI S0_ 5 (3 + ii_) 1 (S0_.1 5 ll_ 1)) 5 (3 + ii_) 2 ((sm_pI S0_ 5 (3 + ii_) 1 (S0_.1 5 ll_ 1)).1 5 ll_ 2)) 55 (0 + ll_) 55 (0 + (3 + ii_)) (0 : Int).toNat (0 : Int).toNat (12 : Int).toNat) 56 (0 + ll_) 56 (0 + (3 + ii_)) (0 : Int).toNat (0 : Int).toNat (12 : Int).toNat) 57 (0 + ll_) 57 (0 + (3 + ii_)) (0 : Int).toNat (0 : Int).toNat (12 : Int).toNat) 58 (0 + ll_) 58 (0 + (3 + ii_)) (0 : Int).toNat (0 : Int).toNat (12 : Int).toNat) := cdf_ac hCx18_ (Or.inr (by rw [show cof 58 = 3 from rfl] <;> omega))
  refine sm_T_rv rfl ⟨_, _, rfl, rfl, hIx19_, hFx20_, ?_⟩
  refine ⟨hCx21_, ?_⟩
  refine ⟨?_, ?_, fun k9_ hk9_ => ⟨?_, ?_, ?_, ?_⟩⟩
  · rw [ac_f, ac_f, ac_f, ac_f, rf_nk (by decide), rf_eq]
  · rw [ac_f, ac_f, ac_f, ac_f, rf_eq]
    try omega
  · rw [sm_acI_ne (fun q9_ => absurd q9_.1 (by decide)), sm_acI_ne (fun q9_ => absurd q9_.1 (by decide)), sm_acI_ne (fun q9_ => absurd q9_.1 (by decide)), sm_acI_at, cp_in hk9_]; rfl
  · rw [sm_acI_ne (fun q9_ => absurd q9_.1 (by decide)), sm_acI_ne (fun q9_ => absurd q9_.1 (by decide)), sm_acI_at, cp_in hk9_, sm_acI_ne (fun q9_ => absurd q9_.1 (by decide))]; rfl
  · rw [sm_acI_ne (fun q9_ => absurd q9_.1 (by decide)), sm_acI_at, cp_in hk9_, sm_acI_ne (fun q9_ => absurd q9_.1 (by decide)), sm_acI_ne (fun q9_ => absurd q9_.1 (by decide))]; rfl
  · rw [sm_acI_at, cp_in hk9_, sm_acI_ne (fun q9_ => absurd q9_.1 (by decide)), sm_acI_ne (fun q9_ => absurd q9_.1 (by decide)), sm_acI_ne (fun q9_ => absurd q9_.1 (by decide))]; rfl
/-! Chip.start -/
end
/-! 99.ztZh -/
section
/-! a chip is built: trees; written by wip/p55/gen/vg -/

/-! a_ chip is_ built -/
def btn (dd_ F_ : Nat) (S_ : sm_S) (x_ : Nat) : Prop := F_ ≤ x_ ∧ (x_ : Int) < S_.1 3 dd_ 4 ∧ S_.2.2.1 59 0 x_ = 1
def bnd9 (dd_ F_ : Nat) (S_ : sm_S) : Nat → Bool := ndf F_ (S_.1 3 dd_ 4).toNat (S_.1 3 dd_ 3 + S_.1 3 dd_ 2).toNat (S_.2.2.1 44 (0 + dd_)) (S_.2.2.1 42 (0 + dd_)) (S_.2.2.1 43 (0 + dd_)) (fun j_ => rtv dd_ S_ (j_ : Int))
def bus (dd_ F_ : Nat) (S_ : sm_S) : Nat → Nat := usn F_ (S_.1 3 dd_ 4).toNat (S_.1 3 dd_ 3 + S_.1 3 dd_ 2).toNat (S_.2.2.1 44 (0 + dd_)) (S_.2.2.1 42 (0 + dd_)) (S_.2.2.1 43 (0 + dd_)) (fun j_ => rtv dd_ S_ (j_ : Int))
/-- needed nodes, roots, trees -/
def bcm (dd_ F_ : Nat) (S_ : sm_S) : Prop := (∀ q_ : Nat, (q_ : Int) < S_.1 3 dd_ 4 → (S_.2.2.1 59 0 q_ = 0 ∨ S_.2.2.1 59 0 q_ = 1) ∧ (S_.2.2.1 59 0 q_ = 1 ↔ bnd9 dd_ F_ S_ q_ = true)) ∧ (∀ q_ : Nat, (q_ : Int) < S_.1 3 dd_ 4 → S_.2.2.1 60 0 q_ = if 1 < bus dd_ F_ S_ q_ then 1 else 0) ∧ ∀ n_, btn dd_ F_ S_ n_ → trh (cnn F_ S_) (ccl dd_ S_) (cch dd_ S_) n_ (btn dd_ F_ S_) ∧ ∀ m_, (crn (cnn F_ S_) (ccl dd_ S_) (cch dd_ S_) n_ m_).length ≤ 47
def bvw (ll_ : Nat) (S_ : sm_S) : Prop := ∀ c_ v_ : Nat, (c_ : Int) < S_.1 5 ll_ 1 → (2 ≤ S_.2.2.1 55 (0 + ll_) c_) → v_ < wic (S_.2.2.1 55 (0 + ll_) c_).toNat → vwd ll_ S_ (S_.2.2.1 69 0) c_ v_
theorem bcm_of {dd_ F_ : Nat} {S_ : sm_S} (hg_ : dgr dd_ F_ S_) (hs_ : swp dd_ F_ S_) (hk_ : mkd dd_ F_ S_ (S_.2.2.1 59 0)) (hsw : swd F_ (S_.1 3 dd_ 4).toNat (S_.2.2.1 42 (0 + dd_)) (S_.2.2.1 43 (0 + dd_)) (S_.2.2.1 44 (0 + dd_))) (n13_ : S_.1 3 dd_ 4 ≤ 1013) (h1_ : ∀ q_ : Nat, (q_ : Int) < S_.1 3 dd_ 4 → (S_.2.2.1 59 0 q_ = 0 ∨ S_.2.2.1 59 0 q_ = 1) ∧ (S_.2.2.1 59 0 q_ = 1 ↔ bnd9 dd_ F_ S_ q_ = true)) (h2_ : ∀ q_ : Nat, (q_ : Int) < S_.1 3 dd_ 4 → S_.2.2.1 60 0 q_ = if 1 < bus dd_ F_ S_ q_ then 1 else 0) : bcm dd_ F_ S_ := by
  have g1_ := hg_.1
  have g2_ := hg_.2.1
  have hgl_ : glo F_ (S_.1 3 dd_ 4).toNat (S_.2.2.1 42 (0 + dd_)) (S_.2.2.1 43 (0 + dd_)) := fun k_ a_ b_ => hg_.2.2 k_ a_ (by omega)
  have hsf_ : ∀ m_, m_ < (S_.1 3 dd_ 4).toNat → sfo F_ (S_.2.2.1 42 (0 + dd_)) (S_.2.2.1 43 (0 + dd_)) (S_.2.2.1 44 (0 + dd_)) m_ := fun m_ hm9_ => hs_.2 m_ (by omega)
  have eT_ : (fun x_ => F_ ≤ x_ ∧ x_ < (S_.1 3 dd_ 4).toNat ∧ bnd9 dd_ F_ S_ x_ = true) = btn dd_ F_ S_ := by
    funext x_
    refine propext ⟨fun q_ => ⟨q_.1, by have := q_.2.1; omega, ((h1_ x_ (by have := q_.2.1; omega)).2).mpr q_.2.2⟩, fun q_ => ⟨q_.1, by have := q_.2.1; omega, ((h1_ x_ q_.2.1).2).mp q_.2.2⟩⟩
  have hc_ : ∀ x_, F_ ≤ x_ → x_ < (S_.1 3 dd_ 4).toNat → bnd9 dd_ F_ S_ x_ = true → S_.2.2.1 44 (0 + dd_) x_ = 2 * (x_ : Int) ∧ bnd9 dd_ F_ S_ (nsw (S_.2.2.1 44 (0 + dd_)) (S_.2.2.1 42 (0 + dd_) x_)) = true ∧ bnd9 dd_ F_ S_ (nsw (S_.2.2.1 44 (0 + dd_)) (S_.2.2.1 43 (0 + dd_) x_)) = true := by
    intro x_ a_ b_ c_
    have u_ := (h1_ x_ (by omega)).2.mpr c_
    have p_ := nd_p hg_ hs_ hk_ n13_ a_ (by omega) u_
    have m_ := hk_.2.2 x_ a_ (by omega) u_
    refine ⟨?_, ?_, ?_⟩
    · rcases hk_.1 x_ (by omega) with z_ | z_
      · rw [z_] at u_
        exact absurd u_ (by decide)
      · exact z_.2.2
    · exact (h1_ _ (by
        have := p_.1.2.1
        show ((srp dd_ S_ (S_.2.2.1 42 (0 + dd_) x_) : Nat) : Int) < _
        omega)).2.mp m_.1
    · exact (h1_ _ (by
        have := p_.2.1.2.1
        show ((srp dd_ S_ (S_.2.2.1 43 (0 + dd_) x_) : Nat) : Int) < _
        omega)).2.mp m_.2
  have hi9_ : ∀ z_, z_ < (S_.1 3 dd_ 4).toNat → cnn F_ S_ z_ = true → F_ ≤ z_ ∧ psm (pgn (S_.2.2.1 44 (0 + dd_)) (S_.2.2.1 42 (0 + dd_)) (S_.2.2.1 43 (0 + dd_)) (bnd9 dd_ F_ S_) z_) F_ ((S_.1 3 dd_ 4).toNat - F_) ≤ 1 := by
    intro z_ a_ b_
    have d_ := of_decide_eq_true b_
    have u_ := h2_ z_ (by omega)
    rw [d_.2] at u_
    refine ⟨d_.1, ?_⟩
    by_cases c_ : 1 < bus dd_ F_ S_ z_
    · rw [if_pos c_] at u_
      exact absurd u_ (by decide)
    · have e_ : bus dd_ F_ S_ z_ = 2 * rcn (S_.2.2.1 44 (0 + dd_)) (fun j_ => rtv dd_ S_ (j_ : Int)) (S_.1 3 dd_ 3 + S_.1 3 dd_ 2).toNat z_ + psm (pgn (S_.2.2.1 44 (0 + dd_)) (S_.2.2.1 42 (0 + dd_)) (S_.2.2.1 43 (0 + dd_)) (bnd9 dd_ F_ S_) z_) F_ ((S_.1 3 dd_ 4).toNat - F_) := rfl
      omega
  refine ⟨h1_, h2_, fun n_ tn_ => ?_⟩
  have tn'_ : F_ ≤ n_ ∧ n_ < (S_.1 3 dd_ 4).toNat ∧ bnd9 dd_ F_ S_ n_ = true := by
    have q_ := tn_
    rw [← eT_] at q_
    exact q_
  have t_ := trh_of (inn_ := cnn F_ S_) (n_ := n_) (nd_ := bnd9 dd_ F_ S_) (by omega) hgl_ hsf_ hc_ hi9_ tn'_
  rw [eT_] at t_
  refine ⟨t_, fun m_ => ?_⟩
  exact crn_sw (inn_ := cnn F_ S_) (n_ := n_) (nd_ := bnd9 dd_ F_ S_) (by omega) hgl_ hsf_ hs_.1 hc_ hsw hi9_ tn'_ m_
theorem bcm_cg {dd_ F_ : Nat} {S_ S'_ : sm_S} (h_ : bcm dd_ F_ S_) (f2_ : S'_.1 3 dd_ 2 = S_.1 3 dd_ 2) (f3_ : S'_.1 3 dd_ 3 = S_.1 3 dd_ 3) (f4_ : S'_.1 3 dd_ 4 = S_.1 3 dd_ 4) (a2_ : S'_.2.2.1 42 (0 + dd_) = S_.2.2.1 42 (0 + dd_)) (a3_ : S'_.2.2.1 43 (0 + dd_) = S_.2.2.1 43 (0 + dd_)) (a4_ : S'_.2.2.1 44 (0 + dd_) = S_.2.2.1 44 (0 + dd_)) (a5_ : S'_.2.2.1 45 (0 + dd_) = S_.2.2.1 45 (0 + dd_)) (a6_ : S'_.2.2.1 46 (0 + dd_) = S_.2.2.1 46 (0 + dd_)) (a9_ : S'_.2.2.1 59 0 = S_.2.2.1 59 0) (b0_ : S'_.2.2.1 60 0 = S_.2.2.1 60 0) : bcm dd_ F_ S'_ ∧ btn dd_ F_ S'_ = btn dd_ F_ S_ ∧ cnn F_ S'_ = cnn F_ S_ ∧ ccl dd_ S'_ = ccl dd_ S_ ∧ cch dd_ S'_ = cch dd_ S_ := by
  have er : rtv dd_ S'_ = rtv dd_ S_ := by
    funext i_
    unfold rtv
    rw [f3_, a5_, a6_]
  have es_ : srp dd_ S'_ = srp dd_ S_ := by
    funext l_
    unfold srp
    rw [a4_]
  have c1_ : cnn F_ S'_ = cnn F_ S_ := by
    funext y_
    unfold cnn
    rw [b0_]
  have c2_ : ccl dd_ S'_ = ccl dd_ S_ := by
    funext y_
    unfold ccl
    rw [es_, a2_]
  have c3_ : cch dd_ S'_ = cch dd_ S_ := by
    funext y_
    unfold cch
    rw [es_, a3_]
  have c4_ : btn dd_ F_ S'_ = btn dd_ F_ S_ := by
    funext y_
    unfold btn
    rw [f4_, a9_]
  have c5_ : bnd9 dd_ F_ S'_ = bnd9 dd_ F_ S_ := by
    unfold bnd9
    rw [f4_, f3_, f2_, a4_, a2_, a3_, er]
  have c6_ : bus dd_ F_ S'_ = bus dd_ F_ S_ := by
    unfold bus
    rw [f4_, f3_, f2_, a4_, a2_, a3_, er]
  refine ⟨?_, c4_, c1_, c2_, c3_⟩
  unfold bcm
  rw [f4_, a9_, b0_, c1_, c2_, c3_, c4_, c5_, c6_]
  exact h_
theorem bcm_fr {w_ : sx_Wl} {dd_ F_ : Nat} {S_ S'_ : sm_S} (h_ : bcm dd_ F_ S_) (g_ : ai_fr (sx_W w_) S_ S'_) (h2_ : (sx_W w_).1 3 2 = false := by rfl) (h3_ : (sx_W w_).1 3 3 = false := by rfl) (h4_ : (sx_W w_).1 3 4 = false := by rfl) (a2_ : (sx_W w_).2.1 42 = false := by rfl) (a3_ : (sx_W w_).2.1 43 = false := by rfl) (a4_ : (sx_W w_).2.1 44 = false := by rfl) (a5_ : (sx_W w_).2.1 45 = false := by rfl) (a6_ : (sx_W w_).2.1 46 = false := by rfl) (a9_ : (sx_W w_).2.1 59 = false := by rfl) (b0_ : (sx_W w_).2.1 60 = false := by rfl) : bcm dd_ F_ S'_ ∧ btn dd_ F_ S'_ = btn dd_ F_ S_ ∧ cnn F_ S'_ = cnn F_ S_ ∧ ccl dd_ S'_ = ccl dd_ S_ ∧ cch dd_ S'_ = cch dd_ S_ :=
  bcm_cg h_ (g_.1 3 dd_ 2 h2_) (g_.1 3 dd_ 3 h3_) (g_.1 3 dd_ 4 h4_) (fr_arr g_ a2_) (fr_arr g_ a3_) (fr_arr g_ a4_) (fr_arr g_ a5_) (fr_arr g_ a6_) (fr_arr g_ a9_) (fr_arr g_ b0_)

/-! Mapper.wantsInverter -/
def vw_96n : sx_Wl := ([], [], [])
def vq_96n (dd_ : Nat) (S0_ : sm_S) (u_ : Option sm_V) (S1_ : sm_S) : Prop := S0_ = S1_ ∧ ∃ v_ : Int, u_ = some (.inl v_) ∧ ((v_ = 0 ∨ v_ = 1) ∧ (v_ = 0 → ∀ i_ : Int, 0 ≤ i_ → i_ < S0_.1 3 dd_ 3 + S0_.1 3 dd_ 2 → i_xor (S0_.2.2.1 44 (0 + dd_) (rtv dd_ S0_ i_ / 2).toNat) (rtv dd_ S0_ i_ % 2) ≤ 1 ∨ i_xor (S0_.2.2.1 44 (0 + dd_) (rtv dd_ S0_ i_ / 2).toNat) (rtv dd_ S0_ i_ % 2) % 2 = 0) ∧ imq (v_ = 1) (∃ i_ : Int, 0 ≤ i_ ∧ i_ < S0_.1 3 dd_ 3 + S0_.1 3 dd_ 2 ∧ 1 < slv dd_ S0_ i_ ∧ slv dd_ S0_ i_ % 2 = 1))
set_option maxHeartbeats 400000 in
theorem vl_96n {sc_ : Nat × (Nat → Int)} (dd_ : Nat) (S0_ : sm_S) (hd_ : S0_.2.1 6 0 0 = some dd_) (hr_ : drt dd_ S0_) : ∀ nn_ : Nat, (∀ (k_ : Int) (S_ : sm_S), gi S_ → ai_fr (sx_W vw_96n) S0_ S_ → ((0 ≤ k_ ∧ k_ ≤ 22) ∧ (∀ i_ : Int, 0 ≤ i_ → i_ < k_ → i_xor (S0_.2.2.1 44 (0 + dd_) (rtv dd_ S0_ i_ / 2).toNat) (rtv dd_ S0_ i_ % 2) ≤ 1 ∨ i_xor (S0_.2.2.1 44 (0 + dd_) (rtv dd_ S0_ i_ / 2).toNat) (rtv dd_ S0_ i_ % 2) % 2 = 0) ∧ (S_ = S0_) ∧ True) → ((100 - k_).toNat) < nn_ → sm_T (mt_P sc_) 1 96 (2, [some (.inr (.inr (some (6, 0)))), some (.inl k_), none], [], S_) (fun ro9_ => ∃ u_ S1_, ro9_ = (.inl u_, S1_, 0) ∧ vq_96n dd_ S0_ u_ S1_)) := by
  intro nn_
  induction nn_ with
  | zero => exact fun _ _ _ _ _ h_ => absurd h_ (Nat.not_lt_zero _)
  | succ nn_ ih_ =>
    rintro k_ S_ hI_ hF_ ⟨h0_, hi_, hS_, -⟩ hm_
    have r1_ := hr_.1
    have f2_ : S_.1 3 dd_ 2 = S0_.1 3 dd_ 2 := by rw [hS_]
    have f3_ : S_.1 3 dd_ 3 = S0_.1 3 dd_ 3 := by rw [hS_]
    refine sm_T_go 2 (c1 := (4, [some (.inr (.inr (some (6, 0)))), some (.inl k_), none], [.inr (.inr (some (6, 0))), .inl k_], S_)) rfl ?_
    refine sm_T_gr rfl rfl ((hF_.2.1 6 0 0 rfl).trans hd_) ?_
    refine sm_T_cal (d1 := 0) (Q1 := vq_66 dd_ S_) rfl rfl (by decide) (vc_66 dd_ S_ hI_ (by omega)) (fun u_ Sx1_ px4_ => ?_)
    obtain ⟨rfl, vx6_, rfl, px4_⟩ := px4_
    have r7_ := px4_
    refine sm_T_br (a := 3) (z := 38) rfl (fun cx7_ => ?_) (fun cx7_ => ?_)
    · have cx7_ : vx6_ ≤ k_ := of_decide_eq_true cx7_
      refine sm_T_go 1 (c1 := (49, [some (.inr (.inr (some (6, 0)))), some (.inl k_), none], [.inl 0], S_)) rfl ?_
      refine sm_T_rz rfl (by omega) ⟨_, _, rfl, (by first | rfl | exact hS_.symm), _, rfl, ?_⟩
      exact ⟨Or.inl rfl, fun _ i_ u_ w_ => hi_ i_ u_ (by omega), fun u_ => absurd u_ (by decide)⟩
    · have cx7_ : ¬ (vx6_ ≤ k_) := of_decide_eq_false cx7_
      refine sm_T_go 1 (c1 := (14, [some (.inr (.inr (some (6, 0)))), some (.inl k_), none], [.inr (.inr (some (6, 0)))], S_)) rfl ?_
      refine sm_T_gr rfl rfl ((hF_.2.1 6 0 0 rfl).trans hd_) ?_
      refine sm_T_go 1 (c1 := (18, [some (.inr (.inr (some (6, 0)))), some (.inl k_), none], [.inr (.inr (some (6, 0))), .inr (.inr (some (3, dd_)))], S_)) rfl ?_
      refine sm_T_gr rfl rfl ((hF_.2.1 6 0 0 rfl).trans hd_) ?_
      refine sm_T_go 1 (c1 := (22, [some (.inr (.inr (some (6, 0)))), some (.inl k_), none], [.inl k_, .inr (.inr (some (3, dd_))), .inr (.inr (some (3, dd_)))], S_)) rfl ?_
      refine sm_T_cal (d1 := 0) (Q1 := vq_65 k_ dd_ S_) rfl rfl (by decide) (vc_65 k_ dd_ S_ hI_ (by (rw [hS_]; exact hr_)) (by omega)) (fun u_ Sx8_ px11_ => ?_)
      obtain ⟨rfl, vx13_, rfl, px11_⟩ := px11_
      have t22_ := px11_
      have n22_ : S_.1 3 dd_ 4 ≤ 1013 := (hI_.1 3 dd_ 4 rfl).2
      refine sm_T_cal (d1 := 0) (Q1 := vq_64 vx13_ dd_ S_) rfl rfl (by decide) (vc_64 vx13_ dd_ S_ hI_ (by omega)) (fun u_ Sx14_ px17_ => ?_)
      obtain ⟨rfl, vx19_, rfl, px17_⟩ := px17_
      have e25_ := px17_
      rw [t22_.1, hS_] at e25_
      refine sm_T_go 3 (c1 := (31, [some (.inr (.inr (some (6, 0)))), some (.inl k_), some (.inl vx19_)], [.inl 1, .inl vx19_], S_)) rfl ?_
      refine sm_T_br (a := 5) (z := 11) rfl (fun cx20_ => ?_) (fun cx20_ => ?_)
      · have cx20_ : vx19_ ≤ 1 := of_decide_eq_true cx20_
        refine sm_T_inc (a := 1) (z := 1) (v := k_) (w := k_ + 1) rfl rfl (by omega) (by omega) (by omega) ?_ -- pc_ 42
        refine sm_T_go 1 (c1 := (2, [some (.inr (.inr (some (6, 0)))), some (.inl (k_ + 1)), some (.inl vx19_)], [], S_)) rfl ?_
        refine sm_T_wk [some (.inr (.inr (some (6, 0)))), some (.inl (k_ + 1)), none] (by exact ⟨rfl, rfl, trivial⟩) ?_
        refine ih_ (k_ + 1) S_ hI_ hF_ ⟨?_, ?_, ?_, trivial⟩ ?_
        · omega
        · intro i_ u_ w_
          by_cases y_ : i_ = k_
          · rw [y_, ← e25_]; omega
          · exact hi_ i_ u_ (by omega)
        · first | rfl | exact hS_
        · omega
      · have cx20_ : ¬ (vx19_ ≤ 1) := of_decide_eq_false cx20_
        refine sm_T_go 2 (c1 := (36, [some (.inr (.inr (some (6, 0)))), some (.inl k_), some (.inl vx19_)], [.inl 1, .inl vx19_], S_)) rfl ?_
        refine sm_T_bin (w := (vx19_ % 2)) rfl (bi_msk (k := 1) (by decide)) ?_ -- pc_ 36
        refine sm_T_b0 (a := 0) (z := 5) rfl (fun cx21_ => ?_) (fun cx21_ => ?_)
        · have cx21_ : (vx19_ % 2) = 0 := of_decide_eq_true cx21_
          refine sm_T_inc (a := 1) (z := 1) (v := k_) (w := k_ + 1) rfl rfl (by omega) (by omega) (by omega) ?_ -- pc_ 42
          refine sm_T_go 1 (c1 := (2, [some (.inr (.inr (some (6, 0)))), some (.inl (k_ + 1)), some (.inl vx19_)], [], S_)) rfl ?_
          refine sm_T_wk [some (.inr (.inr (some (6, 0)))), some (.inl (k_ + 1)), none] (by exact ⟨rfl, rfl, trivial⟩) ?_
          refine ih_ (k_ + 1) S_ hI_ hF_ ⟨?_, ?_, ?_, trivial⟩ ?_
          · omega
          · intro i_ u_ w_
            by_cases y_ : i_ = k_
            · rw [y_, ← e25_]; omega
            · exact hi_ i_ u_ (by omega)
          · first | rfl | exact hS_
          · omega
        · have cx21_ : ¬ ((vx19_ % 2) = 0) := of_decide_eq_false cx21_
          refine sm_T_go 1 (c1 := (41, [some (.inr (.inr (some (6, 0)))), some (.inl k_), some (.inl vx19_)], [.inl 1], S_)) rfl ?_
          refine sm_T_rz rfl (by omega) ⟨_, _, rfl, (by first | rfl | exact hS_.symm), _, rfl, ?_⟩
          refine ⟨Or.inr rfl, fun u_ => absurd u_ (by decide), fun _ => ⟨k_, by omega, by omega, ?_⟩⟩
          have y9_ : slv dd_ S0_ k_ = _ := e25_.symm
          rw [y9_]
          omega
set_option maxHeartbeats 400000 in
theorem vc_96n {sc_ : Nat × (Nat → Int)} (dd_ : Nat) (S0_ : sm_S) (hI_ : gi S0_) (hd_ : S0_.2.1 6 0 0 = some dd_) (hr_ : drt dd_ S0_) : sm_T (mt_P sc_) 1 96 (0, [some (.inr (.inr (some (6, 0)))), none, none], [], S0_) (fun ro9_ => ∃ u_ S1_, ro9_ = (.inl u_, S1_, 0) ∧ vq_96n dd_ S0_ u_ S1_) := by
  have hF_ : ai_fr (sx_W vw_96n) S0_ S0_ := ai_fr_rf
  refine sm_T_go 2 (c1 := (2, [some (.inr (.inr (some (6, 0)))), some (.inl 0), none], [], S0_)) rfl ?_
  refine (vl_96n dd_ S0_ hd_ hr_ _) 0 S0_ hI_ hF_ ⟨?_, ?_, ?_, trivial⟩ (Nat.lt_succ_self _)
  · omega
  · (intro i_ u_ w_; exfalso; omega)
  · first | rfl | exact hS_
end
/-! 99.ztZi -/
section
/-! a chip is built: the class; written by wip/p55/gen/vg -/

/-! building a_ chip -/
theorem bnd_fr {w_ : sx_Wl} {dd_ F_ : Nat} {S_ S'_ : sm_S} (g_ : ai_fr (sx_W w_) S_ S'_) (h2_ : (sx_W w_).1 3 2 = false := by rfl) (h3_ : (sx_W w_).1 3 3 = false := by rfl) (h4_ : (sx_W w_).1 3 4 = false := by rfl) (a2_ : (sx_W w_).2.1 42 = false := by rfl) (a3_ : (sx_W w_).2.1 43 = false := by rfl) (a4_ : (sx_W w_).2.1 44 = false := by rfl) (a5_ : (sx_W w_).2.1 45 = false := by rfl) (a6_ : (sx_W w_).2.1 46 = false := by rfl) : bnd9 dd_ F_ S'_ = bnd9 dd_ F_ S_ ∧ bus dd_ F_ S'_ = bus dd_ F_ S_ := by
  have er : rtv dd_ S'_ = rtv dd_ S_ := by
    funext i_
    unfold rtv
    rw [g_.1 3 dd_ 3 h3_, fr_arr (t := 45) (i := 0 + dd_) g_ a5_, fr_arr (t := 46) (i := 0 + dd_) g_ a6_]
  refine ⟨?_, ?_⟩
  · unfold bnd9
    rw [g_.1 3 dd_ 4 h4_, g_.1 3 dd_ 3 h3_, g_.1 3 dd_ 2 h2_, fr_arr (t := 44) (i := 0 + dd_) g_ a4_, fr_arr (t := 42) (i := 0 + dd_) g_ a2_, fr_arr (t := 43) (i := 0 + dd_) g_ a3_, er]
  · unfold bus
    rw [g_.1 3 dd_ 4 h4_, g_.1 3 dd_ 3 h3_, g_.1 3 dd_ 2 h2_, fr_arr (t := 44) (i := 0 + dd_) g_ a4_, fr_arr (t := 42) (i := 0 + dd_) g_ a2_, fr_arr (t := 43) (i := 0 + dd_) g_ a3_, er]
theorem bvw_cg {ll_ : Nat} {S_ S'_ : sm_S} (h_ : bvw ll_ S_) (f1_ : S'_.1 5 ll_ 1 = S_.1 5 ll_ 1) (e5_ : S'_.2.2.1 55 (0 + ll_) = S_.2.2.1 55 (0 + ll_)) (e6_ : S'_.2.2.1 56 (0 + ll_) = S_.2.2.1 56 (0 + ll_)) (e9_ : S'_.2.2.1 69 0 = S_.2.2.1 69 0) : bvw ll_ S'_ := by
  unfold bvw vwd
  rw [f1_, e5_, e6_, e9_]
  exact h_
/-- what findWays leaves, in the_ state behind -/
theorem cnw_nw {dd_ F_ ll_ n_ : Nat} {f_ : Int} {T_ : Nat → Prop} {S_ S'_ : sm_S} (ht_ : trh (cnn F_ S_) (ccl dd_ S_) (cch dd_ S_) n_ T_) (hf_ : f_ = (F_ : Int)) (h_ : ∃ (m_ : Nat) (Q_ : Nat → List Nat) (TB_ : Nat → Int), (crn (cnn F_ S_) (ccl dd_ S_) (cch dd_ S_) n_ m_).length ≤ m_ / 3 ∧ prm (crn (cnn F_ S_) (ccl dd_ S_) (cch dd_ S_) n_ m_).length Q_ (fun i_ => (crn (cnn F_ S_) (ccl dd_ S_) (cch dd_ S_) n_ m_).getD i_ []) ∧ sor (crn (cnn F_ S_) (ccl dd_ S_) (cch dd_ S_) n_ m_).length Q_ ∧ (∀ i_, i_ < (crn (cnn F_ S_) (ccl dd_ S_) (cch dd_ S_) n_ m_).length → ((2 ≤ (Q_ i_).length ∧ (Q_ i_).length ≤ 3) ∧ Q_ i_ ∈ crn (cnn F_ S_) (ccl dd_ S_) (cch dd_ S_) n_ m_) ∧ tbo (ccl dd_ S_) (cch dd_ S_) (ctl dd_ S_) (ctu dd_ S_) T_ n_ (Q_ i_) (TB_ i_)) ∧ fnc ll_ S'_ (2 * n_) (wbs adc (pcc f_ ll_ S_) (hcf (S_.2.2.1 69 0) TB_ Q_ 0) (car ll_ S_) (cip ll_ S_) Q_ (crn (cnn F_ S_) (ccl dd_ S_) (cch dd_ S_) n_ m_).length (S_.1 5 ll_ 1).toNat 268435456) (wbs adc (pcc f_ ll_ S_) (hcf (S_.2.2.1 69 0) TB_ Q_ 1) (car ll_ S_) (cip ll_ S_) Q_ (crn (cnn F_ S_) (ccl dd_ S_) (cch dd_ S_) n_ m_).length (S_.1 5 ll_ 1).toNat 268435456) ∧ fnc ll_ S'_ (2 * n_ + 1) (wbs adc (pcc f_ ll_ S_) (hcf (S_.2.2.1 69 0) TB_ Q_ 1) (car ll_ S_) (cip ll_ S_) Q_ (crn (cnn F_ S_) (ccl dd_ S_) (cch dd_ S_) n_ m_).length (S_.1 5 ll_ 1).toNat 268435456) (wbs adc (pcc f_ ll_ S_) (hcf (S_.2.2.1 69 0) TB_ Q_ 0) (car ll_ S_) (cip ll_ S_) Q_ (crn (cnn F_ S_) (ccl dd_ S_) (cch dd_ S_) n_ m_).length (S_.1 5 ll_ 1).toNat 268435456)) (e42_ : S'_.2.2.1 42 (0 + dd_) = S_.2.2.1 42 (0 + dd_)) (e43_ : S'_.2.2.1 43 (0 + dd_) = S_.2.2.1 43 (0 + dd_)) (e44_ : S'_.2.2.1 44 (0 + dd_) = S_.2.2.1 44 (0 + dd_)) (e60_ : S'_.2.2.1 60 0 = S_.2.2.1 60 0) (e69_ : S'_.2.2.1 69 0 = S_.2.2.1 69 0) (e55_ : S'_.2.2.1 55 (0 + ll_) = S_.2.2.1 55 (0 + ll_)) (e57_ : S'_.2.2.1 57 (0 + ll_) = S_.2.2.1 57 (0 + ll_)) (f1_ : S'_.1 5 ll_ 1 = S_.1 5 ll_ 1) (f2_ : S'_.1 5 ll_ 2 = S_.1 5 ll_ 2) (e61_ : ∀ j_, j_ < 2 * n_ → S'_.2.2.1 61 0 j_ = S_.2.2.1 61 0 j_) : cnw dd_ F_ ll_ T_ S'_ n_ := by
  have es_ : srp dd_ S'_ = srp dd_ S_ := by
    funext l_
    unfold srp
    rw [e44_]
  have el_ : slt dd_ S'_ = slt dd_ S_ := by
    funext l_
    unfold slt
    rw [e44_]
  have a1_ : cnn F_ S'_ = cnn F_ S_ := by
    funext y_
    unfold cnn
    rw [e60_]
  have a2_ : ccl dd_ S'_ = ccl dd_ S_ := by
    funext y_
    unfold ccl
    rw [es_, e42_]
  have a3_ : cch dd_ S'_ = cch dd_ S_ := by
    funext y_
    unfold cch
    rw [es_, e43_]
  have a4_ : ctl dd_ S'_ = ctl dd_ S_ := by
    funext y_
    unfold ctl
    rw [el_, e42_]
  have a5_ : ctu dd_ S'_ = ctu dd_ S_ := by
    funext y_
    unfold ctu
    rw [el_, e43_]
  have a6_ : car ll_ S'_ = car ll_ S_ := by
    funext y_
    unfold car
    rw [e57_]
  have a7_ : cip ll_ S'_ = cip ll_ S_ := by
    funext y_
    unfold cip
    rw [e55_]
  rw [hf_] at h_
  obtain ⟨m_, Q_, TB_, h1_, h2_, h3_, h4_, h5_, h6_⟩ := h_
  unfold cnw
  rw [a1_, a2_, a3_, a4_, a5_, a6_, a7_, e69_, f1_]
  have pw_ : ∀ t_ : Nat, wbs adc (pcc (F_ : Int) ll_ S'_) (hcf (S_.2.2.1 69 0) TB_ Q_ t_) (car ll_ S_) (cip ll_ S_) Q_ (crn (cnn F_ S_) (ccl dd_ S_) (cch dd_ S_) n_ m_).length (S_.1 5 ll_ 1).toNat 268435456 = wbs adc (pcc (F_ : Int) ll_ S_) (hcf (S_.2.2.1 69 0) TB_ Q_ t_) (car ll_ S_) (cip ll_ S_) Q_ (crn (cnn F_ S_) (ccl dd_ S_) (cch dd_ S_) n_ m_).length (S_.1 5 ll_ 1).toNat 268435456 := fun t_ => wbs_cg (fun i_ hi_ => (h4_ i_ hi_).1.1) (fun i_ hi_ y_ t_ hy_ t0_ t1_ => pcc_cg (n_ := (n_ : Int)) ⟨by omega, by
      have := (cut_n ht_ (h4_ i_ hi_).1.2 hy_).1
      omega⟩ ⟨t0_, t1_⟩ e60_ (fun j_ hj_ => e61_ j_ (by omega)) f2_ e57_)
  exact ⟨m_, Q_, TB_, h1_, h2_, h3_, h4_, by rw [pw_ 0, pw_ 1]; exact h5_, by rw [pw_ 0, pw_ 1]; exact h6_⟩
/-- the_ library stays when a_ chip of_ another number is_ changed -/
theorem cdf_l {cc_ ll_ : Nat} {S0_ S_ S'_ : sm_S} (c_ : cdf cc_ S0_ S_) (c'_ : cdf cc_ S0_ S'_) (hl_ : ll_ < 3) : (∀ k_, S'_.1 5 ll_ k_ = S_.1 5 ll_ k_) ∧ S'_.2.2.1 55 (0 + ll_) = S_.2.2.1 55 (0 + ll_) ∧ S'_.2.2.1 56 (0 + ll_) = S_.2.2.1 56 (0 + ll_) ∧ S'_.2.2.1 57 (0 + ll_) = S_.2.2.1 57 (0 + ll_) ∧ S'_.2.2.1 58 (0 + ll_) = S_.2.2.1 58 (0 + ll_) := by
  have q5_ : ll_ ≠ cof 5 + cc_ := by
    rw [show cof 5 = 3 from rfl]
    omega
  have q55_ : 0 + ll_ ≠ cof 55 + cc_ := by
    rw [show cof 55 = 3 from rfl]
    omega
  have q56_ : 0 + ll_ ≠ cof 56 + cc_ := by
    rw [show cof 56 = 3 from rfl]
    omega
  have q57_ : 0 + ll_ ≠ cof 57 + cc_ := by
    rw [show cof 57 = 3 from rfl]
    omega
  have q58_ : 0 + ll_ ≠ cof 58 + cc_ := by
    rw [show cof 58 = 3 from rfl]
    omega
  exact ⟨fun k_ => ((c'_ 5 rfl ll_ q5_).1 k_).trans ((c_ 5 rfl ll_ q5_).1 k_).symm, ((c'_ 55 rfl _ q55_).2).trans (c_ 55 rfl _ q55_).2.symm, ((c'_ 56 rfl _ q56_).2).trans (c_ 56 rfl _ q56_).2.symm, ((c'_ 57 rfl _ q57_).2).trans (c_ 57 rfl _ q57_).2.symm, ((c'_ 58 rfl _ q58_).2).trans (c_ 58 rfl _ q58_).2.symm⟩
/-- all_ ways are_ found; all_ roots can_ be_ made -/
def ball (dd_ F_ ll_ : Nat) (S_ : sm_S) : Prop := (∀ x_, btn dd_ F_ S_ x_ → cnw dd_ F_ ll_ (btn dd_ F_ S_) S_ x_) ∧ ∀ x_, btn dd_ F_ S_ x_ → S_.2.2.1 60 0 x_ ≠ 0 → S_.2.2.1 61 0 (2 * x_) < 268435456
theorem ball_cg {dd_ F_ ll_ : Nat} {S_ S'_ : sm_S} (hb_ : bcm dd_ F_ S_) (h_ : ball dd_ F_ ll_ S_) (hb'_ : bcm dd_ F_ S'_ ∧ btn dd_ F_ S'_ = btn dd_ F_ S_ ∧ cnn F_ S'_ = cnn F_ S_ ∧ ccl dd_ S'_ = ccl dd_ S_ ∧ cch dd_ S'_ = cch dd_ S_) (e42_ : S'_.2.2.1 42 (0 + dd_) = S_.2.2.1 42 (0 + dd_)) (e43_ : S'_.2.2.1 43 (0 + dd_) = S_.2.2.1 43 (0 + dd_)) (e44_ : S'_.2.2.1 44 (0 + dd_) = S_.2.2.1 44 (0 + dd_)) (e60_ : S'_.2.2.1 60 0 = S_.2.2.1 60 0) (e69_ : S'_.2.2.1 69 0 = S_.2.2.1 69 0) (e55_ : S'_.2.2.1 55 (0 + ll_) = S_.2.2.1 55 (0 + ll_)) (e57_ : S'_.2.2.1 57 (0 + ll_) = S_.2.2.1 57 (0 + ll_)) (f1_ : S'_.1 5 ll_ 1 = S_.1 5 ll_ 1) (f2_ : S'_.1 5 ll_ 2 = S_.1 5 ll_ 2) (e61_ : S'_.2.2.1 61 0 = S_.2.2.1 61 0) (e62_ : S'_.2.2.1 62 0 = S_.2.2.1 62 0) (e63_ : S'_.2.2.1 63 0 = S_.2.2.1 63 0) (e64_ : S'_.2.2.1 64 0 = S_.2.2.1 64 0) (c55_ : ∀ k_, S_.2.2.1 55 (0 + ll_) k_ ≤ 3) : ball dd_ F_ ll_ S'_ := by
  unfold ball
  rw [hb'_.2.1, e60_, e61_]
  refine ⟨fun x_ hx_ => ?_, h_.2⟩
  exact cnw_cg (hb_.2.2 x_ hx_).1 (h_.1 x_ hx_) e42_ e43_ e44_ e60_ e69_ e55_ e57_ f1_ f2_ (fun j_ _ => by rw [e61_]) (fun j_ _ _ => by rw [e62_, e63_]; exact ⟨rfl, rfl⟩) (fun j_ _ _ => by rw [e64_]) c55_

/-! Mapper.build -/
end
/-! 99.ztZj -/
section
/-! a chip is kept: the reference; written by wip/p55/gen/vg -/

/-! what keepChip leaves -/
def kcp (c_ d_ : Int) (S_ S'_ : sm_S) : Prop := S'_.2.2.1 222 0 c_.toNat = 1 ∧ (S'_.2.2.1 223 0 c_.toNat = S_.2.2.1 154 0 d_.toNat ∧ S'_.2.2.1 224 0 c_.toNat = S_.2.2.1 155 0 d_.toNat ∧ S'_.2.2.1 225 0 c_.toNat = S_.2.2.1 156 0 d_.toNat ∧ S'_.2.2.1 226 0 c_.toNat = S_.2.2.1 157 0 d_.toNat ∧ S'_.2.2.1 227 0 c_.toNat = S_.2.2.1 157 0 d_.toNat ∧ S'_.2.2.1 228 0 c_.toNat = S_.1 13 0 129) ∧ (∀ j9_ : Int, 0 ≤ j9_ → j9_ < S_.1 13 0 129 → S'_.2.2.1 229 0 (150 * c_ + j9_).toNat = S_.2.2.1 216 0 j9_.toNat) ∧ (∀ j9_ : Int, 0 ≤ j9_ → j9_ < 3 * S_.1 13 0 129 → S'_.2.2.1 230 0 (450 * c_ + j9_).toNat = S_.2.2.1 217 0 j9_.toNat) ∧ S'_.2.2.1 233 0 c_.toNat = S_.2.2.1 184 0 (S_.1 13 0 106).toNat ∧ (∀ j9_ : Int, 0 ≤ j9_ → j9_ < 12 → S'_.2.2.1 234 0 (12 * c_ + j9_).toNat = S_.2.2.1 185 0 (12 * S_.1 13 0 106 + j9_).toNat ∧ S'_.2.2.1 235 0 (12 * c_ + j9_).toNat = S_.2.2.1 186 0 (12 * S_.1 13 0 106 + j9_).toNat ∧ S'_.2.2.1 236 0 (12 * c_ + j9_).toNat = S_.2.2.1 187 0 (12 * S_.1 13 0 106 + j9_).toNat ∧ S'_.2.2.1 237 0 (12 * c_ + j9_).toNat = S_.2.2.1 188 0 (12 * S_.1 13 0 106 + j9_).toNat) ∧ S'_.2.2.1 231 0 = S_.2.2.1 231 0 ∧ S'_.2.2.1 232 0 = S_.2.2.1 232 0 ∧ S'_.2.2.1 240 0 c_.toNat = 0

/-! M_.keepChip -/
end
/-! 99.ztZk -/
section
/-! trees of the graph that the reference maps; written by wip/p55/gen/vg -/

/-! needed nodes are_ swept ones, and so_ are_ their parts -/
theorem psm_z {g_ : Nat → Nat} {a_ : Nat} : ∀ l_ : Nat, (∀ i_, i_ < l_ → g_ (a_ + i_) = 0) → psm g_ a_ l_ = 0
  | 0, _ => rfl
  | l_ + 1, e_ => by
    show psm g_ a_ l_ + g_ (a_ + l_) = 0
    rw [psm_z l_ (fun i_ hi_ => e_ i_ (by omega)), e_ l_ (Nat.lt_succ_self l_)]
theorem nsw_sf {F_ N_ : Nat} {lo_ hi_ sf_ : Nat → Int} {l_ : Int} (hs_ : ∀ m_, m_ < N_ → sfo F_ lo_ hi_ sf_ m_) (h0_ : 0 ≤ l_) (h1_ : l_ < 2 * (N_ : Int)) : nsw sf_ l_ < N_ ∧ sf_ (nsw sf_ l_) = 2 * ((nsw sf_ l_ : Nat) : Int) := by
  have s_ := hs_ (l_ / 2).toNat (by omega)
  have b_ := s_.1
  have e_ := s_.2.1
  have u_ : ((nsw sf_ l_ : Nat) : Int) = sf_ (l_ / 2).toNat / 2 := by
    unfold nsw
    omega
  refine ⟨by omega, ?_⟩
  rw [u_]
  exact e_
theorem nd0_sf {F_ N_ : Nat} {lo_ hi_ sf_ rt_ : Nat → Int} (hs_ : ∀ m_, m_ < N_ → sfo F_ lo_ hi_ sf_ m_) : ∀ (k_ q_ : Nat), (∀ i_, i_ < k_ → 0 ≤ rt_ i_ ∧ rt_ i_ < 2 * (N_ : Int)) → nd0 sf_ rt_ k_ q_ = true → q_ < N_ ∧ sf_ q_ = 2 * (q_ : Int)
  | 0, _, _, h_ => absurd h_ Bool.false_ne_true
  | k_ + 1, q_, hr_, h_ => by
    have h_ : (nd0 sf_ rt_ k_ q_ || decide (q_ = nsw sf_ (rt_ k_))) = true := h_
    rw [Bool.or_eq_true, decide_eq_true_iff] at h_
    rcases h_ with h_ | h_
    · exact nd0_sf hs_ k_ q_ (fun i_ hi_ => hr_ i_ (by omega)) h_
    · rw [h_]
      exact nsw_sf hs_ (hr_ k_ (Nat.lt_succ_self k_)).1 (hr_ k_ (Nat.lt_succ_self k_)).2
theorem ndk_sf {F_ N_ : Nat} {lo_ hi_ sf_ : Nat → Int} {m0_ : Nat → Bool} (hg_ : glo F_ N_ lo_ hi_) (hs_ : ∀ m_, m_ < N_ → sfo F_ lo_ hi_ sf_ m_) (h0_ : ∀ q_, m0_ q_ = true → q_ < N_ ∧ sf_ q_ = 2 * (q_ : Int)) : ∀ (j_ q_ : Nat), j_ ≤ N_ - F_ → (ndk N_ sf_ lo_ hi_ m0_ j_).1 q_ = true → q_ < N_ ∧ sf_ q_ = 2 * (q_ : Int)
  | 0, q_, _, h_ => h0_ q_ h_
  | j_ + 1, q_, hj_, h_ => by
    have g_ := hg_ (N_ - 1 - j_) (by omega) (by omega)
    cases x_ : (ndk N_ sf_ lo_ hi_ m0_ j_).1 (N_ - 1 - j_)
    · rw [ndk_n x_] at h_
      exact ndk_sf hg_ hs_ h0_ j_ q_ (by omega) h_
    · rw [ndk_y x_] at h_
      have h_ : (((ndk N_ sf_ lo_ hi_ m0_ j_).1 q_ || decide (q_ = nsw sf_ (lo_ (N_ - 1 - j_)))) || decide (q_ = nsw sf_ (hi_ (N_ - 1 - j_)))) = true := h_
      rw [Bool.or_eq_true, Bool.or_eq_true, decide_eq_true_iff, decide_eq_true_iff] at h_
      rcases h_ with (h_ | h_) | h_
      · exact ndk_sf hg_ hs_ h0_ j_ q_ (by omega) h_
      · rw [h_]
        exact nsw_sf hs_ (by omega) (by omega)
      · rw [h_]
        exact nsw_sf hs_ (by omega) (by omega)
theorem ndk_up {N_ : Nat} {lo_ hi_ sf_ : Nat → Int} {m0_ : Nat → Bool} {q_ j_ : Nat} (h_ : (ndk N_ sf_ lo_ hi_ m0_ j_).1 q_ = true) : ∀ i_ : Nat, (ndk N_ sf_ lo_ hi_ m0_ (j_ + i_)).1 q_ = true
  | 0 => h_
  | i_ + 1 => by
    have u_ := ndk_up h_ i_
    show (ndk N_ sf_ lo_ hi_ m0_ (j_ + i_ + 1)).1 q_ = true
    cases x_ : (ndk N_ sf_ lo_ hi_ m0_ (j_ + i_)).1 (N_ - 1 - (j_ + i_))
    · rw [ndk_n x_]
      exact u_
    · rw [ndk_y x_]
      show (((ndk N_ sf_ lo_ hi_ m0_ (j_ + i_)).1 q_ || _) || _) = true
      rw [u_, Bool.true_or, Bool.true_or]
theorem ndf_c {F_ N_ K_ : Nat} {lo_ hi_ sf_ rt_ : Nat → Int} (hg_ : glo F_ N_ lo_ hi_) (hs_ : ∀ m_, m_ < N_ → sfo F_ lo_ hi_ sf_ m_) (hr_ : ∀ i_, i_ < K_ → 0 ≤ rt_ i_ ∧ rt_ i_ < 2 * (N_ : Int)) (x_ : Nat) (a_ : F_ ≤ x_) (b_ : x_ < N_) (h_ : ndf F_ N_ K_ sf_ lo_ hi_ rt_ x_ = true) : sf_ x_ = 2 * (x_ : Int) ∧ ndf F_ N_ K_ sf_ lo_ hi_ rt_ (nsw sf_ (lo_ x_)) = true ∧ ndf F_ N_ K_ sf_ lo_ hi_ rt_ (nsw sf_ (hi_ x_)) = true := by
  have h1_ : (ndk N_ sf_ lo_ hi_ (nd0 sf_ rt_ K_) (N_ - F_)).1 x_ = true := h_
  have s_ := ndk_sf hg_ hs_ (fun q_ => nd0_sf hs_ K_ q_ hr_) (N_ - F_) x_ (Nat.le_refl _) h1_
  rw [ndk_fn hg_ (fun m_ hm_ => (hs_ m_ hm_).1) (N_ - F_ - (N_ - 1 - x_)) (N_ - 1 - x_) x_ (by omega) (by omega)] at h1_
  have e_ : N_ - 1 - (N_ - 1 - x_) = x_ := by omega
  have y_ := ndk_y (N_ := N_) (j_ := N_ - 1 - x_) (sf_ := sf_) (lo_ := lo_) (hi_ := hi_) (m0_ := nd0 sf_ rt_ K_) (by rw [e_]; exact h1_)
  rw [e_] at y_
  have p_ : ∀ q_, (q_ = nsw sf_ (lo_ x_) ∨ q_ = nsw sf_ (hi_ x_)) → ndf F_ N_ K_ sf_ lo_ hi_ rt_ q_ = true := by
    intro q_ hq_
    have z_ : (ndk N_ sf_ lo_ hi_ (nd0 sf_ rt_ K_) (N_ - 1 - x_ + 1)).1 q_ = true := by
      rw [y_]
      show (((ndk N_ sf_ lo_ hi_ (nd0 sf_ rt_ K_) (N_ - 1 - x_)).1 q_ || decide (q_ = nsw sf_ (lo_ x_))) || decide (q_ = nsw sf_ (hi_ x_))) = true
      rcases hq_ with hq_ | hq_
      · rw [decide_eq_true hq_, Bool.or_true, Bool.true_or]
      · rw [decide_eq_true hq_, Bool.or_true]
    have w_ := ndk_up z_ (N_ - F_ - (N_ - 1 - x_ + 1))
    rw [show N_ - 1 - x_ + 1 + (N_ - F_ - (N_ - 1 - x_ + 1)) = N_ - F_ by omega] at w_
    exact w_
  exact ⟨s_.2, p_ _ (Or.inl rfl), p_ _ (Or.inr rfl)⟩
/-- what is_ used is_ needed -/
theorem psm_nd {F_ N_ K_ : Nat} {lo_ hi_ sf_ rt_ : Nat → Int} (hg_ : glo F_ N_ lo_ hi_) (hs_ : ∀ m_, m_ < N_ → sfo F_ lo_ hi_ sf_ m_) (hr_ : ∀ i_, i_ < K_ → 0 ≤ rt_ i_ ∧ rt_ i_ < 2 * (N_ : Int)) (q_ : Nat) (h_ : ¬ ndf F_ N_ K_ sf_ lo_ hi_ rt_ q_ = true) : psm (pgn sf_ lo_ hi_ (ndf F_ N_ K_ sf_ lo_ hi_ rt_) q_) F_ (N_ - F_) = 0 := by
  refine psm_z _ (fun i_ hi9_ => ?_)
  unfold pgn
  by_cases z_ : ndf F_ N_ K_ sf_ lo_ hi_ rt_ (F_ + i_) = true
  · have c_ := ndf_c hg_ hs_ hr_ (F_ + i_) (by omega) (by omega) z_
    rw [if_pos z_, if_neg (fun e_ => h_ (by rw [e_]; exact c_.2.1)), if_neg (fun e_ => h_ (by rw [e_]; exact c_.2.2))]
  · rw [if_neg z_]
/-! the_ same trees with sides in another order -/
theorem trh_ag {inn_ : Nat → Bool} {cl_ ch_ dl_ dh_ : Nat → Nat} {n_ : Nat} {T_ : Nat → Prop} (h_ : trh inn_ cl_ ch_ n_ T_) (a_ : ∀ x_, T_ x_ → agr cl_ ch_ dl_ dh_ x_) : trh inn_ dl_ dh_ n_ T_ := by
  have s_ : ∀ x_ z_, T_ x_ → (z_ = dl_ x_ ∨ z_ = dh_ x_) → (z_ = cl_ x_ ∨ z_ = ch_ x_) := by
    intro x_ z_ hx_ hz_
    rcases a_ x_ hx_ with ⟨e1_, e2_⟩ | ⟨e1_, e2_⟩
    · rw [e1_, e2_]
      exact hz_
    · rw [e1_, e2_]
      exact hz_.symm
  refine ⟨h_.1, fun x_ hx_ => ?_, fun x_ y_ z_ hx_ hy_ zx_ zy_ iz_ => h_.2.2 x_ y_ z_ hx_ hy_ (s_ x_ z_ hx_ zx_) (s_ y_ z_ hy_ zy_) iz_⟩
  have p_ := h_.2.1 x_ hx_
  rcases a_ x_ hx_ with ⟨e1_, e2_⟩ | ⟨e1_, e2_⟩
  · rw [← e1_, ← e2_]
    exact p_
  · rw [← e1_, ← e2_]
    exact ⟨⟨p_.1.2.1, p_.1.1, fun u_ => p_.1.2.2 u_.symm⟩, p_.2.2, p_.2.1⟩
theorem crn_ag {inn_ : Nat → Bool} {cl_ ch_ dl_ dh_ : Nat → Nat} {n_ : Nat} {T_ : Nat → Prop} (h_ : trh inn_ cl_ ch_ n_ T_) (a_ : ∀ x_, T_ x_ → agr cl_ ch_ dl_ dh_ x_) (m_ : Nat) : crn inn_ cl_ ch_ n_ m_ = crn inn_ dl_ dh_ n_ m_ := (crn_cg (P_ := fun z_ => inn_ z_ = true → T_ z_) ⟨a_ n_ h_.1, (h_.2.1 n_ h_.1).2.1, (h_.2.1 n_ h_.1).2.2⟩ (fun _ _ => rfl) (fun x_ p_ i_ => ⟨a_ x_ (p_ i_), (h_.2.1 x_ (p_ i_)).2.1, (h_.2.1 x_ (p_ i_)).2.2⟩) m_).1
/-! the_ reference's graph -/
def mqs (d_ : Int) (R_ : sm_S) (m_ : Nat) : Int := R_.2.2.1 166 0 (2048 * d_.toNat + m_)
def mql (d_ : Int) (R_ : sm_S) (m_ : Nat) : Int := R_.2.2.1 164 0 (2048 * d_.toNat + m_)
def mqh (d_ : Int) (R_ : sm_S) (m_ : Nat) : Int := R_.2.2.1 165 0 (2048 * d_.toNat + m_)
def mqk (d_ : Int) (R_ : sm_S) : Nat := (R_.2.2.1 156 0 d_.toNat).toNat + (R_.2.2.1 155 0 d_.toNat).toNat
def mqr (d_ : Int) (R_ : sm_S) : Nat → Int := rto (R_.2.2.1 156 0 d_.toNat).toNat (fun k_ => R_.2.2.1 167 0 (16 * d_.toNat + k_)) (fun k_ => R_.2.2.1 168 0 (6 * d_.toNat + k_))
def mqn (F_ N_ d_ : Int) (R_ : sm_S) : Nat → Bool := ndf F_.toNat N_.toNat (mqk d_ R_) (mqs d_ R_) (mql d_ R_) (mqh d_ R_) (mqr d_ R_)
def mqp (F_ N_ d_ : Int) (R_ : sm_S) (q_ : Nat) : Nat := psm (pgn (mqs d_ R_) (mql d_ R_) (mqh d_ R_) (mqn F_ N_ d_ R_) q_) F_.toNat (N_.toNat - F_.toNat)
def rtn (F_ N_ : Int) (R_ : sm_S) (x_ : Nat) : Prop := F_ ≤ (x_ : Int) ∧ (x_ : Int) < N_ ∧ R_.2.2.1 202 0 x_ = 1
/-- needed nodes, roots, sides -/
def rcq0 (F_ N_ d_ : Int) (R_ : sm_S) : Prop := (∀ q_ : Nat, (q_ : Int) < N_ → (R_.2.2.1 202 0 q_ = 1 ↔ mqn F_ N_ d_ R_ q_ = true)) ∧ (∀ q_ : Nat, (q_ : Int) < N_ → R_.2.2.1 203 0 q_ = if F_ ≤ (q_ : Int) ∧ (0 < rcn (mqs d_ R_) (mqr d_ R_) (mqk d_ R_) q_ ∨ (mqn F_ N_ d_ R_ q_ = true ∧ 1 < rcn (mqs d_ R_) (mqr d_ R_) (mqk d_ R_) q_ + mqp F_ N_ d_ R_ q_)) then 1 else 0) ∧ ∀ q_ : Nat, rtn F_ N_ R_ q_ → sdv (mqs d_ R_) (mql d_ R_) (mqh d_ R_) (R_.2.2.1 199 0 q_) (R_.2.2.1 200 0 q_) q_
def rcm (F_ N_ d_ : Int) (R_ : sm_S) : Prop := rcq0 F_ N_ d_ R_ ∧ ∀ n_, rtn F_ N_ R_ n_ → trh (rnn F_ R_) (rcu R_) (rhq R_) n_ (rtn F_ N_ R_) ∧ ∀ m_, (crn (rnn F_ R_) (rcu R_) (rhq R_) n_ m_).length ≤ 47
theorem sdv_ag {F_ N_ : Nat} {lo_ hi_ sf_ : Nat → Int} {a_ b_ : Int} {n_ : Nat} (hg_ : glo F_ N_ lo_ hi_) (hs_ : ∀ m_, m_ < N_ → sfo F_ lo_ hi_ sf_ m_) (h13_ : N_ ≤ 1013) (h1_ : F_ ≤ n_) (h2_ : n_ < N_) (h_ : sdv sf_ lo_ hi_ a_ b_ n_) : (nsw sf_ (lo_ n_) = (a_ / 2).toNat ∧ nsw sf_ (hi_ n_) = (b_ / 2).toNat) ∨ (nsw sf_ (lo_ n_) = (b_ / 2).toNat ∧ nsw sf_ (hi_ n_) = (a_ / 2).toNat) := by
  have g_ := hg_ n_ h1_ h2_
  have s1_ := (hs_ (lo_ n_ / 2).toNat (by omega)).1
  have s2_ := (hs_ (hi_ n_ / 2).toNat (by omega)).1
  have x1_ : (swt sf_ (lo_ n_) / 2).toNat = nsw sf_ (lo_ n_) := nsw_x ⟨s1_.1, by omega⟩
  have x2_ : (swt sf_ (hi_ n_) / 2).toNat = nsw sf_ (hi_ n_) := nsw_x ⟨s2_.1, by omega⟩
  obtain ⟨ha_, hb_⟩ := h_
  by_cases z_ : swt sf_ (lo_ n_) < swt sf_ (hi_ n_)
  · rw [if_pos z_] at ha_ hb_
    rw [ha_, hb_]
    exact Or.inl ⟨x1_.symm, x2_.symm⟩
  · rw [if_neg z_] at ha_ hb_
    rw [ha_, hb_]
    exact Or.inr ⟨x1_.symm, x2_.symm⟩
theorem rcm_of {F_ N_ d_ : Int} {R_ : sm_S} (hd_ : dmp F_ N_ d_ R_) (hsw : swd F_.toNat N_.toNat (mql d_ R_) (mqh d_ R_) (mqs d_ R_)) (h_ : rcq0 F_ N_ d_ R_) : rcm F_ N_ d_ R_ := by
  obtain ⟨a9_, F1_, I1_, R1_, N1_, k1_, k2_, k3_, k4_, k5_, -⟩ := hd_
  have eF_ : F_.toNat = F1_ := by omega
  have eN_ : N_.toNat = N1_ := by omega
  have hg_ : glo F_.toNat N_.toNat (mql d_ R_) (mqh d_ R_) := by
    rw [eF_, eN_]
    exact k2_
  have hs_ : ∀ m_, m_ < N_.toNat → sfo F_.toNat (mql d_ R_) (mqh d_ R_) (mqs d_ R_) m_ := by
    rw [eF_, eN_]
    exact k3_.2
  have hr_ : ∀ i_, i_ < mqk d_ R_ → 0 ≤ mqr d_ R_ i_ ∧ mqr d_ R_ i_ < 2 * (N_.toNat : Int) := by
    intro i_ hi9_
    unfold mqk at hi9_
    unfold mqr rto
    rw [eN_]
    by_cases z_ : i_ < (R_.2.2.1 156 0 d_.toNat).toNat
    · rw [if_pos z_]
      exact k4_ i_ (by omega)
    · rw [if_neg z_]
      exact k5_ (i_ - (R_.2.2.1 156 0 d_.toNat).toNat) (by omega)
  have eT_ : (fun x_ => F_.toNat ≤ x_ ∧ x_ < N_.toNat ∧ mqn F_ N_ d_ R_ x_ = true) = rtn F_ N_ R_ := by
    funext x_
    refine propext ⟨fun q_ => ⟨by have := q_.1; omega, by have := q_.2.1; omega, (h_.1 x_ (by have := q_.2.1; omega)).mpr q_.2.2⟩, fun q_ => ⟨by have := q_.1; omega, by have := q_.2.1; omega, (h_.1 x_ q_.2.1).mp q_.2.2⟩⟩
  have hc_ := fun x_ a_ b_ c_ => ndf_c hg_ hs_ hr_ x_ a_ b_ c_
  have hi9_ : ∀ z_, z_ < N_.toNat → rnn F_ R_ z_ = true → F_.toNat ≤ z_ ∧ psm (pgn (mqs d_ R_) (mql d_ R_) (mqh d_ R_) (mqn F_ N_ d_ R_) z_) F_.toNat (N_.toNat - F_.toNat) ≤ 1 := by
    intro z_ a_ b_
    have e_ := of_decide_eq_true b_
    refine ⟨by omega, ?_⟩
    have u_ := h_.2.1 z_ (by omega)
    rw [e_.2] at u_
    by_cases c_ : mqn F_ N_ d_ R_ z_ = true
    · by_cases y_ : F_ ≤ (z_ : Int) ∧ (0 < rcn (mqs d_ R_) (mqr d_ R_) (mqk d_ R_) z_ ∨ (mqn F_ N_ d_ R_ z_ = true ∧ 1 < rcn (mqs d_ R_) (mqr d_ R_) (mqk d_ R_) z_ + mqp F_ N_ d_ R_ z_))
      · rw [if_pos y_] at u_
        exact absurd u_ (by decide)
      · show mqp F_ N_ d_ R_ z_ ≤ 1
        by_cases w_ : 1 < mqp F_ N_ d_ R_ z_
        · exact absurd ⟨e_.1, Or.inr ⟨c_, by omega⟩⟩ y_
        · omega
    · have p_ := psm_nd hg_ hs_ hr_ z_ c_
      show psm (pgn (mqs d_ R_) (mql d_ R_) (mqh d_ R_) (ndf F_.toNat N_.toNat (mqk d_ R_) (mqs d_ R_) (mql d_ R_) (mqh d_ R_) (mqr d_ R_)) z_) F_.toNat (N_.toNat - F_.toNat) ≤ 1
      omega
  refine ⟨h_, fun n_ tn_ => ?_⟩
  have tn'_ : F_.toNat ≤ n_ ∧ n_ < N_.toNat ∧ mqn F_ N_ d_ R_ n_ = true := by
    have q_ := tn_
    rw [← eT_] at q_
    exact q_
  have t_ := trh_of (inn_ := rnn F_ R_) (n_ := n_) (nd_ := mqn F_ N_ d_ R_) (by omega) hg_ hs_ hc_ hi9_ tn'_
  have ag_ : ∀ x_, (F_.toNat ≤ x_ ∧ x_ < N_.toNat ∧ mqn F_ N_ d_ R_ x_ = true) → agr (fun x_ => nsw (mqs d_ R_) (mql d_ R_ x_)) (fun x_ => nsw (mqs d_ R_) (mqh d_ R_ x_)) (rcu R_) (rhq R_) x_ := fun x_ hx_ => sdv_ag hg_ hs_ (by omega) hx_.1 hx_.2.1 (h_.2.2 x_ (by rw [← eT_]; exact hx_))
  have t2_ := trh_ag t_ ag_
  rw [eT_] at t2_
  refine ⟨t2_, fun m_ => ?_⟩
  rw [← crn_ag t_ ag_ m_]
  exact crn_sw (inn_ := rnn F_ R_) (n_ := n_) (nd_ := mqn F_ N_ d_ R_) (by omega) hg_ hs_ (by have := k3_.1; exact this) hc_ hsw hi9_ tn'_ m_
end
