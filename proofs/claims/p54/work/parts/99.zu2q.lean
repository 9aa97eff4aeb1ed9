/-! both sides map alike; written by wip/p55/gen/vg -/

/-! what holds of_ all_ gates -/
section GP_
variable {pn_ : Nat → Nat} {pv_ : Nat → Nat → Nat} {gc_ : Nat → Int} {b0_ : Int} {rk_ : Nat → Nat} {G_ I_ : Nat → Prop}
theorem gmk_pr {P_ : (Nat → Int) × List (Int × List Int) → Prop} (hb_ : 0 ≤ b0_) (hg_ : gdg pn_ pv_ rk_ G_ I_) (hs_ : ∀ u_ s_, G_ u_ → ¬ I_ u_ → P_ s_ → P_ (gfin pn_ pv_ gc_ b0_ u_ s_)) : ∀ f_ u_ s_, G_ u_ → (∀ x_, I_ x_ → s_.1 x_ ≠ -1) → rk_ u_ < f_ → P_ s_ → P_ (gmk pn_ pv_ gc_ b0_ f_ u_ s_) := by
  intro f_
  induction f_ with
  | zero => exact fun u_ s_ _ _ h_ => absurd h_ (Nat.not_lt_zero _)
  | succ f_ ih_ =>
    intro u_ s_ gu_ hI_ hf_ hp_
    by_cases z_ : s_.1 u_ = -1
    · have ni_ : ¬ I_ u_ := fun i_ => hI_ u_ i_ z_
      have fold : ∀ m9_, m9_ ≤ pn_ u_ → P_ (gfo (gmk pn_ pv_ gc_ b0_ f_) (pv_ u_) m9_ s_) ∧ ∀ x_, I_ x_ → (gfo (gmk pn_ pv_ gc_ b0_ f_) (pv_ u_) m9_ s_).1 x_ ≠ -1 := by
        intro m9_
        induction m9_ with
        | zero => exact fun _ => ⟨hp_, hI_⟩
        | succ m9_ ihm_ =>
          intro h9_
          have a_ := ihm_ (by omega)
          have p_ := hg_ u_ gu_ ni_ m9_ (by omega)
          have q_ := gmk_r (gc_ := gc_) hb_ hg_ f_ (pv_ u_ m9_) (gfo (gmk pn_ pv_ gc_ b0_ f_) (pv_ u_) m9_ s_) p_.1 a_.2 (by omega)
          rw [gfo_s]
          exact ⟨ih_ (pv_ u_ m9_) _ p_.1 a_.2 (by omega) a_.1, fun x_ hx_ => by rw [q_.1.1 x_ (a_.2 x_ hx_)]; exact a_.2 x_ hx_⟩
      rw [gmk_y z_]
      exact hs_ u_ _ gu_ ni_ (fold (pn_ u_) (Nat.le_refl _)).1
    · rw [gmk_n z_]
      exact hp_
theorem rtq_pr {P_ : (Nat → Int) × List (Int × List Int) → Prop} {L_ : Nat → Int} (hb_ : 0 ≤ b0_) (hg_ : gdg pn_ pv_ rk_ G_ I_) (hs_ : ∀ u_ s_, G_ u_ → ¬ I_ u_ → P_ s_ → P_ (gfin pn_ pv_ gc_ b0_ u_ s_)) {s_ : (Nat → Int) × List (Int × List Int)} (hI_ : ∀ x_, I_ x_ → s_.1 x_ ≠ -1) (hp_ : P_ s_) : ∀ m9_ : Nat, (∀ j_, j_ < m9_ → 1 < L_ j_ → G_ (3 * (L_ j_ / 2) + 2 * (L_ j_ % 2)).toNat ∧ rk_ (3 * (L_ j_ / 2) + 2 * (L_ j_ % 2)).toNat < 4000) → P_ (rtq pn_ pv_ gc_ b0_ L_ m9_ s_)
  | 0, _ => hp_
  | m9_ + 1, hG_ => by
    have a_ := rtq_pr hb_ hg_ hs_ hI_ hp_ (L_ := L_) m9_ (fun j_ hj_ => hG_ j_ (by omega))
    have b_ := (rtq_l hb_ hg_ (gc_ := gc_) (L_ := L_) m9_ m9_ s_ (Nat.le_refl _) (fun j_ hj_ => hG_ j_ (by omega)) hI_).2
    show P_ (if L_ m9_ ≤ 1 then rtq pn_ pv_ gc_ b0_ L_ m9_ s_ else gmk pn_ pv_ gc_ b0_ 4000 (3 * (L_ m9_ / 2) + 2 * (L_ m9_ % 2)).toNat (rtq pn_ pv_ gc_ b0_ L_ m9_ s_))
    by_cases z_ : L_ m9_ ≤ 1
    · rw [if_pos z_]
      exact a_
    · rw [if_neg z_]
      have g_ := hG_ m9_ (Nat.lt_succ_self m9_) (by omega)
      exact gmk_pr hb_ hg_ hs_ 4000 _ _ g_.1 b_ g_.2 a_
theorem rtq_cg {qn_ : Nat → Nat} {qv_ : Nat → Nat → Nat} {hc_ : Nat → Int} {D_ : Nat → Prop} {L_ L'_ : Nat → Int} (hg_ : gdg pn_ pv_ rk_ G_ I_) (hD_ : ∀ u_, G_ u_ → D_ u_) (hI_ : ∀ x_, I_ x_ → D_ x_) (e_ : ∀ u_, G_ u_ → ¬ I_ u_ → pn_ u_ = qn_ u_ ∧ gc_ u_ = hc_ u_ ∧ ∀ k_, k_ < pn_ u_ → pv_ u_ k_ = qv_ u_ k_) (hb_ : 0 ≤ b0_) {s_ s'_ : (Nat → Int) × List (Int × List Int)} (i0_ : ∀ x_, I_ x_ → s_.1 x_ ≠ -1) (d0_ : ∀ x_, D_ x_ → s_.1 x_ = s'_.1 x_) (l0_ : s_.2 = s'_.2) : ∀ m9_ : Nat, (∀ j_, j_ < m9_ → L_ j_ = L'_ j_ ∧ (1 < L_ j_ → G_ (3 * (L_ j_ / 2) + 2 * (L_ j_ % 2)).toNat ∧ rk_ (3 * (L_ j_ / 2) + 2 * (L_ j_ % 2)).toNat < 4000)) → (∀ x_, D_ x_ → (rtq pn_ pv_ gc_ b0_ L_ m9_ s_).1 x_ = (rtq qn_ qv_ hc_ b0_ L'_ m9_ s'_).1 x_) ∧ (rtq pn_ pv_ gc_ b0_ L_ m9_ s_).2 = (rtq qn_ qv_ hc_ b0_ L'_ m9_ s'_).2
  | 0, _ => ⟨d0_, l0_⟩
  | m9_ + 1, hG_ => by
    have a_ := rtq_cg hg_ hD_ hI_ e_ hb_ i0_ d0_ l0_ m9_ (fun j_ hj_ => hG_ j_ (by omega))
    have b_ := (rtq_l hb_ hg_ (gc_ := gc_) (L_ := L_) m9_ m9_ s_ (Nat.le_refl _) (fun j_ hj_ => (hG_ j_ (by omega)).2) i0_).2
    have g_ := hG_ m9_ (Nat.lt_succ_self m9_)
    show (∀ x_, D_ x_ → (if L_ m9_ ≤ 1 then rtq pn_ pv_ gc_ b0_ L_ m9_ s_ else gmk pn_ pv_ gc_ b0_ 4000 (3 * (L_ m9_ / 2) + 2 * (L_ m9_ % 2)).toNat (rtq pn_ pv_ gc_ b0_ L_ m9_ s_)).1 x_ = (if L'_ m9_ ≤ 1 then rtq qn_ qv_ hc_ b0_ L'_ m9_ s'_ else gmk qn_ qv_ hc_ b0_ 4000 (3 * (L'_ m9_ / 2) + 2 * (L'_ m9_ % 2)).toNat (rtq qn_ qv_ hc_ b0_ L'_ m9_ s'_)).1 x_) ∧ (if L_ m9_ ≤ 1 then rtq pn_ pv_ gc_ b0_ L_ m9_ s_ else gmk pn_ pv_ gc_ b0_ 4000 (3 * (L_ m9_ / 2) + 2 * (L_ m9_ % 2)).toNat (rtq pn_ pv_ gc_ b0_ L_ m9_ s_)).2 = (if L'_ m9_ ≤ 1 then rtq qn_ qv_ hc_ b0_ L'_ m9_ s'_ else gmk qn_ qv_ hc_ b0_ 4000 (3 * (L'_ m9_ / 2) + 2 * (L'_ m9_ % 2)).toNat (rtq qn_ qv_ hc_ b0_ L'_ m9_ s'_)).2
    rw [← g_.1]
    by_cases z_ : L_ m9_ ≤ 1
    · rw [if_pos z_, if_pos z_]
      exact a_
    · rw [if_neg z_, if_neg z_]
      have w_ := g_.2 (by omega)
      exact gmk_cg hg_ hD_ hI_ e_ hb_ 4000 _ _ _ w_.1 b_ w_.2 a_.1 a_.2
end GP_
/-! tasks without an_ inverter -/
def rgi (F_ N_ : Int) (S_ : sm_S) (u_ : Nat) : Prop := rgk F_ N_ S_ u_ ∧ (S_.1 13 0 107 = -1 → (u_ : Int) % 3 ≠ 2)
theorem no_tw {F_ N_ w_ : Int} {S_ : sm_S} (hI_ : gi S_) (hal_ : wal9 F_ N_ S_) (h_ : 2 * F_ ≤ w_ ∧ w_ < 2 * N_ ∧ S_.2.2.1 202 0 (w_ / 2).toNat = 1 ∧ S_.2.2.1 210 0 w_.toNat < 1000000000) (v8_ : S_.1 13 0 108 = 1000000000) : S_.2.2.1 211 0 w_.toNat = 0 := by
  have n9_ := hal_ (w_ / 2) (by omega) (by omega) h_.2.2.1
  have q1_ := n9_.2.2.1
  have q2_ := n9_.2.2.2
  have h4_ := h_.2.2.2
  have c0_ : ∀ j_, 0 ≤ S_.2.2.1 206 0 j_ := fun j_ => (hI_.2 206 0 j_).1
  have e2_ : 2 * (w_ / 2) = w_ ∨ 2 * (w_ / 2) + 1 = w_ := by omega
  rcases e2_ with e2_ | e2_
  · rw [e2_] at q1_
    rcases q1_ with ⟨-, -, a3_⟩ | ⟨a1_, -⟩
    · have z9_ := c0_ (w_ + 1).toNat
      omega
    · exact a1_
  · rw [e2_] at q2_
    rcases q2_ with ⟨-, -, a3_⟩ | ⟨a1_, -⟩
    · have z9_ := c0_ (2 * (w_ / 2)).toNat
      omega
    · exact a1_
theorem gdg_i {F_ N_ : Int} {S_ : sm_S} (hI_ : gi S_) (hal_ : wal9 F_ N_ S_) (hgd_ : gdr F_ N_ S_) (hF_ : 1 ≤ F_) (iv_ : S_.1 13 0 107 = -1 → S_.1 13 0 108 = 1000000000) : gdg (rpn S_) (rpv F_ S_) (rrk S_) (rgi F_ N_ S_) (cin F_) := by
  intro u_ gu_ ni_ k_ hk_
  have g0_ := gdg_r hI_ hal_ hgd_ hF_ u_ gu_.1 ni_ k_ hk_
  refine ⟨⟨g0_.1, fun n1_ => ?_⟩, g0_.2⟩
  have v8_ := iv_ n1_
  rcases gu_.1 with ⟨s_, w_, hj_, hu_⟩ | hc_
  · rcases hj_ with ⟨s1_, w1_, w2_, w3_, w4_⟩ | ⟨s0_, h1_, h2_, h3_, h4_⟩
    · exfalso
      have z_ := gu_.2 n1_
      rw [s1_] at hu_
      rw [hu_, jtk_1] at z_
      omega
    · rw [s0_] at hu_
      have W_ := wk_way hI_ hal_ hF_ ⟨h1_, h2_, h3_, h4_⟩
      by_cases t_ : S_.2.2.1 211 0 w_.toNat = 0
      · have W1_ := W_.1 t_
        have r_ := rp_3 (F_ := F_) (S_ := S_) (w_ := w_) (by omega) t_ W1_.1
        rw [← hu_] at r_
        rw [r_.1] at hk_
        rw [r_.2.1 k_]
        have i_ := W1_.2.2 (k_ : Int) (by omega) (by omega)
        have i1_ := i_.1.1
        have i4_ := i_.2
        unfold cst at i4_
        unfold ltk
        obtain ⟨y_, ey_⟩ : ∃ y_, y_ = S_.2.2.1 208 0 (3 * w_ + (k_ : Int)).toNat := ⟨_, rfl⟩
        obtain ⟨b_, eb_⟩ : ∃ b_, b_ = i_shr (S_.2.2.1 209 0 w_.toNat) (k_ : Int) % 2 := ⟨_, rfl⟩
        rw [← ey_] at i1_
        rw [← ey_, ← eb_] at i4_ ⊢
        have b2_ : b_ = 0 ∨ b_ = 1 := by omega
        have b3_ : 0 ≤ S_.2.2.1 203 0 y_.toNat := (hI_.2 203 0 _).1
        by_cases c_ : y_ < F_ ∨ S_.2.2.1 203 0 y_.toNat ≠ 0
        · rw [if_pos c_]
          rw [if_neg (by omega)] at i4_
          rcases b2_ with e_ | e_
          · rw [e_]
            omega
          · rw [e_, if_neg (by decide)] at i4_
            omega
        · rw [if_neg c_]
          rcases b2_ with e_ | e_
          · rw [e_]
            omega
          · rw [e_]
            omega
      · exact absurd (no_tw hI_ hal_ ⟨h1_, h2_, h3_, h4_⟩ v8_) t_
  · exact absurd hc_.1 ni_
/-- gates' cells: -1 only for_ want of_ an_ inverter; as_ many nets as_ the_ cell has_ inputs -/
theorem rgc_q {F_ N_ : Int} {S_ : sm_S} (hI_ : gi S_) (hal_ : wal9 F_ N_ S_) (hF_ : 1 ≤ F_) (hiv_ : S_.1 13 0 107 = -1 ∨ (0 ≤ S_.1 13 0 107 ∧ S_.2.2.1 185 0 (12 * S_.1 13 0 106 + S_.1 13 0 107).toNat = 1)) {u_ : Nat} (gu_ : rgk F_ N_ S_ u_) (ni_ : ¬ cin F_ u_) : (rgc S_ u_ = -1 ∧ S_.1 13 0 107 = -1 ∧ ((u_ : Int) % 3 = 2 ∨ S_.2.2.1 211 0 (2 * ((u_ : Int) / 3) + (u_ : Int) % 3).toNat ≠ 0)) ∨ (0 ≤ rgc S_ u_ ∧ rpn S_ u_ = (S_.2.2.1 185 0 (12 * S_.1 13 0 106 + rgc S_ u_).toNat).toNat) := by
  rcases gu_ with ⟨s_, w_, hj_, hu_⟩ | hc_
  · rcases hj_ with ⟨s1_, w1_, w2_, w3_, w4_⟩ | ⟨s0_, h1_, h2_, h3_, h4_⟩
    · rw [s1_] at hu_
      have r_ := rp_1 (F_ := F_) (S_ := S_) w1_
      rw [← hu_] at r_
      rw [r_.1, r_.2.2]
      have ju_ : (u_ : Int) = 3 * w_ + 2 := by
        rw [hu_, jtk_1]
        omega
      rcases hiv_ with e_ | e_
      · exact Or.inl ⟨e_, e_, Or.inl (by omega)⟩
      · exact Or.inr ⟨e_.1, by rw [e_.2]; rfl⟩
    · rw [s0_] at hu_
      have ju_ : (u_ : Int) = 3 * (w_ / 2) + w_ % 2 := by
        rw [hu_, jtk_0]
        omega
      have W_ := wk_way hI_ hal_ hF_ ⟨h1_, h2_, h3_, h4_⟩
      by_cases t_ : S_.2.2.1 211 0 w_.toNat = 0
      · have W1_ := W_.1 t_
        have r_ := rp_3 (F_ := F_) (S_ := S_) (w_ := w_) (by omega) t_ W1_.1
        rw [← hu_] at r_
        rw [r_.1, r_.2.2]
        exact Or.inr ⟨W1_.1, rfl⟩
      · have r_ := rp_2 (F_ := F_) (S_ := S_) (w_ := w_) (by omega) t_
        rw [← hu_] at r_
        rw [r_.1, r_.2.2]
        rcases hiv_ with e_ | e_
        · exact Or.inl ⟨e_, e_, Or.inr (by rw [show 2 * ((u_ : Int) / 3) + (u_ : Int) % 3 = w_ by omega]; exact t_)⟩
        · exact Or.inr ⟨e_.1, by rw [e_.2]; rfl⟩
  · exact absurd hc_.1 ni_
theorem rcn_cg {N_ K_ : Nat} {sf_ sf'_ rt_ rt'_ : Nat → Int} (hs_ : ∀ m9_, m9_ < N_ → sf'_ m9_ = sf_ m9_) (hr_ : ∀ k_, k_ < K_ → rt'_ k_ = rt_ k_ ∧ 0 ≤ rt_ k_ ∧ rt_ k_ < 2 * (N_ : Int)) (q_ : Nat) : ∀ k_ : Nat, k_ ≤ K_ → rcn sf'_ rt'_ k_ q_ = rcn sf_ rt_ k_ q_
  | 0, _ => rfl
  | k_ + 1, h_ => by
    have r_ := hr_ k_ (by omega)
    show rcn sf'_ rt'_ k_ q_ + (if q_ = nsw sf'_ (rt'_ k_) then 1 else 0) = rcn sf_ rt_ k_ q_ + (if q_ = nsw sf_ (rt_ k_) then 1 else 0)
    rw [rcn_cg hs_ hr_ q_ k_ (by omega), r_.1, nsw_cg hs_ r_.2]
theorem ndf_cg {F_ N_ K_ : Nat} {sf_ sf'_ lo_ lo'_ hi_ hi'_ rt_ rt'_ : Nat → Int} (hs_ : ∀ m9_, m9_ < N_ → sf'_ m9_ = sf_ m9_) (hg_ : glo F_ N_ lo_ hi_) (e_ : ∀ n_, F_ ≤ n_ → n_ < N_ → lo'_ n_ = lo_ n_ ∧ hi'_ n_ = hi_ n_) (hr_ : ∀ k_, k_ < K_ → rt'_ k_ = rt_ k_ ∧ 0 ≤ rt_ k_ ∧ rt_ k_ < 2 * (N_ : Int)) (q_ : Nat) : ndf F_ N_ K_ sf'_ lo'_ hi'_ rt'_ q_ = ndf F_ N_ K_ sf_ lo_ hi_ rt_ q_ := (ndk_cg hs_ hg_ e_ (fun q9_ => nd0_cg hs_ hr_ K_ (Nat.le_refl _) q9_) (N_ - F_) (Nat.le_refl _)).2 q_
theorem psm_gg {F_ N_ K_ : Nat} {sf_ sf'_ lo_ lo'_ hi_ hi'_ rt_ rt'_ : Nat → Int} (hs_ : ∀ m9_, m9_ < N_ → sf'_ m9_ = sf_ m9_) (hg_ : glo F_ N_ lo_ hi_) (e_ : ∀ n_, F_ ≤ n_ → n_ < N_ → lo'_ n_ = lo_ n_ ∧ hi'_ n_ = hi_ n_) (hr_ : ∀ k_, k_ < K_ → rt'_ k_ = rt_ k_ ∧ 0 ≤ rt_ k_ ∧ rt_ k_ < 2 * (N_ : Int)) (q_ : Nat) : psm (pgn sf'_ lo'_ hi'_ (ndf F_ N_ K_ sf'_ lo'_ hi'_ rt'_) q_) F_ (N_ - F_) = psm (pgn sf_ lo_ hi_ (ndf F_ N_ K_ sf_ lo_ hi_ rt_) q_) F_ (N_ - F_) := by
  refine psm_cg _ (fun i_ hi9_ => ?_)
  have g_ := hg_ (F_ + i_) (by omega) (by omega)
  have w_ := e_ (F_ + i_) (by omega) (by omega)
  unfold pgn
  rw [ndf_cg hs_ hg_ e_ hr_, w_.1, w_.2, nsw_cg hs_ (l_ := lo_ (F_ + i_)) (by omega), nsw_cg hs_ (l_ := hi_ (F_ + i_)) (by omega)]
/-! designs and libraries alike, seen from two_ states -/
def dlk (dd_ F_ : Nat) (N_ : Int) (S_ R_ : sm_S) : Prop := (S_.1 3 dd_ 4 = N_ ∧ (F_ : Int) ≤ N_ ∧ 1 ≤ F_ ∧ N_ ≤ 1013) ∧ glo F_ N_.toNat (S_.2.2.1 42 (0 + dd_)) (S_.2.2.1 43 (0 + dd_)) ∧ (∀ m9_, m9_ < N_.toNat → sfo F_ (S_.2.2.1 42 (0 + dd_)) (S_.2.2.1 43 (0 + dd_)) (S_.2.2.1 44 (0 + dd_)) m9_) ∧ (∀ n_, F_ ≤ n_ → n_ < N_.toNat → mql (dd_ : Int) R_ n_ = S_.2.2.1 42 (0 + dd_) n_ ∧ mqh (dd_ : Int) R_ n_ = S_.2.2.1 43 (0 + dd_) n_) ∧ (∀ m9_, m9_ < N_.toNat → mqs (dd_ : Int) R_ m9_ = S_.2.2.1 44 (0 + dd_) m9_) ∧ (S_.1 3 dd_ 3 + S_.1 3 dd_ 2).toNat = mqk (dd_ : Int) R_ ∧ (∀ k_, k_ < mqk (dd_ : Int) R_ → mqr (dd_ : Int) R_ k_ = rtv dd_ S_ (k_ : Int) ∧ 0 ≤ rtv dd_ S_ (k_ : Int) ∧ rtv dd_ S_ (k_ : Int) < 2 * (N_.toNat : Int))
def llk (ll_ : Nat) (S_ R_ : sm_S) : Prop := (S_.1 5 ll_ 1 = R_.2.2.1 184 0 (R_.1 13 0 106).toNat ∧ 0 ≤ S_.1 5 ll_ 1 ∧ S_.1 5 ll_ 1 ≤ 12) ∧ (∀ cell : Nat, (cell : Int) < S_.1 5 ll_ 1 → S_.2.2.1 55 (0 + ll_) cell = R_.2.2.1 185 0 (12 * R_.1 13 0 106 + (cell : Int)).toNat ∧ S_.2.2.1 56 (0 + ll_) cell = R_.2.2.1 186 0 (12 * R_.1 13 0 106 + (cell : Int)).toNat ∧ S_.2.2.1 57 (0 + ll_) cell = R_.2.2.1 187 0 (12 * R_.1 13 0 106 + (cell : Int)).toNat ∧ 0 ≤ S_.2.2.1 57 (0 + ll_) cell ∧ S_.2.2.1 57 (0 + ll_) cell ≤ 1000) ∧ S_.1 5 ll_ 2 = R_.1 13 0 107 ∧ ((S_.1 5 ll_ 2 = -1 ∧ R_.1 13 0 108 = 1000000000) ∨ (S_.1 5 ll_ 2 ≠ -1 ∧ S_.2.2.1 57 (0 + ll_) (S_.1 5 ll_ 2).toNat = R_.1 13 0 108 ∧ 0 ≤ R_.1 13 0 108 ∧ R_.1 13 0 108 ≤ 1000)) ∧ (R_.1 13 0 107 = -1 ∨ (0 ≤ R_.1 13 0 107 ∧ R_.2.2.1 185 0 (12 * R_.1 13 0 106 + R_.1 13 0 107).toNat = 1))
section ME_
variable {dd_ F_ ll_ cc_ : Nat} {N_ : Int} {S_ R_ : sm_S}
/-- the_ same nodes are_ needed -/
theorem me_t (hl_ : dlk dd_ F_ N_ S_ R_) (hb_ : bcm dd_ F_ S_) (hr_ : rcm (F_ : Int) N_ (dd_ : Int) R_) : btn dd_ F_ S_ = rtn (F_ : Int) N_ R_ := by
  obtain ⟨⟨h1_, h2_, h3_, h4_⟩, hg_, hs_, e1_, e2_, e3_, e4_⟩ := hl_
  have eN_ : (S_.1 3 dd_ 4).toNat = N_.toNat := by rw [h1_]
  funext x_
  refine propext ⟨fun q_ => ?_, fun q_ => ?_⟩
  · have b_ := (hb_.1 x_ q_.2.1).2.mp q_.2.2
    refine ⟨by have := q_.1; omega, by rw [← h1_]; exact q_.2.1, (hr_.1.1 x_ (by rw [← h1_]; exact q_.2.1)).mpr ?_⟩
    unfold bnd9 at b_
    rw [eN_, e3_] at b_
    unfold mqn
    rw [Int.toNat_natCast, ndf_cg e2_ hg_ e1_ e4_]
    exact b_
  · have b_ := (hr_.1.1 x_ q_.2.1).mp q_.2.2
    refine ⟨by have := q_.1; omega, by rw [h1_]; exact q_.2.1, (hb_.1 x_ (by rw [h1_]; exact q_.2.1)).2.mpr ?_⟩
    unfold mqn at b_
    rw [Int.toNat_natCast, ndf_cg e2_ hg_ e1_ e4_] at b_
    unfold bnd9
    rw [eN_, e3_]
    exact b_
/-- the_ same nodes are_ leaves -/
theorem me_n (hl_ : dlk dd_ F_ N_ S_ R_) (hb_ : bcm dd_ F_ S_) (hr_ : rcm (F_ : Int) N_ (dd_ : Int) R_) (x_ : Nat) (hx_ : (x_ : Int) < N_) : cnn F_ S_ x_ = rnn (F_ : Int) R_ x_ ∧ (F_ ≤ x_ → S_.2.2.1 60 0 x_ = R_.2.2.1 203 0 x_) := by
  obtain ⟨⟨h1_, h2_, h3_, h4_⟩, hg_, hs_, e1_, e2_, e3_, e4_⟩ := hl_
  have eN_ : (S_.1 3 dd_ 4).toNat = N_.toNat := by rw [h1_]
  have key_ : F_ ≤ x_ → S_.2.2.1 60 0 x_ = R_.2.2.1 203 0 x_ := by
    intro f_
    have a_ := hb_.2.1 x_ (by rw [h1_]; exact hx_)
    have b_ := hr_.1.2.1 x_ hx_
    rw [a_, b_]
    have u_ : bus dd_ F_ S_ x_ = 2 * rcn (mqs (dd_ : Int) R_) (mqr (dd_ : Int) R_) (mqk (dd_ : Int) R_) x_ + mqp (F_ : Int) N_ (dd_ : Int) R_ x_ := by
      unfold bus usn mqp mqn
      rw [eN_, e3_, Int.toNat_natCast, rcn_cg e2_ e4_ x_ _ (Nat.le_refl _), psm_gg e2_ hg_ e1_ e4_]
    have nd_ : ¬ mqn (F_ : Int) N_ (dd_ : Int) R_ x_ = true → mqp (F_ : Int) N_ (dd_ : Int) R_ x_ = 0 := by
      intro c_
      unfold mqp mqn
      unfold mqn at c_
      rw [Int.toNat_natCast] at c_ ⊢
      rw [ndf_cg e2_ hg_ e1_ e4_] at c_
      rw [psm_gg e2_ hg_ e1_ e4_]
      exact psm_nd hg_ hs_ (fun i_ hi9_ => (e4_ i_ hi9_).2) x_ c_
    rw [u_]
    by_cases c_ : mqn (F_ : Int) N_ (dd_ : Int) R_ x_ = true
    · by_cases y_ : 1 < 2 * rcn (mqs (dd_ : Int) R_) (mqr (dd_ : Int) R_) (mqk (dd_ : Int) R_) x_ + mqp (F_ : Int) N_ (dd_ : Int) R_ x_
      · rw [if_pos y_, if_pos ⟨by omega, by
          by_cases z_ : 0 < rcn (mqs (dd_ : Int) R_) (mqr (dd_ : Int) R_) (mqk (dd_ : Int) R_) x_
          · exact Or.inl z_
          · exact Or.inr ⟨c_, by omega⟩⟩]
      · rw [if_neg y_, if_neg (by
          rintro ⟨-, q_ | q_⟩
          · omega
          · have := q_.2
            omega)]
    · have z_ := nd_ c_
      by_cases y_ : 1 < 2 * rcn (mqs (dd_ : Int) R_) (mqr (dd_ : Int) R_) (mqk (dd_ : Int) R_) x_ + mqp (F_ : Int) N_ (dd_ : Int) R_ x_
      · rw [if_pos y_, if_pos ⟨by omega, Or.inl (by omega)⟩]
      · rw [if_neg y_, if_neg (by
          rintro ⟨-, q_ | q_⟩
          · omega
          · exact c_ q_.1)]
  refine ⟨?_, key_⟩
  unfold cnn rnn
  by_cases f_ : F_ ≤ x_
  · rw [key_ f_]
    refine decide_eq_decide.mpr ⟨fun q_ => ⟨by omega, q_.2⟩, fun q_ => ⟨f_, q_.2⟩⟩
  · rw [decide_eq_false (fun q_ => f_ q_.1), decide_eq_false (fun q_ => f_ (by have := q_.1; omega))]
/-- the_ same sides -/
theorem me_s (hl_ : dlk dd_ F_ N_ S_ R_) (hb_ : bcm dd_ F_ S_) (hr_ : rcm (F_ : Int) N_ (dd_ : Int) R_) (x_ : Nat) (hx_ : btn dd_ F_ S_ x_) : ((ccl dd_ S_ x_ = rcu R_ x_ ∧ cch dd_ S_ x_ = rhq R_ x_ ∧ ctl dd_ S_ x_ = rtl R_ x_ ∧ ctu dd_ S_ x_ = rtu R_ x_) ∨ (ccl dd_ S_ x_ = rhq R_ x_ ∧ cch dd_ S_ x_ = rcu R_ x_ ∧ ctl dd_ S_ x_ = rtu R_ x_ ∧ ctu dd_ S_ x_ = rtl R_ x_)) ∧ ccl dd_ S_ x_ < x_ ∧ cch dd_ S_ x_ < x_ := by
  have t_ := me_t hl_ hb_ hr_
  have tx_ : rtn (F_ : Int) N_ R_ x_ := by rw [← t_]; exact hx_
  have s_ := hr_.1.2.2 x_ tx_
  obtain ⟨⟨h1_, h2_, h3_, h4_⟩, hg_, hs_, e1_, e2_, e3_, e4_⟩ := hl_
  have xb_ : F_ ≤ x_ ∧ x_ < N_.toNat := by
    have a_ := tx_.1
    have b_ := tx_.2.1
    omega
  have g_ := hg_ x_ xb_.1 xb_.2
  have w_ := e1_ x_ xb_.1 xb_.2
  have s1_ := (hs_ (S_.2.2.1 42 (0 + dd_) x_ / 2).toNat (by omega)).1
  have s2_ := (hs_ (S_.2.2.1 43 (0 + dd_) x_ / 2).toNat (by omega)).1
  have z1_ : swt (mqs (dd_ : Int) R_) (mql (dd_ : Int) R_ x_) = slt dd_ S_ (S_.2.2.1 42 (0 + dd_) x_) := by
    unfold swt slt
    rw [w_.1, e2_ _ (by omega)]
  have z2_ : swt (mqs (dd_ : Int) R_) (mqh (dd_ : Int) R_ x_) = slt dd_ S_ (S_.2.2.1 43 (0 + dd_) x_) := by
    unfold swt slt
    rw [w_.2, e2_ _ (by omega)]
  have n1_ : (slt dd_ S_ (S_.2.2.1 42 (0 + dd_) x_) / 2).toNat = ccl dd_ S_ x_ := nsw_x (sf_ := S_.2.2.1 44 (0 + dd_)) ⟨s1_.1, by omega⟩
  have n2_ : (slt dd_ S_ (S_.2.2.1 43 (0 + dd_) x_) / 2).toNat = cch dd_ S_ x_ := nsw_x (sf_ := S_.2.2.1 44 (0 + dd_)) ⟨s2_.1, by omega⟩
  have l1_ : ccl dd_ S_ x_ < x_ := by
    show (S_.2.2.1 44 (0 + dd_) (S_.2.2.1 42 (0 + dd_) x_ / 2).toNat / 2).toNat < x_
    omega
  have l2_ : cch dd_ S_ x_ < x_ := by
    show (S_.2.2.1 44 (0 + dd_) (S_.2.2.1 43 (0 + dd_) x_ / 2).toNat / 2).toNat < x_
    omega
  refine ⟨?_, l1_, l2_⟩
  unfold sdv at s_
  rw [z1_, z2_] at s_
  by_cases c_ : slt dd_ S_ (S_.2.2.1 42 (0 + dd_) x_) < slt dd_ S_ (S_.2.2.1 43 (0 + dd_) x_)
  · rw [if_pos c_, if_pos c_] at s_
    left
    unfold rcu rhq rtl rtu ctl ctu
    rw [s_.1, s_.2]
    exact ⟨n1_.symm, n2_.symm, rfl, rfl⟩
  · rw [if_neg c_, if_neg c_] at s_
    right
    unfold rcu rhq rtl rtu ctl ctu
    rw [s_.1, s_.2]
    exact ⟨n1_.symm, n2_.symm, rfl, rfl⟩
/-- all_ ways are_ alike, as_ far_ as_ the_ class has_ found them -/
theorem me_w (hl_ : dlk dd_ F_ N_ S_ R_) (hq_ : llk ll_ S_ R_) (hb_ : bcm dd_ F_ S_) (hv_ : bvw ll_ S_) (hr_ : rcm (F_ : Int) N_ (dd_ : Int) R_) (ha_ : rall (F_ : Int) N_ R_) (k_ : Nat) (hc_ : ∀ x_, btn dd_ F_ S_ x_ → x_ < k_ → cnw dd_ F_ ll_ (btn dd_ F_ S_) S_ x_) (x_ : Nat) (hx_ : btn dd_ F_ S_ x_) (hk_ : x_ < k_) (t_ : Nat) (ht_ : t_ < 2) : wye ll_ S_ R_ (2 * x_ + t_) := by
  have T_ := me_t hl_ hb_ hr_
  have ln_ : ∀ y_, btn dd_ F_ S_ y_ → (y_ : Int) < N_ := fun y_ hy_ => by
    have := hy_.2.1
    have := hl_.1.1
    omega
  have ha'_ : ∀ y_, btn dd_ F_ S_ y_ → rnw (F_ : Int) (btn dd_ F_ S_) R_ y_ := by
    rw [T_]
    exact ha_
  exact (nod_all (N_ := N_.toNat) (fun y_ hy_ => by have := ln_ y_ hy_; omega) (by have := hl_.1.2.2.2; omega) (fun n_ hn_ => (hb_.2.2 n_ hn_).1) (fun y_ hy_ => (me_s hl_ hb_ hr_ y_ hy_).1) (fun y_ hy_ => by
      have s_ := me_s hl_ hb_ hr_ y_ hy_
      have n9_ := ln_ y_ hy_
      exact ⟨(me_n hl_ hb_ hr_ _ (by omega)).1, (me_n hl_ hb_ hr_ _ (by omega)).1⟩) hq_.1.1 hq_.1.2.2 hq_.2.1 hq_.2.2.2.1 hv_ ha'_ k_ hc_ x_ hx_ hk_ t_ ht_).2
/-- what a_ task wants is_ the_ same -/
theorem me_g (hl_ : dlk dd_ F_ N_ S_ R_) (hq_ : llk ll_ S_ R_) (hb_ : bcm dd_ F_ S_) (hr_ : rcm (F_ : Int) N_ (dd_ : Int) R_) (hw_ : ∀ x_, btn dd_ F_ S_ x_ → ∀ t_, t_ < 2 → wye ll_ S_ R_ (2 * x_ + t_)) (hI_ : gi R_) (hal_ : wal9 (F_ : Int) N_ R_) {u_ : Nat} (gu_ : rgk (F_ : Int) N_ R_ u_) (ni_ : ¬ cin (F_ : Int) u_) : rpn R_ u_ = cpn ll_ S_ u_ ∧ rgc R_ u_ = cgc ll_ S_ u_ ∧ ∀ k_, k_ < rpn R_ u_ → rpv (F_ : Int) R_ u_ k_ = cpv (F_ : Int) S_ u_ k_ := by
  have T_ := me_t hl_ hb_ hr_
  have hF_ : (1 : Int) ≤ (F_ : Int) := by
    have := hl_.1.2.2.1
    omega
  have lv_ := hq_.2.2.1
  rcases gu_ with ⟨s_, w_, hj_, hu_⟩ | hc_
  · rcases hj_ with ⟨s1_, w1_, w2_, w3_, w4_⟩ | ⟨s0_, h1_, h2_, h3_, h4_⟩
    · rw [s1_] at hu_
      have r_ := rp_1 (F_ := (F_ : Int)) (S_ := R_) w1_
      rw [← hu_] at r_
      have ju_ : (u_ : Int) = 3 * w_ + 2 := by
        rw [hu_, jtk_1]
        omega
      have m9_ : (u_ : Int) % 3 = 2 := by omega
      refine ⟨?_, ?_, fun k_ hk_ => ?_⟩
      · rw [r_.1]
        unfold cpn pno
        rw [if_pos m9_]
        rfl
      · rw [r_.2.2]
        unfold cgc
        rw [if_pos m9_, lv_]
      · rw [r_.2.1 k_]
        unfold cpv ptv
        rw [if_pos m9_, show (u_ : Int) / 3 = w_ by omega]
    · rw [s0_] at hu_
      have ju_ : (u_ : Int) = 3 * (w_ / 2) + w_ % 2 := by
        rw [hu_, jtk_0]
        omega
      have m9_ : ¬ (u_ : Int) % 3 = 2 := by omega
      have ew : 2 * ((u_ : Int) / 3) + (u_ : Int) % 3 = w_ := by omega
      have tx_ : btn dd_ F_ S_ (w_ / 2).toNat := by
        rw [T_]
        exact ⟨by omega, by omega, h3_⟩
      have y_ := hw_ (w_ / 2).toNat tx_ (w_ % 2).toNat (by omega)
      have el_ : 2 * (w_ / 2).toNat + (w_ % 2).toNat = w_.toNat := by omega
      rw [el_] at y_
      rcases y_ with y_ | ⟨-, -, y_⟩
      · exfalso
        have := y_.2.2
        omega
      · rcases y_ with ⟨y1_, y2_⟩ | ⟨y1_, ⟨y2_, y3_⟩, y4_, y5_, y6_⟩
        · have r_ := rp_2 (F_ := (F_ : Int)) (S_ := R_) (w_ := w_) (by omega) (by omega)
          rw [← hu_] at r_
          have ng_ : S_.2.2.1 62 0 w_.toNat < 0 := by omega
          refine ⟨?_, ?_, fun k_ hk_ => ?_⟩
          · rw [r_.1]
            unfold cpn pno
            rw [if_neg m9_, ew, if_pos ng_]
            rfl
          · rw [r_.2.2]
            unfold cgc
            rw [if_neg m9_, ew, if_pos ng_, lv_]
          · rw [r_.2.1 k_, jtk_0]
            unfold cpv ptv
            rw [if_neg m9_, ew, if_pos ng_]
            omega
        · have r_ := rp_3 (F_ := (F_ : Int)) (S_ := R_) (w_ := w_) (by omega) y1_ (by omega)
          rw [← hu_] at r_
          have ng_ : ¬ S_.2.2.1 62 0 w_.toNat < 0 := by omega
          have ce_ := (hq_.2.1 (S_.2.2.1 62 0 w_.toNat).toNat (by omega)).1
          have en_ : cpn ll_ S_ u_ = (R_.2.2.1 185 0 (12 * R_.1 13 0 106 + R_.2.2.1 207 0 w_.toNat).toNat).toNat := by
            unfold cpn pno
            rw [if_neg m9_, ew, if_neg ng_, ce_, ← y4_, show (((S_.2.2.1 62 0 w_.toNat).toNat : Nat) : Int) = S_.2.2.1 62 0 w_.toNat by omega]
          refine ⟨by rw [r_.1, en_], ?_, fun k_ hk_ => ?_⟩
          · rw [r_.2.2]
            unfold cgc
            rw [if_neg m9_, ew, if_neg ng_, y4_]
          · rw [r_.1, ← y4_] at hk_
            have y7_ := y6_ k_ (by rw [ce_, show (((S_.2.2.1 62 0 w_.toNat).toNat : Nat) : Int) = S_.2.2.1 62 0 w_.toNat by omega]; omega)
            have i9_ := (wk_way hI_ hal_ hF_ ⟨h1_, h2_, h3_, h4_⟩).1 y1_
            have i8_ := i9_.2.2 (k_ : Int) (by omega) (by rw [← y4_]; omega)
            have i7_ := i8_.1
            rw [r_.2.1 k_]
            unfold cpv ptv ptn ltk
            rw [if_neg m9_, ew, if_neg ng_, show 6 * ((u_ : Int) / 3) + 3 * ((u_ : Int) % 3) + (k_ : Int) = 3 * w_ + (k_ : Int) by omega, show (3 * w_ + (k_ : Int)).toNat = 3 * w_.toNat + k_ by omega, y7_, y5_]
            rw [show (3 * w_ + (k_ : Int)).toNat = 3 * w_.toNat + k_ by omega] at i7_
            have b1_ := i7_.1
            have b2_ := i7_.2.1
            by_cases c_ : R_.2.2.1 208 0 (3 * w_.toNat + k_) < (F_ : Int)
            · rw [if_pos (Or.inl c_), if_pos (Or.inl c_)]
            · have q_ := (me_n hl_ hb_ hr_ (R_.2.2.1 208 0 (3 * w_.toNat + k_)).toNat (by omega)).2 (by omega)
              rw [q_]
  · exact absurd hc_.1 ni_
end ME_

