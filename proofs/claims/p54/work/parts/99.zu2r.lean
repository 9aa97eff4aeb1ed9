/-! both sides map alike: the chips; written by wip/p55/gen/vg -/

/-! chips alike: of_ the_ class in S_, of_ the_ reference in R_ -/
def chk (c_ : Nat) (S_ R_ : sm_S) : Prop := (S_.1 2 c_ 1 = R_.2.2.1 223 0 c_ ∧ S_.1 2 c_ 2 = R_.2.2.1 224 0 c_ ∧ S_.1 2 c_ 3 = R_.2.2.1 225 0 c_ ∧ S_.1 2 c_ 4 = R_.2.2.1 226 0 c_ ∧ S_.1 2 c_ 8 = R_.2.2.1 228 0 c_) ∧ (S_.1 5 (3 + c_) 1 = R_.2.2.1 233 0 c_ ∧ S_.1 5 (3 + c_) 1 ≤ 12 ∧ ∀ k_ : Nat, (k_ : Int) < S_.1 5 (3 + c_) 1 → S_.2.2.1 55 (0 + (3 + c_)) k_ = R_.2.2.1 234 0 (12 * c_ + k_) ∧ S_.2.2.1 56 (0 + (3 + c_)) k_ = R_.2.2.1 235 0 (12 * c_ + k_) ∧ S_.2.2.1 57 (0 + (3 + c_)) k_ = R_.2.2.1 236 0 (12 * c_ + k_) ∧ S_.2.2.1 58 (0 + (3 + c_)) k_ = R_.2.2.1 237 0 (12 * c_ + k_)) ∧ (∀ g_ : Nat, (g_ : Int) < S_.1 2 c_ 8 → (0 ≤ S_.2.2.1 35 (0 + c_) g_ ∧ S_.2.2.1 35 (0 + c_) g_ < S_.1 5 (3 + c_) 1 ∧ S_.2.2.1 35 (0 + c_) g_ = R_.2.2.1 229 0 (150 * c_ + g_)) ∧ ∀ k_ : Nat, k_ < 3 → R_.2.2.1 230 0 (450 * c_ + (3 * g_ + k_)) = if (k_ : Int) < S_.2.2.1 55 (0 + (3 + c_)) (S_.2.2.1 35 (0 + c_) g_).toNat then S_.2.2.1 36 (0 + c_) (3 * g_ + k_) else -1) ∧ (∀ k_ : Nat, (k_ : Int) < S_.1 2 c_ 3 → S_.2.2.1 37 (0 + c_) k_ = R_.2.2.1 231 0 (16 * c_ + k_)) ∧ ∀ k_ : Nat, (k_ : Int) < S_.1 2 c_ 2 → S_.2.2.1 38 (0 + c_) k_ = R_.2.2.1 232 0 (6 * c_ + k_)
/-- roots are_ marked -/
theorem me_r {F_ N_ d_ : Int} {R_ : sm_S} (hd_ : dmp F_ N_ d_ R_) (hr_ : rtd F_ d_ (R_.2.2.1 156 0 d_.toNat) (R_.2.2.1 155 0 d_.toNat) R_) {j_ : Nat} (hj_ : j_ < mqk d_ R_) : mqL d_ R_ j_ / 2 < N_ ∧ mrk F_ R_ (mqL d_ R_ j_ / 2) := by
  have d1_ := hd_.1
  unfold mqk at hj_
  by_cases c_ : (j_ : Int) < R_.2.2.1 156 0 d_.toNat
  · have l_ := (dmp_l hd_ (k_ := (j_ : Int))).1 (by omega) c_
    have m9_ := mqL_o (d_ := d_) (S_ := R_) (i_ := (j_ : Int)) (by omega) (by omega) c_ rfl l_.1
    have b_ := mqL_b hd_ l_.1 l_.2
    rw [Int.toNat_natCast] at m9_
    rw [m9_, b_.1]
    exact ⟨b_.2, hr_.1 (j_ : Int) (by omega) c_⟩
  · have o0_ : 0 ≤ R_.2.2.1 156 0 d_.toNat := by
      obtain ⟨F1_, I1_, R1_, N1_, k1_, -⟩ := hd_.2
      omega
    have o1_ : 0 ≤ R_.2.2.1 155 0 d_.toNat := by
      obtain ⟨F1_, I1_, R1_, N1_, k1_, -⟩ := hd_.2
      omega
    have l_ := (dmp_l hd_ (k_ := (j_ : Int) - R_.2.2.1 156 0 d_.toNat)).2 (by omega) (by omega)
    have m9_ := mqL_n (d_ := d_) (S_ := R_) (i_ := (j_ : Int) - R_.2.2.1 156 0 d_.toNat) (by omega) (by omega) rfl l_.1
    have b_ := mqL_b hd_ l_.1 l_.2
    rw [show (R_.2.2.1 156 0 d_.toNat).toNat + ((j_ : Int) - R_.2.2.1 156 0 d_.toNat).toNat = j_ by omega] at m9_
    rw [m9_, b_.1]
    exact ⟨b_.2, hr_.2 _ (by omega) (by omega)⟩
section ME_
variable {dd_ F_ ll_ cc_ : Nat} {N_ : Int} {S_ R_ : sm_S}
theorem me_L (hl_ : dlk dd_ F_ N_ S_ R_) {j_ : Nat} (hj_ : j_ < mqk (dd_ : Int) R_) : mqL (dd_ : Int) R_ j_ = slv dd_ S_ (j_ : Int) := by
  obtain ⟨⟨h1_, h2_, h3_, h4_⟩, hg_, hs_, e1_, e2_, e3_, e4_⟩ := hl_
  have q_ := e4_ j_ hj_
  unfold mqL slv
  rw [q_.1, e2_ _ (by omega)]
/-- cells of_ gates are_ cells of_ the_ library -/
theorem me_c (hl_ : dlk dd_ F_ N_ S_ R_) (hq_ : llk ll_ S_ R_) (hb_ : bcm dd_ F_ S_) (hr_ : rcm (F_ : Int) N_ (dd_ : Int) R_) (hw_ : ∀ x_, btn dd_ F_ S_ x_ → ∀ t_, t_ < 2 → wye ll_ S_ R_ (2 * x_ + t_)) (hv7_ : R_.1 13 0 107 < S_.1 5 ll_ 1) {u_ : Nat} (gu_ : rgk (F_ : Int) N_ R_ u_) (ni_ : ¬ cin (F_ : Int) u_) : rgc R_ u_ < S_.1 5 ll_ 1 := by
  have T_ := me_t hl_ hb_ hr_
  have hF_ : (1 : Int) ≤ (F_ : Int) := by
    have := hl_.1.2.2.1
    omega
  rcases gu_ with ⟨s_, w_, hj_, hu_⟩ | hc_
  · rcases hj_ with ⟨s1_, w1_, w2_, w3_, w4_⟩ | ⟨s0_, h1_, h2_, h3_, h4_⟩
    · rw [s1_] at hu_
      have r_ := rp_1 (F_ := (F_ : Int)) (S_ := R_) w1_
      rw [← hu_] at r_
      rw [r_.2.2]
      exact hv7_
    · rw [s0_] at hu_
      have tx_ : btn dd_ F_ S_ (w_ / 2).toNat := by
        rw [T_]
        exact ⟨by omega, by omega, h3_⟩
      have y_ := hw_ (w_ / 2).toNat tx_ (w_ % 2).toNat (by omega)
      rw [show 2 * (w_ / 2).toNat + (w_ % 2).toNat = w_.toNat by omega] at y_
      rcases y_ with y_ | ⟨-, -, y_⟩
      · exfalso
        have := y_.2.2
        omega
      · rcases y_ with ⟨y1_, y2_⟩ | ⟨y1_, ⟨y2_, y3_⟩, y4_, y5_, y6_⟩
        · have r_ := rp_2 (F_ := (F_ : Int)) (S_ := R_) (w_ := w_) (by omega) (by omega)
          rw [← hu_] at r_
          rw [r_.2.2]
          exact hv7_
        · have r_ := rp_3 (F_ := (F_ : Int)) (S_ := R_) (w_ := w_) (by omega) y1_ (by omega)
          rw [← hu_] at r_
          rw [r_.2.2, ← y4_]
          exact y3_
  · exact absurd hc_.1 ni_
/-- both sides come to_ the_ same -/
theorem map_e {S0_ R0_ : sm_S} {v_ w_ : Int} (hI_ : gi R_) (hJ_ : gi S_) (hl_ : dlk dd_ F_ N_ S_ R_) (hq_ : llk ll_ S_ R_) (h58_ : ∀ cell : Nat, (cell : Int) < S_.1 5 ll_ 1 → S_.2.2.1 58 (0 + ll_) cell = R_.2.2.1 188 0 (12 * R_.1 13 0 106 + (cell : Int)).toNat) (hv7_ : R_.1 13 0 107 < S_.1 5 ll_ 1) (hc_ : mpc dd_ F_ ll_ cc_ S0_ S_ v_) (hr_ : mpr (F_ : Int) N_ (dd_ : Int) (ll_ : Int) (cc_ : Int) R0_ R_ w_) (hd_ : S_.1 3 dd_ 1 = R_.2.2.1 154 0 dd_ ∧ S_.1 3 dd_ 2 = R_.2.2.1 155 0 dd_ ∧ S_.1 3 dd_ 3 = R_.2.2.1 156 0 dd_ ∧ S_.1 3 dd_ 5 = R_.2.2.1 157 0 dd_) : (v_ = w_ ∧ v_ < 0 ∧ S_.1 2 cc_ 0 = 0 ∧ R_.2.2.1 222 0 cc_ = 0) ∨ (v_ = (cc_ : Int) ∧ w_ = (cc_ : Int) ∧ S_.1 2 cc_ 0 = 1 ∧ R_.2.2.1 222 0 cc_ = 1 ∧ chk cc_ S_ R_ ∧ S_.1 2 cc_ 5 = R_.2.2.1 227 0 cc_) := by
  obtain ⟨⟨eF_, hb_, hv_⟩, hcd_, x_, hx_, hxv_⟩ := hc_
  obtain ⟨⟨hdm_, hrc_, hra_, hal_, hrt_⟩, ⟨l1_, l2_, l3_⟩, ⟨k1_, k2_⟩, hrr_⟩ := hr_
  have T_ := me_t hl_ hb_ hrc_
  have hF_ : (1 : Int) ≤ (F_ : Int) := by
    have := hl_.1.2.2.1
    omega
  have hN_ : N_ ≤ 1013 := hl_.1.2.2.2
  have hFN_ : (F_ : Int) ≤ N_ := hl_.1.2.1
  rw [Int.toNat_natCast] at k2_
  have wy_ : ball dd_ F_ ll_ S_ → ∀ y_, btn dd_ F_ S_ y_ → ∀ t_, t_ < 2 → wye ll_ S_ R_ (2 * y_ + t_) := fun b_ y_ hy_ t_ ht_ => me_w hl_ hq_ hb_ hv_ hrc_ hra_ N_.toNat (fun z_ hz_ _ => b_.1 z_ hz_) y_ hy_ (by
    have q_ := hy_.2.1
    have := hl_.1.1
    omega) t_ ht_
  have c203_ : ∀ y_, btn dd_ F_ S_ y_ → S_.2.2.1 60 0 y_ = R_.2.2.1 203 0 y_ := fun y_ hy_ => (me_n hl_ hb_ hrc_ y_ (by
    have q_ := hy_.2.1
    have := hl_.1.1
    omega)).2 hy_.1
  have fin1_ : v_ = -1 → w_ = -1 → S_.1 2 cc_ 0 = 0 → (v_ = w_ ∧ v_ < 0 ∧ S_.1 2 cc_ 0 = 0 ∧ R_.2.2.1 222 0 cc_ = 0) ∨ (v_ = (cc_ : Int) ∧ w_ = (cc_ : Int) ∧ S_.1 2 cc_ 0 = 1 ∧ R_.2.2.1 222 0 cc_ = 1 ∧ chk cc_ S_ R_ ∧ S_.1 2 cc_ 5 = R_.2.2.1 227 0 cc_) := fun a_ b_ c_ => Or.inl ⟨by rw [a_, b_], by omega, c_, k2_ (by omega)⟩
  have vx_ : x_ ≠ 0 → v_ = x_ ∧ S_.1 2 cc_ 0 = 0 := fun a_ => by
    rcases hxv_ with q_ | q_
    · exact q_.2
    · exact absurd q_.1 a_
  have gd_ := fun hgd_ => gdg_r hI_ hal_ hgd_ hF_
  have b0_ : (0 : Int) ≤ (F_ : Int) - 1 := by omega
  have rtk : gdr (F_ : Int) N_ R_ → ∀ j_, j_ < mqk (dd_ : Int) R_ → 1 < mqL (dd_ : Int) R_ j_ → rgk (F_ : Int) N_ R_ (3 * (mqL (dd_ : Int) R_ j_ / 2) + 2 * (mqL (dd_ : Int) R_ j_ % 2)).toNat ∧ rrk R_ (3 * (mqL (dd_ : Int) R_ j_ / 2) + 2 * (mqL (dd_ : Int) R_ j_ % 2)).toNat < 4000 := fun hgd_ j_ hj_ h1_ => by
    have q_ := me_r hdm_ hrt_ hj_
    exact ⟨rgk_r hF_ h1_ q_.1 q_.2 hgd_, rrk_b (by omega)⟩
  have mi_ : ∀ M_, rim (F_ : Int) N_ M_ → ∀ y_, cin (F_ : Int) y_ → M_ y_ ≠ -1 := fun M_ hM_ y_ hy_ => by
    have h1_ := hy_.1
    have h2_ := hy_.2.1
    have h3_ := hy_.2.2
    rw [hM_ y_ h1_ (by omega) (Or.inr (by omega)), if_pos ⟨by omega, by omega⟩]
    omega
  unfold bpc at hx_
  rcases hx_ with ⟨x1_, hx_⟩ | ⟨x1_, hba_, hev_, M'_, hM'_, hx_⟩
  · have vv_ := vx_ (by omega)
    rcases hx_ with ⟨n_, n1_, n2_, n3_, n4_⟩ | ⟨hba_, i1_, i_, i2_, i3_, i4_, i5_⟩
    · have y_ := me_w hl_ hq_ hb_ hv_ hrc_ hra_ (n_ + 1) (fun z_ hz_ hle_ => n4_ z_ hz_ (by omega)) n_ n1_ (Nat.lt_succ_self n_) 0 (by decide)
      have r3_ := c203_ n_ n1_
      have r4_ : 0 ≤ R_.2.2.1 203 0 n_ ∧ R_.2.2.1 203 0 n_ ≤ 1 := hI_.2 203 0 n_
      have tn_ : rtn (F_ : Int) N_ R_ n_ := by rw [← T_]; exact n1_
      rcases hrr_ with hrr_ | ⟨hgd_, -⟩
      · exact fin1_ (by omega) hrr_.1 vv_.2
      · exfalso
        have q_ := hgd_ (n_ : Int) tn_.1 tn_.2.1 (by rw [Int.toNat_natCast]; exact tn_.2.2) (by rw [Int.toNat_natCast]; omega)
        rw [show (2 * (n_ : Int)).toNat = 2 * n_ by omega] at q_
        rcases y_ with y_ | y_
        · have := y_.2.2
          rw [Nat.add_zero] at this
          omega
        · have := y_.1
          rw [Nat.add_zero] at this
          omega
    · rcases hrr_ with hrr_ | ⟨hgd_, ⟨M_, gs_, rm, rz, lk_, eq_, nt_⟩, hw_⟩
      · exact fin1_ (by omega) hrr_.1 vv_.2
      · rcases hw_ with hw_ | hw_
        · exact fin1_ (by omega) hw_.1 vv_.2
        · exfalso
          have l0_ : R_.1 13 0 134 = 0 := by
            rcases hw_ with q_ | q_
            · exact q_.2.1
            · exact q_.2.1
          have jk_ : i_.toNat < mqk (dd_ : Int) R_ := by
            rw [← hl_.2.2.2.2.2.1]
            omega
          have eL_ := me_L hl_ jk_
          rw [show ((i_.toNat : Nat) : Int) = i_ by omega] at eL_
          have md_ := (nt_ i_.toNat jk_).2
          rw [eL_] at md_
          have md_ := md_.resolve_left (by omega)
          have P_ := rtq_pr (P_ := fun s_ => ∀ y_, s_.1 y_ ≠ -1 → M_ y_ ≠ -1 ∨ ∃ e_, e_ ∈ s_.2 ∧ e_.1 = rgc R_ y_) (gc_ := rgc R_) b0_ (gd_ hgd_) (fun u_ s_ _ _ hp_ y_ hy_ => by
            have hy_ : (if y_ = u_ then (F_ : Int) - 1 + (s_.2.length : Int) else s_.1 y_) ≠ -1 := hy_
            by_cases c_ : y_ = u_
            · exact Or.inr ⟨_, List.mem_append_right _ (List.mem_singleton.mpr rfl), by rw [c_]⟩
            · rw [if_neg c_] at hy_
              rcases hp_ y_ hy_ with q_ | ⟨e_, q1_, q2_⟩
              · exact Or.inl q_
              · exact Or.inr ⟨e_, List.mem_append_left _ q1_, q2_⟩) (s_ := (M_, [])) (mi_ M_ rm) (fun y_ hy_ => Or.inl hy_) (mqk (dd_ : Int) R_) (rtk hgd_)
          rw [← eq_] at P_
          rcases P_ _ md_ with q_ | ⟨e_, q1_, q2_⟩
          · apply q_
            have hi2_ := me_r hdm_ hrt_ jk_
            rw [eL_] at hi2_
            rw [rm _ (by omega) (by omega) (Or.inr (by omega)), if_neg (by omega)]
          · have q3_ := lk_.mpr ⟨e_, q1_, by
              rw [q2_]
              unfold rgc
              rw [if_pos (by omega), ← hq_.2.2.1]
              exact i1_⟩
            omega
  · have W_ := wy_ hba_
    rcases hrr_ with ⟨-, n_, n1_, n2_, n3_⟩ | ⟨hgd_, ⟨M_, gs_, rm, rz, lk_, eq_, nt_⟩, hw_⟩
    · exfalso
      have bn_ : btn dd_ F_ S_ n_ := by rw [T_]; exact n1_
      have q_ := hba_.2 n_ bn_ (by rw [c203_ n_ bn_]; omega)
      have y_ := W_ n_ bn_ 0 (by decide)
      rw [Nat.add_zero] at y_
      rcases y_ with y_ | y_
      · have := y_.1
        omega
      · have := y_.2.1
        omega
    · have hgq_ := fun u_ (gu_ : rgk (F_ : Int) N_ R_ u_) (ni_ : ¬ cin (F_ : Int) u_) => me_g hl_ hq_ hb_ hrc_ W_ hI_ hal_ gu_ ni_
      have hgq2_ := fun u_ (gu_ : rgk (F_ : Int) N_ R_ u_) (ni_ : ¬ cin (F_ : Int) u_) => rgc_q hI_ hal_ hF_ hq_.2.2.2.2 gu_ ni_
      have Kq_ := hl_.2.2.2.2.2.1
      have cg := rtq_cg (D_ := fun u_ => 3 ≤ u_ ∧ ((u_ / 3 : Nat) : Int) < N_ ∧ ((F_ : Int) ≤ ((u_ / 3 : Nat) : Int) ∨ u_ % 3 ≠ 1)) (gc_ := rgc R_) (hc_ := cgc ll_ S_) (qn_ := cpn ll_ S_) (qv_ := cpv (F_ : Int) S_) (L_ := mqL (dd_ : Int) R_) (L'_ := fun j_ => slv dd_ S_ (j_ : Int)) (s_ := (M_, [])) (s'_ := (M'_, [])) (gd_ hgd_) (fun u_ gu_ => by
          rcases gu_ with ⟨s_, z_, hj_, hu_⟩ | ⟨hz_, hz2_⟩
          · rcases hj_ with ⟨s1_, w1_, w2_, w3_, w4_⟩ | ⟨s0_, h1_, h2_, h3_, h4_⟩
            · rw [hu_, s1_, jtk_1]
              exact ⟨by omega, by omega, Or.inr (by omega)⟩
            · rw [hu_, s0_, jtk_0]
              exact ⟨by omega, by omega, Or.inl (by omega)⟩
          · have h1_ := hz_.1
            have h2_ := hz_.2.1
            have h3_ := hz_.2.2
            exact ⟨h1_, by omega, Or.inr (by omega)⟩) (fun y_ hz_ => by
          have h1_ := hz_.1
          have h2_ := hz_.2.1
          have h3_ := hz_.2.2
          exact ⟨h1_, by omega, Or.inr (by omega)⟩) (fun u_ gu_ ni_ => hgq_ u_ gu_ ni_) b0_ (mi_ M_ rm) (fun y_ hy_ => by
          show M_ y_ = M'_ y_
          rw [rm y_ hy_.1 hy_.2.1 hy_.2.2, hM'_ y_ (by have := hy_.2.1; omega)]
          by_cases c_ : y_ % 3 = 0 ∧ ((y_ / 3 : Nat) : Int) < (F_ : Int)
          · rw [if_pos c_, if_pos ⟨hy_.1, c_.1, c_.2⟩]
          · rw [if_neg c_, if_neg (fun z_ => c_ ⟨z_.2.1, z_.2.2⟩)]) rfl (mqk (dd_ : Int) R_) (fun j_ hj_ => ⟨me_L hl_ hj_, rtk hgd_ j_ hj_⟩)
      rw [← eq_] at cg
      rw [Kq_] at hx_
      have PQ_ := rtq_pr (P_ := fun s_ => ∀ e_, e_ ∈ s_.2 → e_.1 = -1 ∨ (0 ≤ e_.1 ∧ e_.1 < S_.1 5 ll_ 1 ∧ e_.2.length = (R_.2.2.1 185 0 (12 * R_.1 13 0 106 + e_.1).toNat).toNat)) (gc_ := rgc R_) b0_ (gd_ hgd_) (fun u_ s_ gu_ ni_ hp_ e_ he_ => by
          rcases List.mem_append.mp he_ with q_ | q_
          · exact hp_ e_ q_
          · rw [List.mem_singleton.mp q_]
            rcases hgq2_ u_ gu_ ni_ with z_ | z_
            · exact Or.inl z_.1
            · exact Or.inr ⟨z_.1, me_c hl_ hq_ hb_ hrc_ W_ hv7_ gu_ ni_, by
                show (nts _ (rpn R_ u_)).length = _
                rw [nts_l]
                exact z_.2⟩) (s_ := (M_, [])) (mi_ M_ rm) (fun e_ he_ => absurd he_ List.not_mem_nil) (mqk (dd_ : Int) R_) (rtk hgd_)
      rw [← eq_] at PQ_
      have NL_ : ∀ e_, e_ ∈ gs_ → e_.1 ≠ -1 := by
        by_cases c_ : R_.1 13 0 107 = -1
        · have iv_ : R_.1 13 0 107 = -1 → R_.1 13 0 108 = 1000000000 := fun _ => by
            rw [l3_, if_pos c_]
          have ev := hev_.resolve_left (fun z_ => z_ (by rw [hq_.2.2.1]; exact c_))
          have P_ := rtq_pr (P_ := fun s_ => ∀ e_, e_ ∈ s_.2 → e_.1 ≠ -1) (gc_ := rgc R_) b0_ (gdg_i hI_ hal_ hgd_ hF_ iv_) (fun u_ s_ gu_ ni_ hp_ e_ he_ => by
            rcases List.mem_append.mp he_ with q_ | q_
            · exact hp_ e_ q_
            · rw [List.mem_singleton.mp q_]
              show rgc R_ u_ ≠ -1
              rcases hgq2_ u_ gu_.1 ni_ with z_ | z_
              · exfalso
                rcases z_.2.2 with y_ | y_
                · exact gu_.2 c_ y_
                · rcases gu_.1 with ⟨s1_, z1_, hj_, hu_⟩ | hz_
                  · rcases hj_ with ⟨a1_, w1_, w2_, w3_, w4_⟩ | ⟨a0_, h1_, h2_, h3_, h4_⟩
                    · have z9_ := gu_.2 c_
                      rw [hu_, a1_, jtk_1] at z9_
                      omega
                    · have z9_ := no_tw hI_ hal_ ⟨h1_, h2_, h3_, h4_⟩ (iv_ c_)
                      apply y_
                      rw [hu_, a0_, jtk_0]
                      rw [show 2 * ((((3 * (z1_ / 2) + z1_ % 2).toNat : Nat) : Int) / 3) + (((3 * (z1_ / 2) + z1_ % 2).toNat : Nat) : Int) % 3 = z1_ by omega]
                      exact z9_
                  · exact ni_ hz_.1
              · have := z_.1
                omega) (s_ := (M_, [])) (mi_ M_ rm) (fun e_ he_ => absurd he_ List.not_mem_nil) (mqk (dd_ : Int) R_) (fun j_ hj_ h1_ => by
              have q_ := rtk hgd_ j_ hj_ h1_
              refine ⟨⟨q_.1, fun _ => ?_⟩, q_.2⟩
              have e9_ := ev (j_ : Int) (by omega) (by omega)
              rw [← me_L hl_ hj_] at e9_
              have := e9_.resolve_left (by omega)
              omega)
          rw [← eq_] at P_
          exact P_
        · intro e_ he_ z_
          have P_ := rtq_pr (P_ := fun s_ => ∀ e_, e_ ∈ s_.2 → e_.1 ≠ -1) (gc_ := rgc R_) b0_ (gd_ hgd_) (fun u_ s_ gu_ ni_ hp_ e_ he_ => by
            rcases List.mem_append.mp he_ with q_ | q_
            · exact hp_ e_ q_
            · rw [List.mem_singleton.mp q_]
              show rgc R_ u_ ≠ -1
              rcases hgq2_ u_ gu_ ni_ with z_ | z_
              · exact absurd z_.2.1 c_
              · have := z_.1
                omega) (s_ := (M_, [])) (mi_ M_ rm) (fun e_ he_ => absurd he_ List.not_mem_nil) (mqk (dd_ : Int) R_) (rtk hgd_)
          rw [← eq_] at P_
          exact P_ e_ he_ z_
      have n134_ : R_.1 13 0 134 ≠ 1 := fun z_ => by
        obtain ⟨e_, e1_, e2_⟩ := lk_.mp z_
        exact NL_ e_ e1_ e2_
      have hw_ := hw_.resolve_left (fun z_ => n134_ z_.2)
      have r129_ := rz.1
      have g2_ : gs_ = (rtq (cpn ll_ S_) (cpv (F_ : Int) S_) (cgc ll_ S_) ((F_ : Int) - 1) (fun j_ => slv dd_ S_ (j_ : Int)) (mqk (dd_ : Int) R_) (M'_, [])).2 := cg.2
      rcases hx_ with ⟨y1_, y2_⟩ | ⟨y1_, g9_, y2_, y3_, y4_⟩
      · have vv_ := vx_ (by omega)
        rw [← g2_] at y2_
        rcases hw_ with hw_ | hw_
        · exact Or.inl ⟨by omega, by omega, vv_.2, k2_ (by omega)⟩
        · exfalso
          have := hw_.2.2.1
          omega
      · have eg_ : g9_ = gs_ := by
          rw [g2_, ← y3_]
        have c8_ : S_.1 2 cc_ 8 ≤ 150 := (hJ_.1 2 cc_ 8 rfl).2
        have y8_ := y2_.1
        rw [eg_] at y8_ y2_
        rcases hw_ with hw_ | ⟨w1_, w2_, w3_, kc_⟩
        · exfalso
          have := hw_.2.2
          omega
        · obtain ⟨q0_, q1_, q2_, q3_, q4_⟩ := hxv_.resolve_left (fun z_ => z_.1 y1_)
          obtain ⟨c1_, ⟨c2_, c3_, c4_, c5_, c6_, c7_⟩, c9_, d1_, d2_, d3_, -, -, -⟩ := kc_
          rw [Int.toNat_natCast] at c1_ c2_ c3_ c4_ c5_ c6_ c7_ d2_
          rw [Int.toNat_natCast] at c2_ c3_ c4_ c5_ c6_
          have t106_ : R_.1 13 0 106 = (ll_ : Int) := l1_
          refine Or.inr ⟨q1_, w1_, q2_, c1_, ⟨⟨by rw [q4_.1, c2_]; exact hd_.1, by rw [q4_.2.1, c3_]; exact hd_.2.1, by rw [q4_.2.2.1, c4_]; exact hd_.2.2.1, by rw [q4_.2.2.2.1, c5_]; exact hd_.2.2.2, by rw [c7_, r129_]; exact y8_⟩, ⟨?_, ?_, ?_⟩, ?_, ?_, ?_⟩, by rw [q4_.2.2.2.2, c6_]; exact hd_.2.2.2⟩
          · rw [q3_.1, d2_]
            exact hq_.1.1
          · rw [q3_.1]
            exact hq_.1.2.2
          · intro k_ hk_
            rw [q3_.1] at hk_
            have n12_ := hq_.1.2.2
            have z_ := q3_.2.2 k_ (by omega)
            have y_ := hq_.2.1 k_ hk_
            have u_ := d3_ (k_ : Int) (by omega) (by omega)
            rw [show (12 * (cc_ : Int) + (k_ : Int)).toNat = 12 * cc_ + k_ by omega] at u_
            rw [z_.1, z_.2.1, z_.2.2.1, z_.2.2.2, u_.1, u_.2.1, u_.2.2.1, u_.2.2.2]
            exact ⟨y_.1, y_.2.1, y_.2.2.1, h58_ k_ hk_⟩
          · intro g_ hg_
            have gl_ : g_ < gs_.length := by omega
            have n12_ := hq_.1.2.2
            have ge_ : gs_[g_]? = some (gs_[g_].1, gs_[g_].2) := List.getElem?_eq_getElem gl_
            have a_ := y2_.2 g_ _ _ ge_
            have b_ := rz.2 g_ _ _ ge_
            have p_ := (PQ_ gs_[g_] (List.getElem_mem gl_)).resolve_left (NL_ gs_[g_] (List.getElem_mem gl_))
            have u_ := c9_ (g_ : Int) (by omega) (by omega)
            rw [show (150 * (cc_ : Int) + (g_ : Int)).toNat = 150 * cc_ + g_ by omega, Int.toNat_natCast, b_.1] at u_
            refine ⟨⟨by rw [a_.1]; exact p_.1, by rw [a_.1, q3_.1]; exact p_.2.1, by rw [a_.1, u_]⟩, fun k_ hk_ => ?_⟩
            have u2_ := d1_ (3 * (g_ : Int) + (k_ : Int)) (by omega) (by omega)
            rw [show (450 * (cc_ : Int) + (3 * (g_ : Int) + (k_ : Int))).toNat = 450 * cc_ + (3 * g_ + k_) by omega, show (3 * (g_ : Int) + (k_ : Int)).toNat = 3 * g_ + k_ by omega] at u2_
            have ci_ := (q3_.2.2 gs_[g_].1.toNat (by omega)).1
            have cj_ := (hq_.2.1 gs_[g_].1.toNat (by omega)).1
            rw [show ((gs_[g_].1.toNat : Nat) : Int) = gs_[g_].1 by omega] at cj_
            have ln_ := p_.2.2
            have i0_ : 0 ≤ R_.2.2.1 185 0 (12 * R_.1 13 0 106 + gs_[g_].1).toNat := (hI_.2 185 0 _).1
            rw [u2_, a_.1, ci_, cj_]
            by_cases c_ : k_ < gs_[g_].2.length
            · rw [if_pos (by omega)]
              have x1_ : gs_[g_].2[k_]? = some gs_[g_].2[k_] := List.getElem?_eq_getElem c_
              rw [b_.2.2.1 k_ _ x1_, a_.2.2 k_ _ x1_]
            · rw [if_neg (by omega)]
              exact b_.2.2.2 k_ (by omega) hk_
          · intro k_ hk_
            have kK_ : k_ < mqk (dd_ : Int) R_ := by
              rw [← Kq_]
              have := q4_.2.2.1
              have p2_ : 0 ≤ S_.1 3 dd_ 2 := (hJ_.1 3 dd_ 2 rfl).1
              omega
            have a_ := y4_ k_ kK_
            have b_ := nt_ k_ kK_
            have k3_ := q4_.2.2.1
            rw [if_pos (by omega)] at a_
            have b1_ := b_.1
            unfold ntc at b1_
            rw [Int.toNat_natCast, if_pos (by rw [← hd_.2.2.1]; omega), show (16 * (cc_ : Int) + (k_ : Int)).toNat = 16 * cc_ + k_ by omega] at b1_
            rw [a_, b1_]
            unfold ntq
            rw [me_L hl_ kK_]
            by_cases z_ : slv dd_ S_ (k_ : Int) ≤ 1
            · rw [if_pos z_, if_pos z_]
            · rw [if_neg z_, if_neg z_]
              have u_ := rtk hgd_ k_ kK_ (by rw [me_L hl_ kK_]; omega)
              have m9_ := me_r hdm_ hrt_ kK_
              rw [me_L hl_ kK_] at m9_
              have q_ := cg.1 (3 * (slv dd_ S_ (k_ : Int) / 2) + 2 * (slv dd_ S_ (k_ : Int) % 2)).toNat ⟨by omega, by omega, Or.inr (by omega)⟩
              rw [← y3_] at q_
              exact q_.symm
          · intro k_ hk_
            have k2'_ := q4_.2.1
            have k3_ := q4_.2.2.1
            have p3_ : 0 ≤ S_.1 3 dd_ 3 := (hJ_.1 3 dd_ 3 rfl).1
            have kK_ : (S_.1 3 dd_ 3).toNat + k_ < mqk (dd_ : Int) R_ := by
              rw [← Kq_]
              omega
            have a_ := y4_ _ kK_
            have b_ := nt_ _ kK_
            rw [if_neg (by omega), show (S_.1 3 dd_ 3).toNat + k_ - (S_.1 3 dd_ 3).toNat = k_ by omega] at a_
            have b1_ := b_.1
            unfold ntc at b1_
            rw [Int.toNat_natCast, if_neg (by rw [← hd_.2.2.1]; omega), ← hd_.2.2.1, show (6 * (cc_ : Int) + ((((S_.1 3 dd_ 3).toNat + k_ : Nat) : Int) - S_.1 3 dd_ 3)).toNat = 6 * cc_ + k_ by omega] at b1_
            rw [a_, b1_]
            unfold ntq
            rw [me_L hl_ kK_]
            by_cases z_ : slv dd_ S_ (((S_.1 3 dd_ 3).toNat + k_ : Nat) : Int) ≤ 1
            · rw [if_pos z_, if_pos z_]
            · rw [if_neg z_, if_neg z_]
              have m9_ := me_r hdm_ hrt_ kK_
              rw [me_L hl_ kK_] at m9_
              have q_ := cg.1 (3 * (slv dd_ S_ (((S_.1 3 dd_ 3).toNat + k_ : Nat) : Int) / 2) + 2 * (slv dd_ S_ (((S_.1 3 dd_ 3).toNat + k_ : Nat) : Int) % 2)).toNat ⟨by omega, by omega, Or.inr (by omega)⟩
              rw [← y3_] at q_
              exact q_.symm
end ME_

