/-! the class reader: names; written by wip/p55/gen/vg -/
/-! Text.packedName -/
def vw_189 : sx_Wl := ([], [], [])
def vq_189 (b_ : Nat → Int) (n_ : Nat) (p_ : Nat) (S0_ : sm_S) (u_ : Option sm_V) (S1_ : sm_S) : Prop := S0_ = S1_ ∧ ∃ v_ : Int, u_ = some (.inl v_) ∧ (v_ = (16 * p_ + lx_sz b_ n_ p_ : Nat))
theorem vc_189 {sc_ : Nat × (Nat → Int)} (b_ : Nat → Int) (n_ : Nat) (p_ : Nat) (S0_ : sm_S) (hI_ : gi S0_) (hc_ : ct b_ n_ p_ S0_) (hk_ : lx_kd b_ n_ p_ = 1) : sm_T (mt_P sc_) 0 189 (0, [some (.inr (.inr (some (10, 0))))], [], S0_) (fun r_ => ∃ u_ S1_, r_ = (.inl u_, S1_, 0) ∧ vq_189 b_ n_ p_ S0_ u_ S1_) := by
  have hF_ : ai_fr (sx_W vw_189) S0_ S0_ := ai_fr_rf
  have hz_ := nmp_sz (b_ := b_) (n_ := n_) (p_ := p_) ⟨hc_.2.2.2.1, hk_⟩
  have e3_ := hc_.2.2.2.2.2.1
  have e4_ := hc_.2.2.2.2.2.2.2.2.1
  have hn1_ := hc_.2.2.1
  have b1_ : 0 ≤ S0_.1 10 0 3 ∧ S0_.1 10 0 3 ≤ 1280 := hI_.1 10 0 3 rfl
  refine sm_T_go 3 (c1 := (5, [some (.inr (.inr (some (10, 0))))], [.inl 4, .inl (S0_.1 10 0 3)], S0_)) rfl ?_
  refine sm_T_bin (w := 16 * (S0_.1 10 0 3)) rfl (bi_shl (k := 4) (by decide) (by omega) (by omega) (by omega)) ?_
  have b2_ : 0 ≤ S0_.1 10 0 4 ∧ S0_.1 10 0 4 ≤ 1280 := hI_.1 10 0 4 rfl
  refine sm_T_go 2 (c1 := (10, [some (.inr (.inr (some (10, 0))))], [.inl (S0_.1 10 0 4), .inl (16 * (S0_.1 10 0 3))], S0_)) rfl ?_
  refine sm_T_bin (w := (i_or (16 * (S0_.1 10 0 3)) (S0_.1 10 0 4))) rfl rfl ?_
  have b3_ : (i_or (16 * (S0_.1 10 0 3)) (S0_.1 10 0 4)) = (16 * (S0_.1 10 0 3)) + (S0_.1 10 0 4) := i_or_add (s := 4) (by omega) (by omega) (by omega) (by omega) ⟨S0_.1 10 0 3, by omega⟩
  refine sm_T_ri rfl ⟨_, _, rfl, rfl, _, rfl, ?_⟩
  push_cast
  omega
/-! Text.sameNames -/
def vw_190 : sx_Wl := ([], [], [])
def vq_190 (x_ : Int) (y_ : Int) (b_ : Nat → Int) (n_ : Nat) (p_ : Nat) (q_ : Nat) (S0_ : sm_S) (u_ : Option sm_V) (S1_ : sm_S) : Prop := S0_ = S1_ ∧ ∃ v_ : Int, u_ = some (.inl v_) ∧ (v_ = if nm_q b_ n_ p_ q_ = true then 1 else 0)
theorem vl_190 {sc_ : Nat × (Nat → Int)} (x_ : Int) (y_ : Int) (b_ : Nat → Int) (n_ : Nat) (p_ : Nat) (q_ : Nat) (S0_ : sm_S) (hb_ : S0_.2.2.1 98 0 = b_) (hn1_ : n_ ≤ 1280) (hx_ : x_ = (16 * p_ + lx_sz b_ n_ p_ : Nat)) (hy_ : y_ = (16 * q_ + lx_sz b_ n_ q_ : Nat)) (hp_ : nmp b_ n_ p_) (hq_ : nmp b_ n_ q_) : ∀ nn_ : Nat, (∀ (l_ : Int) (u_ : Int) (w_ : Int) (k_ : Int) (S_ : sm_S), gi S_ → ai_fr (sx_W vw_190) S0_ S_ → ((l_ = (lx_sz b_ n_ p_ : Int) ∧ lx_sz b_ n_ p_ = lx_sz b_ n_ q_ ∧ u_ = (p_ : Int) ∧ w_ = (q_ : Int)) ∧ (0 ≤ k_ ∧ k_ ≤ l_) ∧ (∀ j_ : Nat, j_ < k_.toNat → b_ (p_ + j_) = b_ (q_ + j_)) ∧ (S_ = S0_) ∧ True) → ((l_ - k_).toNat) < nn_ → sm_T (mt_P sc_) 0 190 (28, [some (.inr (.inr (some (10, 0)))), some (.inl x_), some (.inl y_), some (.inl l_), some (.inl u_), some (.inl w_), some (.inl k_)], [], S_) (fun r_ => ∃ u_ S1_, r_ = (.inl u_, S1_, 0) ∧ vq_190 x_ y_ b_ n_ p_ q_ S0_ u_ S1_)) := by
  intro nn_
  induction nn_ with
  | zero => exact fun _ _ _ _ _ _ _ _ h_ => absurd h_ (Nat.not_lt_zero _)
  | succ nn_ ih_ =>
    rintro l_ u_ w_ k_ S_ hI_ hF_ ⟨h0_, h1_, h2_, hS_, -⟩ hm_
    have zp_ := nmp_sz hp_
    have zq_ := nmp_sz hq_
    have hb1_ : S_.2.2.1 98 0 = b_ := by rw [hS_]; exact hb_
    have e1_ : (u_ + k_).toNat = p_ + k_.toNat := by omega
    have e2_ : (w_ + k_).toNat = q_ + k_.toNat := by omega
    refine sm_T_go 2 (c1 := (31, [some (.inr (.inr (some (10, 0)))), some (.inl x_), some (.inl y_), some (.inl l_), some (.inl u_), some (.inl w_), some (.inl k_)], [.inl l_, .inl k_], S_)) rfl ?_
    refine sm_T_br (a := 3) (z := 34) rfl (fun c1_ => ?_) (fun c1_ => ?_)
    · have c1_ : l_ ≤ k_ := of_decide_eq_true c1_
      refine sm_T_go 1 (c1 := (66, [some (.inr (.inr (some (10, 0)))), some (.inl x_), some (.inl y_), some (.inl l_), some (.inl u_), some (.inl w_), some (.inl k_)], [.inl 1], S_)) rfl ?_
      refine sm_T_rz rfl (by omega) ⟨_, _, rfl, (by first | rfl | exact hS_.symm), _, rfl, ?_⟩
      rw [if_pos]
      rw [nm_q_t]
      exact ⟨h0_.2.1, fun j_ hj_ => h2_ j_ (by omega)⟩
    · have c1_ : ¬ (l_ ≤ k_) := of_decide_eq_false c1_
      refine sm_T_go 4 (c1 := (42, [some (.inr (.inr (some (10, 0)))), some (.inl x_), some (.inl y_), some (.inl l_), some (.inl u_), some (.inl w_), some (.inl k_)], [.inl k_, .inl u_, .inr (.inr (some (98, 0)))], S_)) rfl ?_
      refine sm_T_bin (w := u_ + k_) rfl (bi_add (by omega) (by omega) (by omega)) ?_
      refine sm_T_bald (n := 65536) rfl rfl (by omega) (by omega) ?_
      have b2_ : (-128) ≤ S_.2.2.1 98 0 (u_ + k_).toNat ∧ S_.2.2.1 98 0 (u_ + k_).toNat ≤ 127 := hI_.2 98 0 _
      refine sm_T_go 4 (c1 := (52, [some (.inr (.inr (some (10, 0)))), some (.inl x_), some (.inl y_), some (.inl l_), some (.inl u_), some (.inl w_), some (.inl k_)], [.inl k_, .inl w_, .inr (.inr (some (98, 0))), .inl (S_.2.2.1 98 0 (u_ + k_).toNat)], S_)) rfl ?_
      refine sm_T_bin (w := w_ + k_) rfl (bi_add (by omega) (by omega) (by omega)) ?_
      refine sm_T_bald (n := 65536) rfl rfl (by omega) (by omega) ?_
      have b3_ : (-128) ≤ S_.2.2.1 98 0 (w_ + k_).toNat ∧ S_.2.2.1 98 0 (w_ + k_).toNat ≤ 127 := hI_.2 98 0 _
      refine sm_T_br (a := 0) (z := 5) rfl (fun c4_ => ?_) (fun c4_ => ?_)
      · have c4_ : (S_.2.2.1 98 0 (u_ + k_).toNat) = (S_.2.2.1 98 0 (w_ + k_).toNat) := of_decide_eq_true c4_
        refine sm_T_inc (a := 6) (z := 1) (v := k_) (w := k_ + 1) rfl rfl (by omega) (by omega) (by omega) ?_
        refine sm_T_go 1 (c1 := (28, [some (.inr (.inr (some (10, 0)))), some (.inl x_), some (.inl y_), some (.inl l_), some (.inl u_), some (.inl w_), some (.inl (k_ + 1))], [], S_)) rfl ?_
        refine ih_ l_ u_ w_ (k_ + 1) S_ hI_ hF_ ⟨?_, ?_, ?_, ?_, trivial⟩ ?_
        · exact h0_
        · omega
        · intro j_ hj_
          by_cases g_ : j_ < k_.toNat
          · exact h2_ j_ g_
          · have : j_ = k_.toNat := by omega
            rw [e1_, e2_, hb1_] at c4_
            rw [this]
            exact c4_
        · first | rfl | exact hS_
        · omega
      · have c4_ : ¬ ((S_.2.2.1 98 0 (u_ + k_).toNat) = (S_.2.2.1 98 0 (w_ + k_).toNat)) := of_decide_eq_false c4_
        refine sm_T_go 1 (c1 := (58, [some (.inr (.inr (some (10, 0)))), some (.inl x_), some (.inl y_), some (.inl l_), some (.inl u_), some (.inl w_), some (.inl k_)], [.inl 0], S_)) rfl ?_
        refine sm_T_rz rfl (by omega) ⟨_, _, rfl, (by first | rfl | exact hS_.symm), _, rfl, ?_⟩
        rw [if_neg]
        rw [nm_q_t]
        intro z_
        have z1_ := z_.2 k_.toNat (by omega)
        rw [e1_, e2_, hb1_] at c4_
        exact c4_ z1_
theorem vc_190 {sc_ : Nat × (Nat → Int)} (x_ : Int) (y_ : Int) (b_ : Nat → Int) (n_ : Nat) (p_ : Nat) (q_ : Nat) (S0_ : sm_S) (hI_ : gi S0_) (hb_ : S0_.2.2.1 98 0 = b_) (hn1_ : n_ ≤ 1280) (hx_ : x_ = (16 * p_ + lx_sz b_ n_ p_ : Nat)) (hy_ : y_ = (16 * q_ + lx_sz b_ n_ q_ : Nat)) (hp_ : nmp b_ n_ p_) (hq_ : nmp b_ n_ q_) : sm_T (mt_P sc_) 0 190 (0, [some (.inr (.inr (some (10, 0)))), some (.inl x_), some (.inl y_), none, none, none, none], [], S0_) (fun r_ => ∃ u_ S1_, r_ = (.inl u_, S1_, 0) ∧ vq_190 x_ y_ b_ n_ p_ q_ S0_ u_ S1_) := by
  have hF_ : ai_fr (sx_W vw_190) S0_ S0_ := ai_fr_rf
  have zp_ := nmp_sz hp_
  have zq_ := nmp_sz hq_
  refine sm_T_go 2 (c1 := (3, [some (.inr (.inr (some (10, 0)))), some (.inl x_), some (.inl y_), none, none, none, none], [.inl 15, .inl x_], S0_)) rfl ?_
  refine sm_T_bin (w := (x_ % 16)) rfl (bi_msk (k := 4) (by decide)) ?_
  refine sm_T_go 4 (c1 := (9, [some (.inr (.inr (some (10, 0)))), some (.inl x_), some (.inl y_), some (.inl (x_ % 16)), none, none, none], [.inl 15, .inl y_, .inl (x_ % 16)], S0_)) rfl ?_
  refine sm_T_bin (w := (y_ % 16)) rfl (bi_msk (k := 4) (by decide)) ?_
  refine sm_T_br (a := 0) (z := 5) rfl (fun c1_ => ?_) (fun c1_ => ?_)
  · have c1_ : (x_ % 16) = (y_ % 16) := of_decide_eq_true c1_
    refine sm_T_go 2 (c1 := (17, [some (.inr (.inr (some (10, 0)))), some (.inl x_), some (.inl y_), some (.inl (x_ % 16)), none, none, none], [.inl 4, .inl x_], S0_)) rfl ?_
    refine sm_T_bin (w := (x_ / 16)) rfl (bi_shr (k := 4) (by decide) (by omega) (by omega)) ?_
    refine sm_T_go 3 (c1 := (22, [some (.inr (.inr (some (10, 0)))), some (.inl x_), some (.inl y_), some (.inl (x_ % 16)), some (.inl (x_ / 16)), none, none], [.inl 4, .inl y_], S0_)) rfl ?_
    refine sm_T_bin (w := (y_ / 16)) rfl (bi_shr (k := 4) (by decide) (by omega) (by omega)) ?_
    refine sm_T_go 3 (c1 := (28, [some (.inr (.inr (some (10, 0)))), some (.inl x_), some (.inl y_), some (.inl (x_ % 16)), some (.inl (x_ / 16)), some (.inl (y_ / 16)), some (.inl 0)], [], S0_)) rfl ?_
    refine (vl_190 x_ y_ b_ n_ p_ q_ S0_ hb_ hn1_ hx_ hy_ hp_ hq_ _) (x_ % 16) (x_ / 16) (y_ / 16) 0 S0_ hI_ hF_ ⟨?_, ?_, ?_, ?_, trivial⟩ (Nat.lt_succ_self _)
    · refine ⟨?_, ?_, ?_, ?_⟩ <;> omega
    · omega
    · intro j_ hj_; omega
    · first | rfl | exact hS_
  · have c1_ : ¬ ((x_ % 16) = (y_ % 16)) := of_decide_eq_false c1_
    refine sm_T_go 1 (c1 := (14, [some (.inr (.inr (some (10, 0)))), some (.inl x_), some (.inl y_), some (.inl (x_ % 16)), none, none, none], [.inl 0], S0_)) rfl ?_
    refine sm_T_rz rfl (by omega) ⟨_, _, rfl, (by first | rfl | exact hS_.symm), _, rfl, ?_⟩
    rw [if_neg]
    rw [nm_q_t]
    intro z_
    omega
/-! Reader.find -/
def vw_119 : sx_Wl := ([], [], [])
def vq_119 (m_ : Int) (y_ : Int) (b_ : Nat → Int) (n_ : Nat) (mm_ : Nat) (K_ : Nat) (f_ : Nat → Nat) (q_ : Nat) (S0_ : sm_S) (u_ : Option sm_V) (S1_ : sm_S) : Prop := S0_ = S1_ ∧ ∃ v_ : Int, u_ = some (.inl v_) ∧ (v_ = p_fd (fun s_ => nm_q b_ n_ (f_ s_) q_) K_)
theorem vl_119 {sc_ : Nat × (Nat → Int)} (m_ : Int) (y_ : Int) (b_ : Nat → Int) (n_ : Nat) (mm_ : Nat) (K_ : Nat) (f_ : Nat → Nat) (q_ : Nat) (S0_ : sm_S) (hb_ : S0_.2.2.1 98 0 = b_) (hn1_ : n_ ≤ 1280) (hm_ : m_ = (mm_ : Int)) (hr_ : nmr b_ n_ mm_ K_ f_ S0_) (hy_ : y_ = (16 * q_ + lx_sz b_ n_ q_ : Nat)) (hq_ : nmp b_ n_ q_) : ∀ nn_ : Nat, (∀ (s_ : Int) (S_ : sm_S), gi S_ → ai_fr (sx_W vw_119) S0_ S_ → ((0 ≤ s_ ∧ s_ ≤ (K_ : Int)) ∧ (p_fd (fun s_ => nm_q b_ n_ (f_ s_) q_) s_.toNat = -1) ∧ (S_ = S0_) ∧ True) → (((K_ : Int) - s_).toNat) < nn_ → sm_T (mt_P sc_) 1 119 (2, [some (.inr (.inr (some (7, 0)))), some (.inl m_), some (.inl y_), some (.inl s_)], [], S_) (fun r_ => ∃ u_ S1_, r_ = (.inl u_, S1_, 0) ∧ vq_119 m_ y_ b_ n_ mm_ K_ f_ q_ S0_ u_ S1_)) := by
  intro nn_
  induction nn_ with
  | zero => exact fun _ _ _ _ _ h_ => absurd h_ (Nat.not_lt_zero _)
  | succ nn_ ih_ =>
    rintro s_ S_ hI_ hF_ ⟨h0_, h1_, hS_, -⟩ hm_
    have hb1_ : S_.2.2.1 98 0 = b_ := by rw [hS_]; exact hb_
    obtain ⟨r1_, r2_, r3_, r4_⟩ := hr_
    have hK_ : S_.2.2.1 77 0 m_.toNat = (K_ : Int) := by rw [hS_, show m_.toNat = mm_ by omega]; exact r1_
    refine sm_T_go 4 (c1 := (8, [some (.inr (.inr (some (7, 0)))), some (.inl m_), some (.inl y_), some (.inl s_)], [.inl m_, .inr (.inr (some (77, 0))), .inl s_], S_)) rfl ?_
    refine sm_T_iald (n := 17) rfl rfl (by omega) (by omega) ?_
    have b1_ : 0 ≤ S_.2.2.1 77 0 m_.toNat ∧ S_.2.2.1 77 0 m_.toNat ≤ 40 := hI_.2 77 0 _
    refine sm_T_br (a := 3) (z := 33) rfl (fun c2_ => ?_) (fun c2_ => ?_)
    · have c2_ : (S_.2.2.1 77 0 m_.toNat) ≤ s_ := of_decide_eq_true c2_
      refine sm_T_go 1 (c1 := (43, [some (.inr (.inr (some (7, 0)))), some (.inl m_), some (.inl y_), some (.inl s_)], [.inl (-1)], S_)) rfl ?_
      refine sm_T_ri rfl ⟨_, _, rfl, (by first | rfl | exact hS_.symm), _, rfl, ?_⟩
      rw [show K_ = s_.toNat by omega]
      exact h1_.symm
    · have c2_ : ¬ ((S_.2.2.1 77 0 m_.toNat) ≤ s_) := of_decide_eq_false c2_
      refine sm_T_go 6 (c1 := (23, [some (.inr (.inr (some (7, 0)))), some (.inl m_), some (.inl y_), some (.inl s_)], [.inl 40, .inl m_, .inr (.inr (some (78, 0))), .inr (.inr (some (10, 0)))], S_)) rfl ?_
      refine sm_T_bin (w := 40 * m_) rfl (bi_mul (by omega) (by omega) (by omega)) ?_
      refine sm_T_go 1 (c1 := (25, [some (.inr (.inr (some (7, 0)))), some (.inl m_), some (.inl y_), some (.inl s_)], [.inl s_, .inl (40 * m_), .inr (.inr (some (78, 0))), .inr (.inr (some (10, 0)))], S_)) rfl ?_
      refine sm_T_bin (w := 40 * m_ + s_) rfl (bi_add (by omega) (by omega) (by omega)) ?_
      refine sm_T_iald (n := 640) rfl rfl (by omega) (by omega) ?_
      have b3_ : 0 ≤ S_.2.2.1 78 0 (40 * m_ + s_).toNat ∧ S_.2.2.1 78 0 (40 * m_ + s_).toNat ≤ 65535 := hI_.2 78 0 _
      refine sm_T_go 1 (c1 := (28, [some (.inr (.inr (some (7, 0)))), some (.inl m_), some (.inl y_), some (.inl s_)], [.inl y_, .inl (S_.2.2.1 78 0 (40 * m_ + s_).toNat), .inr (.inr (some (10, 0)))], S_)) rfl ?_
      refine sm_T_cal (d1 := 0) (Q1 := vq_190 (S_.2.2.1 78 0 (40 * m_ + s_).toNat) y_ b_ n_ (f_ s_.toNat) q_ S_) rfl rfl (by decide) (vc_190 (S_.2.2.1 78 0 (40 * m_ + s_).toNat) y_ b_ n_ (f_ s_.toNat) q_ S_ hI_ (by exact hb1_) (by exact hn1_) (by rw [hS_, show (40 * m_ + s_).toNat = 40 * mm_ + s_.toNat by omega]; exact (r4_ s_.toNat (by omega)).1) (by exact hy_) (by exact (r4_ s_.toNat (by omega)).2) (by exact hq_)) (fun u_ S4_ p7_ => ?_)
      obtain ⟨rfl, v9_, rfl, p7_⟩ := p7_
      have e28_ := p7_
      refine sm_T_b0 (a := 0) (z := 5) rfl (fun c10_ => ?_) (fun c10_ => ?_)
      · have c10_ : v9_ = 0 := of_decide_eq_true c10_
        refine sm_T_inc (a := 3) (z := 1) (v := s_) (w := s_ + 1) rfl rfl (by omega) (by omega) (by omega) ?_
        refine sm_T_go 1 (c1 := (2, [some (.inr (.inr (some (7, 0)))), some (.inl m_), some (.inl y_), some (.inl (s_ + 1))], [], S_)) rfl ?_
        refine ih_ (s_ + 1) S_ hI_ hF_ ⟨?_, ?_, ?_, trivial⟩ ?_
        · omega
        · rw [show (s_ + 1).toNat = s_.toNat + 1 by omega]
          refine p_fd_nx h1_ ?_
          by_cases g_ : nm_q b_ n_ (f_ s_.toNat) q_ = true
          · rw [if_pos g_] at e28_
            omega
          · exact Bool.eq_false_iff.mpr g_
        · first | rfl | exact hS_
        · omega
      · have c10_ : ¬ (v9_ = 0) := of_decide_eq_false c10_
        refine sm_T_go 1 (c1 := (35, [some (.inr (.inr (some (7, 0)))), some (.inl m_), some (.inl y_), some (.inl s_)], [.inl s_], S_)) rfl ?_
        refine sm_T_ri rfl ⟨_, _, rfl, (by first | rfl | exact hS_.symm), _, rfl, ?_⟩
        rw [p_fd_go h1_ ?_ (show s_.toNat < K_ by omega)]
        · omega
        · by_cases g_ : nm_q b_ n_ (f_ s_.toNat) q_ = true
          · exact g_
          · rw [if_neg g_] at e28_
            omega
theorem vc_119 {sc_ : Nat × (Nat → Int)} (m_ : Int) (y_ : Int) (b_ : Nat → Int) (n_ : Nat) (mm_ : Nat) (K_ : Nat) (f_ : Nat → Nat) (q_ : Nat) (S0_ : sm_S) (hI_ : gi S0_) (hb_ : S0_.2.2.1 98 0 = b_) (hn1_ : n_ ≤ 1280) (hm_ : m_ = (mm_ : Int)) (hr_ : nmr b_ n_ mm_ K_ f_ S0_) (hy_ : y_ = (16 * q_ + lx_sz b_ n_ q_ : Nat)) (hq_ : nmp b_ n_ q_) : sm_T (mt_P sc_) 1 119 (0, [some (.inr (.inr (some (7, 0)))), some (.inl m_), some (.inl y_), none], [], S0_) (fun r_ => ∃ u_ S1_, r_ = (.inl u_, S1_, 0) ∧ vq_119 m_ y_ b_ n_ mm_ K_ f_ q_ S0_ u_ S1_) := by
  have hF_ : ai_fr (sx_W vw_119) S0_ S0_ := ai_fr_rf
  refine sm_T_go 2 (c1 := (2, [some (.inr (.inr (some (7, 0)))), some (.inl m_), some (.inl y_), some (.inl 0)], [], S0_)) rfl ?_
  refine (vl_119 m_ y_ b_ n_ mm_ K_ f_ q_ S0_ hb_ hn1_ hm_ hr_ hy_ hq_ _) 0 S0_ hI_ hF_ ⟨?_, ?_, ?_, trivial⟩ (Nat.lt_succ_self _)
  · omega
  · rfl
  · first | rfl | exact hS_

def p_nn (b_ : Nat → Int) (n_ K_ : Nat) (f_ : Nat → Nat) (w_ : Int) (p_ : Nat) : pE Nat := if lx_kd b_ n_ p_ = 1 then (if p_fd (fun s_ => nm_q b_ n_ (f_ s_) p_) K_ = -1 then (if (K_ : Int) = w_ then .inl (15, p_) else p_ad b_ n_ p_) else .inl (10, p_)) else .inl (2, p_)
/-! Reader.newName -/
def vw_120 : sx_Wl := ([(10, 2), (10, 3), (10, 4), (10, 5), (10, 6), (10, 7), (10, 8)], [], [])
def vq_120 (m_ : Int) (w_ : Int) (b_ : Nat → Int) (n_ : Nat) (p_ : Nat) (mm_ : Nat) (K_ : Nat) (f_ : Nat → Nat) (S0_ : sm_S) (u_ : Option sm_V) (S1_ : sm_S) : Prop := ∃ v_ : Int, u_ = some (.inl v_) ∧ gi S1_ ∧ ai_fr (sx_W vw_120) S0_ S1_ ∧ (v_ = (16 * p_ + lx_sz b_ n_ p_ : Nat) ∧ lx_kd b_ n_ p_ = 1 ∧ ∃ r_, p_nn b_ n_ K_ f_ w_ p_ = .inr r_ ∧ ct b_ n_ r_ S1_)
def vx_120 (m_ : Int) (w_ : Int) (b_ : Nat → Int) (n_ : Nat) (p_ : Nat) (mm_ : Nat) (K_ : Nat) (f_ : Nat → Nat) (S0_ : sm_S) (S1_ : sm_S) : Prop := gi S1_ ∧ ai_fr (sx_W vw_120) S0_ S1_ ∧ (∃ e_, p_nn b_ n_ K_ f_ w_ p_ = .inl e_ ∧ ter S1_ e_)
theorem vc_120 {sc_ : Nat × (Nat → Int)} (m_ : Int) (w_ : Int) (b_ : Nat → Int) (n_ : Nat) (p_ : Nat) (mm_ : Nat) (K_ : Nat) (f_ : Nat → Nat) (S0_ : sm_S) (hI_ : gi S0_) (hc_ : ct b_ n_ p_ S0_) (hm_ : m_ = (mm_ : Int)) (hr_ : nmr b_ n_ mm_ K_ f_ S0_) : sm_T (mt_P sc_) 2 120 (0, [some (.inr (.inr (some (7, 0)))), some (.inl m_), some (.inl w_), none], [], S0_) (fun r_ => (∃ u_ S1_, r_ = (.inl u_, S1_, 0) ∧ vq_120 m_ w_ b_ n_ p_ mm_ K_ f_ S0_ u_ S1_) ∨ ∃ S1_, r_ = (.inr 2, S1_, 1) ∧ vx_120 m_ w_ b_ n_ p_ mm_ K_ f_ S0_ S1_) := by
  have hF_ : ai_fr (sx_W vw_120) S0_ S0_ := ai_fr_rf
  obtain ⟨hb_, hn_, hn1_, hpn_, hk_, hst_, hnx_, hkd_, hsz_, hvl_⟩ := id hc_
  obtain ⟨r1_, r2_, r3_, r4_⟩ := id hr_
  have hK_ : S0_.2.2.1 77 0 m_.toNat = (K_ : Int) := by rw [show m_.toNat = mm_ by omega]; exact r1_
  have b1_ : (-128) ≤ S0_.1 10 0 2 ∧ S0_.1 10 0 2 ≤ 257 := hI_.1 10 0 2 rfl
  refine sm_T_go 4 (c1 := (8, [some (.inr (.inr (some (7, 0)))), some (.inl m_), some (.inl w_), none], [.inl 1, .inl (S0_.1 10 0 2)], S0_)) rfl ?_
  refine sm_T_br (a := 0) (z := 18) rfl (fun c2_ => ?_) (fun c2_ => ?_)
  · have c2_ : (S0_.1 10 0 2) = 1 := of_decide_eq_true c2_
    refine sm_T_go 2 (c1 := (30, [some (.inr (.inr (some (7, 0)))), some (.inl m_), some (.inl w_), none], [.inr (.inr (some (10, 0)))], S0_)) rfl ?_
    refine sm_T_cal (d1 := 0) (Q1 := vq_189 b_ n_ p_ S0_) rfl rfl (by decide) (vc_189 b_ n_ p_ S0_ hI_ (by exact hc_) (by omega)) (fun u_ S3_ p6_ => ?_)
    obtain ⟨rfl, v8_, rfl, p6_⟩ := p6_
    have e30_ := p6_
    have hk1_ : lx_kd b_ n_ p_ = 1 := by omega
    refine sm_T_go 4 (c1 := (37, [some (.inr (.inr (some (7, 0)))), some (.inl m_), some (.inl w_), some (.inl v8_)], [.inl v8_, .inl m_, .inr (.inr (some (7, 0)))], S0_)) rfl ?_
    refine sm_T_cal (d1 := 1) (Q1 := vq_119 m_ v8_ b_ n_ mm_ K_ f_ p_ S0_) rfl rfl (by decide) (vc_119 m_ v8_ b_ n_ mm_ K_ f_ p_ S0_ hI_ (by exact hb_) (by exact hn1_) (by exact hm_) (by exact hr_) (by exact e30_) (by exact ⟨hpn_, hk1_⟩)) (fun u_ S9_ p12_ => ?_)
    obtain ⟨rfl, v14_, rfl, p12_⟩ := p12_
    have e37_ := p12_
    refine sm_T_go 1 (c1 := (41, [some (.inr (.inr (some (7, 0)))), some (.inl m_), some (.inl w_), some (.inl v8_)], [.inl (-1), .inl v14_], S0_)) rfl ?_
    refine sm_T_br (a := 0) (z := 19) rfl (fun c15_ => ?_) (fun c15_ => ?_)
    · have c15_ : v14_ = (-1) := of_decide_eq_true c15_
      refine sm_T_go 3 (c1 := (65, [some (.inr (.inr (some (7, 0)))), some (.inl m_), some (.inl w_), some (.inl v8_)], [.inl m_, .inr (.inr (some (77, 0)))], S0_)) rfl ?_
      refine sm_T_iald (n := 17) rfl rfl (by omega) (by omega) ?_
      have b16_ : 0 ≤ S0_.2.2.1 77 0 m_.toNat ∧ S0_.2.2.1 77 0 m_.toNat ≤ 40 := hI_.2 77 0 _
      refine sm_T_go 1 (c1 := (67, [some (.inr (.inr (some (7, 0)))), some (.inl m_), some (.inl w_), some (.inl v8_)], [.inl w_, .inl (S0_.2.2.1 77 0 m_.toNat)], S0_)) rfl ?_
      refine sm_T_br (a := 1) (z := 19) rfl (fun c17_ => ?_) (fun c17_ => ?_)
      · have c17_ : (S0_.2.2.1 77 0 m_.toNat) ≠ w_ := of_decide_eq_true c17_
        refine sm_T_go 2 (c1 := (90, [some (.inr (.inr (some (7, 0)))), some (.inl m_), some (.inl w_), some (.inl v8_)], [.inr (.inr (some (10, 0)))], S0_)) rfl ?_
        refine sm_T_calx (d1 := 1) (Q1 := vq_191 b_ n_ (lx_en b_ n_ p_) S0_) (Q2 := vx_191 b_ n_ (lx_en b_ n_ p_) S0_) rfl rfl (by decide) (vc_191 b_ n_ (lx_en b_ n_ p_) S0_ hI_ (by exact hc_.1) (by exact hc_.2.1) (by exact hc_.2.2.1) (by exact hc_.2.2.2.2.2.2.1) (by exact (lx_en_le (b := b_) hc_.2.2.2.1).2)) rfl (fun S18_ p21_ => ?_) (fun u_ S18_ p21_ => ?_)
        · obtain ⟨hI19_, hF20_, p21_⟩ := p21_
          refine Or.inr ⟨_, rfl, hI19_, ai_fr_tr hF_ (fr_le hF20_ rfl), ?_⟩
          refine ⟨(1, lx_nx b_ n_ p_), ?_, p21_.2⟩
          unfold p_nn p_ad lx_nx; rw [if_pos hk1_, if_pos (by omega), if_neg (by omega), if_pos p21_.1]
        obtain ⟨rfl, hI19_, hF20_, p21_⟩ := p21_
        have hF22_ : ai_fr (sx_W vw_120) S0_ S18_ := ai_fr_tr hF_ (fr_le hF20_ rfl)
        have hct_ := p21_
        refine sm_T_go 1 (c1 := (94, [some (.inr (.inr (some (7, 0)))), some (.inl m_), some (.inl w_), some (.inl v8_)], [.inl v8_], S18_)) rfl ?_
        refine sm_T_ri rfl (Or.inl ⟨_, _, rfl, _, rfl, hI19_, hF22_, ?_⟩)
        exact ⟨e30_, hk1_, lx_nx b_ n_ p_, by unfold p_nn p_ad lx_nx; rw [if_pos hk1_, if_pos (by omega), if_neg (by omega), if_neg hct_.2.2.2.2.1], hct_⟩
      · have c17_ : ¬ ((S0_.2.2.1 77 0 m_.toNat) ≠ w_) := of_decide_eq_false c17_
        have b23_ : 0 ≤ S0_.1 10 0 3 ∧ S0_.1 10 0 3 ≤ 1280 := hI_.1 10 0 3 rfl
        refine sm_T_go 6 (c1 := (83, [some (.inr (.inr (some (7, 0)))), some (.inl m_), some (.inl w_), some (.inl v8_)], [.inl (S0_.1 10 0 3), .inl 15, .inr (.inr (some (10, 0)))], S0_)) rfl ?_
        refine sm_T_calx (d1 := 0) (Q1 := vq_187 15 (S0_.1 10 0 3) S0_) (Q2 := vx_187 15 (S0_.1 10 0 3) S0_) rfl rfl (by decide) (vc_187 15 (S0_.1 10 0 3) S0_ hI_ (by decide) (by omega)) rfl (fun S24_ p27_ => ?_) (fun u_ S24_ p27_ => ?_)
        · obtain ⟨hI25_, hF26_, p27_⟩ := p27_
          refine Or.inr ⟨_, rfl, hI25_, ai_fr_tr hF_ (fr_le hF26_ rfl), ?_⟩
          refine ⟨(15, p_), ?_, p27_.1, p27_.2.trans hst_⟩
          unfold p_nn; rw [if_pos hk1_, if_pos (by omega), if_pos (by omega)]
        · exact (p27_.2.2.2).elim
    · have c15_ : ¬ (v14_ = (-1)) := of_decide_eq_false c15_
      have b29_ : 0 ≤ S0_.1 10 0 3 ∧ S0_.1 10 0 3 ≤ 1280 := hI_.1 10 0 3 rfl
      refine sm_T_go 6 (c1 := (57, [some (.inr (.inr (some (7, 0)))), some (.inl m_), some (.inl w_), some (.inl v8_)], [.inl (S0_.1 10 0 3), .inl 10, .inr (.inr (some (10, 0)))], S0_)) rfl ?_
      refine sm_T_calx (d1 := 0) (Q1 := vq_187 10 (S0_.1 10 0 3) S0_) (Q2 := vx_187 10 (S0_.1 10 0 3) S0_) rfl rfl (by decide) (vc_187 10 (S0_.1 10 0 3) S0_ hI_ (by decide) (by omega)) rfl (fun S30_ p33_ => ?_) (fun u_ S30_ p33_ => ?_)
      · obtain ⟨hI31_, hF32_, p33_⟩ := p33_
        refine Or.inr ⟨_, rfl, hI31_, ai_fr_tr hF_ (fr_le hF32_ rfl), ?_⟩
        refine ⟨(10, p_), ?_, p33_.1, p33_.2.trans hst_⟩
        unfold p_nn; rw [if_pos hk1_, if_neg (by omega)]
      · exact (p33_.2.2.2).elim
  · have c2_ : ¬ ((S0_.1 10 0 2) = 1) := of_decide_eq_false c2_
    have b35_ : 0 ≤ S0_.1 10 0 3 ∧ S0_.1 10 0 3 ≤ 1280 := hI_.1 10 0 3 rfl
    refine sm_T_go 6 (c1 := (23, [some (.inr (.inr (some (7, 0)))), some (.inl m_), some (.inl w_), none], [.inl (S0_.1 10 0 3), .inl 2, .inr (.inr (some (10, 0)))], S0_)) rfl ?_
    refine sm_T_calx (d1 := 0) (Q1 := vq_187 2 (S0_.1 10 0 3) S0_) (Q2 := vx_187 2 (S0_.1 10 0 3) S0_) rfl rfl (by decide) (vc_187 2 (S0_.1 10 0 3) S0_ hI_ (by decide) (by omega)) rfl (fun S36_ p39_ => ?_) (fun u_ S36_ p39_ => ?_)
    · obtain ⟨hI37_, hF38_, p39_⟩ := p39_
      refine Or.inr ⟨_, rfl, hI37_, ai_fr_tr hF_ (fr_le hF38_ rfl), ?_⟩
      refine ⟨(2, p_), ?_, p39_.1, p39_.2.trans hst_⟩
      unfold p_nn; rw [if_neg (by omega)]
    · exact (p39_.2.2.2).elim
/-! Reader.numberAtHand -/
def vw_122 : sx_Wl := ([(10, 6), (10, 7)], [], [])
def vq_122 (lo_ : Int) (hi_ : Int) (b_ : Nat → Int) (n_ : Nat) (p_ : Nat) (S0_ : sm_S) (u_ : Option sm_V) (S1_ : sm_S) : Prop := ∃ v_ : Int, u_ = some (.inl v_) ∧ gi S1_ ∧ ai_fr (sx_W vw_122) S0_ S1_ ∧ (p_nu b_ n_ lo_ hi_ p_ = .inr v_)
def vx_122 (lo_ : Int) (hi_ : Int) (b_ : Nat → Int) (n_ : Nat) (p_ : Nat) (S0_ : sm_S) (S1_ : sm_S) : Prop := gi S1_ ∧ ai_fr (sx_W vw_122) S0_ S1_ ∧ (∃ e_, p_nu b_ n_ lo_ hi_ p_ = .inl e_ ∧ ter S1_ e_)
theorem vc_122 {sc_ : Nat × (Nat → Int)} (lo_ : Int) (hi_ : Int) (b_ : Nat → Int) (n_ : Nat) (p_ : Nat) (S0_ : sm_S) (hI_ : gi S0_) (hc_ : ct b_ n_ p_ S0_) : sm_T (mt_P sc_) 1 122 (0, [some (.inr (.inr (some (7, 0)))), some (.inl lo_), some (.inl hi_)], [], S0_) (fun r_ => (∃ u_ S1_, r_ = (.inl u_, S1_, 0) ∧ vq_122 lo_ hi_ b_ n_ p_ S0_ u_ S1_) ∨ ∃ S1_, r_ = (.inr 2, S1_, 1) ∧ vx_122 lo_ hi_ b_ n_ p_ S0_ S1_) := by
  have hF_ : ai_fr (sx_W vw_122) S0_ S0_ := ai_fr_rf
  obtain ⟨hb_, hn_, hn1_, hpn_, hk_, hst_, hnx_, hkd_, hsz_, hvl_⟩ := id hc_
  have b1_ : (-128) ≤ S0_.1 10 0 2 ∧ S0_.1 10 0 2 ≤ 257 := hI_.1 10 0 2 rfl
  refine sm_T_go 4 (c1 := (8, [some (.inr (.inr (some (7, 0)))), some (.inl lo_), some (.inl hi_)], [.inl 2, .inl (S0_.1 10 0 2)], S0_)) rfl ?_
  refine sm_T_br (a := 0) (z := 18) rfl (fun c2_ => ?_) (fun c2_ => ?_)
  · have c2_ : (S0_.1 10 0 2) = 2 := of_decide_eq_true c2_
    have b3_ : 0 ≤ S0_.1 10 0 5 ∧ S0_.1 10 0 5 ≤ 999999 := hI_.1 10 0 5 rfl
    refine sm_T_go 4 (c1 := (34, [some (.inr (.inr (some (7, 0)))), some (.inl lo_), some (.inl hi_)], [.inl lo_, .inl (S0_.1 10 0 5)], S0_)) rfl ?_
    refine sm_T_br (a := 2) (z := 14) rfl (fun c4_ => ?_) (fun c4_ => ?_)
    · have c4_ : (S0_.1 10 0 5) < lo_ := of_decide_eq_true c4_
      have b5_ : 0 ≤ S0_.1 10 0 3 ∧ S0_.1 10 0 3 ≤ 1280 := hI_.1 10 0 3 rfl
      refine sm_T_go 6 (c1 := (61, [some (.inr (.inr (some (7, 0)))), some (.inl lo_), some (.inl hi_)], [.inl (S0_.1 10 0 3), .inl 12, .inr (.inr (some (10, 0)))], S0_)) rfl ?_
      refine sm_T_calx (d1 := 0) (Q1 := vq_187 12 (S0_.1 10 0 3) S0_) (Q2 := vx_187 12 (S0_.1 10 0 3) S0_) rfl rfl (by decide) (vc_187 12 (S0_.1 10 0 3) S0_ hI_ (by decide) (by omega)) rfl (fun S6_ p9_ => ?_) (fun u_ S6_ p9_ => ?_)
      · obtain ⟨hI7_, hF8_, p9_⟩ := p9_
        refine Or.inr ⟨_, rfl, hI7_, ai_fr_tr hF_ (fr_le hF8_ rfl), ?_⟩
        have hv_ := hvl_ (by omega)
        refine ⟨(12, p_), ?_, p9_.1, p9_.2.trans hst_⟩
        unfold p_nu; rw [if_pos (by omega), if_pos (by omega)]
      · exact (p9_.2.2.2).elim
    · have c4_ : ¬ ((S0_.1 10 0 5) < lo_) := of_decide_eq_false c4_
      refine sm_T_go 4 (c1 := (45, [some (.inr (.inr (some (7, 0)))), some (.inl lo_), some (.inl hi_)], [.inl hi_, .inl (S0_.1 10 0 5)], S0_)) rfl ?_
      refine sm_T_br (a := 5) (z := 19) rfl (fun c11_ => ?_) (fun c11_ => ?_)
      · have c11_ : (S0_.1 10 0 5) ≤ hi_ := of_decide_eq_true c11_
        refine sm_T_go 3 (c1 := (71, [some (.inr (.inr (some (7, 0)))), some (.inl lo_), some (.inl hi_)], [.inl (S0_.1 10 0 5)], S0_)) rfl ?_
        refine sm_T_ri rfl (Or.inl ⟨_, _, rfl, _, rfl, hI_, hF_, ?_⟩)
        have hv_ := hvl_ (by omega)
        unfold p_nu; rw [if_pos (by omega), if_neg (by omega), hv_]
      · have c11_ : ¬ ((S0_.1 10 0 5) ≤ hi_) := of_decide_eq_false c11_
        have b12_ : 0 ≤ S0_.1 10 0 3 ∧ S0_.1 10 0 3 ≤ 1280 := hI_.1 10 0 3 rfl
        refine sm_T_go 6 (c1 := (61, [some (.inr (.inr (some (7, 0)))), some (.inl lo_), some (.inl hi_)], [.inl (S0_.1 10 0 3), .inl 12, .inr (.inr (some (10, 0)))], S0_)) rfl ?_
        refine sm_T_calx (d1 := 0) (Q1 := vq_187 12 (S0_.1 10 0 3) S0_) (Q2 := vx_187 12 (S0_.1 10 0 3) S0_) rfl rfl (by decide) (vc_187 12 (S0_.1 10 0 3) S0_ hI_ (by decide) (by omega)) rfl (fun S13_ p16_ => ?_) (fun u_ S13_ p16_ => ?_)
        · obtain ⟨hI14_, hF15_, p16_⟩ := p16_
          refine Or.inr ⟨_, rfl, hI14_, ai_fr_tr hF_ (fr_le hF15_ rfl), ?_⟩
          have hv_ := hvl_ (by omega)
          refine ⟨(12, p_), ?_, p16_.1, p16_.2.trans hst_⟩
          unfold p_nu; rw [if_pos (by omega), if_pos (by omega)]
        · exact (p16_.2.2.2).elim
  · have c2_ : ¬ ((S0_.1 10 0 2) = 2) := of_decide_eq_false c2_
    have b18_ : 0 ≤ S0_.1 10 0 3 ∧ S0_.1 10 0 3 ≤ 1280 := hI_.1 10 0 3 rfl
    refine sm_T_go 6 (c1 := (23, [some (.inr (.inr (some (7, 0)))), some (.inl lo_), some (.inl hi_)], [.inl (S0_.1 10 0 3), .inl 2, .inr (.inr (some (10, 0)))], S0_)) rfl ?_
    refine sm_T_calx (d1 := 0) (Q1 := vq_187 2 (S0_.1 10 0 3) S0_) (Q2 := vx_187 2 (S0_.1 10 0 3) S0_) rfl rfl (by decide) (vc_187 2 (S0_.1 10 0 3) S0_ hI_ (by decide) (by omega)) rfl (fun S19_ p22_ => ?_) (fun u_ S19_ p22_ => ?_)
    · obtain ⟨hI20_, hF21_, p22_⟩ := p22_
      refine Or.inr ⟨_, rfl, hI20_, ai_fr_tr hF_ (fr_le hF21_ rfl), ?_⟩
      refine ⟨(2, p_), ?_, p22_.1, p22_.2.trans hst_⟩
      unfold p_nu; rw [if_neg (by omega)]
    · exact (p22_.2.2.2).elim
