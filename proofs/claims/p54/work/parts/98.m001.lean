/-! 99.v3t -/
section
/-! the reference: one token; written by wip/p55/gen/vg -/
/-! M_.take -/
def vw_290 : sx_Wl := ([], [119, 120, 121, 122, 123], [])
def vq_290 (f_ : Int) (b_ : Nat → Int) (n_ : Nat) (p_ : Nat) (t_ : Nat) (S0_ : sm_S) (u_ : Option sm_V) (S1_ : sm_S) : Prop := ∃ v_ : Int, u_ = some (.inl v_) ∧ gi S1_ ∧ ai_fr (sx_W vw_290) S0_ S1_ ∧ (v_ = (lx_en b_ n_ p_ : Nat) ∧ ((S1_.2.2.1 120 0 (t_)) = (p_ : Int) ∧ (S1_.2.2.1 119 0 (t_)) = r_so (lx_kd b_ n_ p_) ∧ (lx_kd b_ n_ p_ ≠ -1 → (S1_.2.2.1 121 0 (t_)) = r_nu (lx_kd b_ n_ p_) (lx_vl b_ n_ p_)) ∧ (lx_kd b_ n_ p_ = 1 → (S1_.2.2.2 122 0 (t_)) = rk1 b_ p_ (lx_sz b_ n_ p_) ∧ (S1_.2.2.1 123 0 (t_)) = rk2 b_ p_ (lx_sz b_ n_ p_))) ∧ (∀ j_ : Nat, j_ ≠ t_ → (S1_.2.2.1 119 0 (j_)) = (S0_.2.2.1 119 0 (j_)) ∧ (S1_.2.2.1 120 0 (j_)) = (S0_.2.2.1 120 0 (j_)) ∧ (S1_.2.2.1 121 0 (j_)) = (S0_.2.2.1 121 0 (j_)) ∧ (S1_.2.2.2 122 0 (j_)) = (S0_.2.2.2 122 0 (j_)) ∧ (S1_.2.2.1 123 0 (j_)) = (S0_.2.2.1 123 0 (j_))))
set_option maxHeartbeats 16000000 in
set_option maxRecDepth 20000 in
theorem vl_290 {sc_ : Nat × (Nat → Int)} (f_ : Int) (b_ : Nat → Int) (n_ : Nat) (p_ : Nat) (t_ : Nat) (S0_ : sm_S) (hb_ : S0_.2.2.1 118 0 = b_) (hn_ : (S0_.1 13 0 2) = (n_ : Int)) (hn1_ : n_ ≤ 1280) (hp_ : f_ = (p_ : Int)) (hpn_ : p_ < n_) (ht_ : (S0_.1 13 0 3) = (t_ : Int)) (ht1_ : t_ ≤ 1280) : ∀ nn_ : Nat, (∀ (tt_ : Int) (k_ : Int) (c_ : Int) (S_ : sm_S), gi S_ → ai_fr (sx_W vw_290) S0_ S_ → ((tt_ = (t_ : Int) ∧ lx_l (b_ p_)) ∧ (∃ i_ : Nat, k_ = ((p_ + i_ : Nat) : Int) ∧ p_ + i_ ≤ n_ ∧ lx_ne b_ n_ (p_ + i_) = lx_ne b_ n_ p_ ∧ (∀ j_, j_ < i_ → lx_x (b_ (p_ + j_)))) ∧ ((S_.2.2.2 122 0 (t_)) = rk1 b_ p_ (k_ - p_).toNat ∧ (S_.2.2.1 123 0 (t_)) = rk2 b_ p_ (k_ - p_).toNat) ∧ ((S_.2.2.1 121 0 (t_)) = 0 ∧ (S_.2.2.1 120 0 (t_)) = (p_ : Int)) ∧ (∀ j_ : Nat, j_ ≠ t_ → (S_.2.2.1 119 0 (j_)) = (S0_.2.2.1 119 0 (j_)) ∧ (S_.2.2.1 120 0 (j_)) = (S0_.2.2.1 120 0 (j_)) ∧ (S_.2.2.1 121 0 (j_)) = (S0_.2.2.1 121 0 (j_)) ∧ (S_.2.2.2 122 0 (j_)) = (S0_.2.2.2 122 0 (j_)) ∧ (S_.2.2.1 123 0 (j_)) = (S0_.2.2.1 123 0 (j_))) ∧ True) → ((1300 - k_).toNat) < nn_ → sm_T (mt_P sc_) 2 290 (50, [some (.inr (.inr (some (13, 0)))), some (.inl f_), some (.inl tt_), some (.inl k_), some (.inl c_), none, none], [], S_) (fun r_ => ∃ u_ S1_, r_ = (.inl u_, S1_, 0) ∧ vq_290 f_ b_ n_ p_ t_ S0_ u_ S1_)) ∧ (∀ (tt_ : Int) (k_ : Int) (c_ : Int) (S_ : sm_S), gi S_ → ai_fr (sx_W vw_290) S0_ S_ → ((tt_ = (t_ : Int) ∧ ¬ lx_l (b_ p_) ∧ lx_g (b_ p_)) ∧ (∃ i_ : Nat, k_ = ((p_ + i_ : Nat) : Int) ∧ p_ + i_ ≤ n_ ∧ lx_de b_ n_ (p_ + i_) = lx_de b_ n_ p_ ∧ (∀ j_, j_ < i_ → lx_g (b_ (p_ + j_)))) ∧ ((S_.2.2.1 121 0 (t_)) = lx_v b_ p_ (min (k_ - p_).toNat 6)) ∧ ((S_.2.2.1 120 0 (t_)) = (p_ : Int)) ∧ (∀ j_ : Nat, j_ ≠ t_ → (S_.2.2.1 119 0 (j_)) = (S0_.2.2.1 119 0 (j_)) ∧ (S_.2.2.1 120 0 (j_)) = (S0_.2.2.1 120 0 (j_)) ∧ (S_.2.2.1 121 0 (j_)) = (S0_.2.2.1 121 0 (j_)) ∧ (S_.2.2.2 122 0 (j_)) = (S0_.2.2.2 122 0 (j_)) ∧ (S_.2.2.1 123 0 (j_)) = (S0_.2.2.1 123 0 (j_))) ∧ True) → ((1300 - k_).toNat) < nn_ → sm_T (mt_P sc_) 2 290 (252, [some (.inr (.inr (some (13, 0)))), some (.inl f_), some (.inl tt_), some (.inl k_), some (.inl c_), none, none], [], S_) (fun r_ => ∃ u_ S1_, r_ = (.inl u_, S1_, 0) ∧ vq_290 f_ b_ n_ p_ t_ S0_ u_ S1_)) ∧ (∀ (tt_ : Int) (k_ : Int) (c_ : Int) (S_ : sm_S), gi S_ → ai_fr (sx_W vw_290) S0_ S_ → ((tt_ = (t_ : Int) ∧ k_ = (p_ : Int) ∧ c_ = rb b_ n_ p_) ∧ (hide (¬ lx_l (b_ p_) ∧ ¬ lx_g (b_ p_))) ∧ ((S_.2.2.1 120 0 (t_)) = (p_ : Int)) ∧ (∀ j_ : Nat, j_ ≠ t_ → (S_.2.2.1 119 0 (j_)) = (S0_.2.2.1 119 0 (j_)) ∧ (S_.2.2.1 120 0 (j_)) = (S0_.2.2.1 120 0 (j_)) ∧ (S_.2.2.1 121 0 (j_)) = (S0_.2.2.1 121 0 (j_)) ∧ (S_.2.2.2 122 0 (j_)) = (S0_.2.2.2 122 0 (j_)) ∧ (S_.2.2.1 123 0 (j_)) = (S0_.2.2.1 123 0 (j_))) ∧ True) → (0) < nn_ → sm_T (mt_P sc_) 2 290 (332, [some (.inr (.inr (some (13, 0)))), some (.inl f_), some (.inl tt_), some (.inl k_), some (.inl c_), none, none], [], S_) (fun r_ => ∃ u_ S1_, r_ = (.inl u_, S1_, 0) ∧ vq_290 f_ b_ n_ p_ t_ S0_ u_ S1_)) := by
  intro nn_
  induction nn_ with
  | zero => exact ⟨fun _ _ _ _ _ _ _ h_ => absurd h_ (Nat.not_lt_zero _), fun _ _ _ _ _ _ _ h_ => absurd h_ (Nat.not_lt_zero _), fun _ _ _ _ _ _ _ h_ => absurd h_ (Nat.not_lt_zero _)⟩
  | succ nn_ ih_ =>
    refine ⟨?_, ?_, ?_⟩
    · rintro tt_ k_ c_ S_ hI_ hF_ ⟨h0_, h1_, h4_, h5_, h6_, -⟩ hm_
      have hb1_ : S_.2.2.1 118 0 = b_ := (fr_arr hF_ rfl).trans hb_
      have hn2_ : (S_.1 13 0 2) = (n_ : Int) := (hF_.1 13 0 2 rfl).trans hn_
      have hbb_ : ∀ k_, -128 ≤ b_ k_ ∧ b_ k_ ≤ 127 := fun k_ => by rw [← hb1_]; exact hI_.2 118 0 k_
      obtain ⟨i_, hk_, hin_, h2_, h3_⟩ := h1_
      have ek_ : k_.toNat = p_ + i_ := by omega
      have ett_ : tt_.toNat = t_ := by omega
      have hbi_ := hbb_ (p_ + i_)
      have hbl_ := rb_l (n := n_) hbi_
      have hbg_ := rb_g (n := n_) hbi_
      refine sm_T_go 2 (c1 := (52, [some (.inr (.inr (some (13, 0)))), some (.inl f_), some (.inl tt_), some (.inl k_), some (.inl c_), none, none], [.inl k_, .inr (.inr (some (13, 0)))], S_)) rfl ?_
      refine sm_T_cal (d1 := 0) (Q1 := vq_282 k_ b_ n_ S_) rfl rfl (by decide) (vc_282 k_ b_ n_ S_ hI_ (by exact hb1_) (by exact hn2_) (by exact hn1_) (by omega)) (fun u_ S1_ p4_ => ?_)
      obtain ⟨rfl, v6_, rfl, p4_⟩ := p4_
      have hc52_ := p4_
      rw [ek_] at hc52_
      refine sm_T_cal (d1 := 0) (Q1 := vq_283 v6_ S_) rfl rfl (by decide) (vc_283 v6_ S_ hI_ ) (fun u_ S7_ p10_ => ?_)
      obtain ⟨rfl, v12_, rfl, p10_⟩ := p10_
      have hl55_ := if01 p10_
      rw [hc52_, hbl_] at hl55_
      refine sm_T_b0 (a := 1) (z := 14) rfl (fun c13_ => ?_) (fun c13_ => ?_)
      · have c13_ : v12_ ≠ 0 := of_decide_eq_true c13_
        refine sm_T_go 2 (c1 := (74, [some (.inr (.inr (some (13, 0)))), some (.inl f_), some (.inl tt_), some (.inl k_), some (.inl c_), none, none], [.inl f_, .inl k_], S_)) rfl ?_
        refine sm_T_bin (w := k_ - f_) rfl (bi_sub (by omega) (by omega) (by omega)) ?_
        refine sm_T_go 6 (c1 := (86, [some (.inr (.inr (some (13, 0)))), some (.inl f_), some (.inl tt_), some (.inl k_), some (.inl c_), some (.inl (k_ - f_)), none], [.inl 8, .inl (k_ - f_), .inl tt_, .inr (.inr (some (122, 0)))], S_)) rfl ?_
        refine sm_T_br (a := 3) (z := 28) rfl (fun c14_ => ?_) (fun c14_ => ?_)
        · have c14_ : 8 ≤ k_ - f_ := of_decide_eq_true c14_
          refine sm_T_go 3 (c1 := (119, [some (.inr (.inr (some (13, 0)))), some (.inl f_), some (.inl tt_), some (.inl k_), some (.inl c_), some (.inl (k_ - f_)), none], [.inl tt_, .inr (.inr (some (122, 0))), .inl tt_, .inr (.inr (some (122, 0)))], S_)) rfl ?_
          refine sm_T_lald (n := 65537) rfl rfl (by omega) (by omega) ?_
          refine sm_T_last (n := 65537) rfl rfl (by omega) (by omega) ?_
          have hI15_ : gi (sm_aL S_ 122 0 tt_.toNat ((S_.2.2.2 122 0 tt_.toNat))) := gi_aL hI_
          have hF16_ : ai_fr (sx_W vw_290) S0_ (sm_aL S_ 122 0 tt_.toNat ((S_.2.2.2 122 0 tt_.toNat))) := ai_fr_tr hF_ (ai_fr_aL rfl)
          refine sm_T_go 5 (c1 := (130, [some (.inr (.inr (some (13, 0)))), some (.inl f_), some (.inl tt_), some (.inl k_), some (.inl c_), some (.inl (k_ - f_)), none], [.inl 8, .inl (k_ - f_), .inl tt_, .inr (.inr (some (123, 0)))], sm_aL S_ 122 0 tt_.toNat ((S_.2.2.2 122 0 tt_.toNat)))) rfl ?_
          refine sm_T_br (a := 2) (z := 37) rfl (fun c17_ => ?_) (fun c17_ => ?_)
          · have c17_ : k_ - f_ < 8 := of_decide_eq_true c17_
            exfalso; omega
          · have c17_ : ¬ (k_ - f_ < 8) := of_decide_eq_false c17_
            refine sm_T_go 2 (c1 := (137, [some (.inr (.inr (some (13, 0)))), some (.inl f_), some (.inl tt_), some (.inl k_), some (.inl c_), some (.inl (k_ - f_)), none], [.inl 12, .inl (k_ - f_), .inl tt_, .inr (.inr (some (123, 0)))], sm_aL S_ 122 0 tt_.toNat ((S_.2.2.2 122 0 tt_.toNat)))) rfl ?_
            refine sm_T_br (a := 3) (z := 30) rfl (fun c18_ => ?_) (fun c18_ => ?_)
            · have c18_ : 12 ≤ k_ - f_ := of_decide_eq_true c18_
              refine sm_T_go 3 (c1 := (172, [some (.inr (.inr (some (13, 0)))), some (.inl f_), some (.inl tt_), some (.inl k_), some (.inl c_), some (.inl (k_ - f_)), none], [.inl tt_, .inr (.inr (some (123, 0))), .inl tt_, .inr (.inr (some (123, 0)))], sm_aL S_ 122 0 tt_.toNat ((S_.2.2.2 122 0 tt_.toNat)))) rfl ?_
              refine sm_T_iald (n := 65537) rfl rfl (by omega) (by omega) ?_
              have b19_ : (-2147483648) ≤ S_.2.2.1 123 0 tt_.toNat ∧ S_.2.2.1 123 0 tt_.toNat ≤ 2147483647 := hI_.2 123 0 _
              refine sm_T_iast (n := 65537) rfl rfl (by omega) (by omega) ?_
              have hI20_ : gi (sm_aI (sm_aL S_ 122 0 tt_.toNat ((S_.2.2.2 122 0 tt_.toNat))) 123 0 tt_.toNat (S_.2.2.1 123 0 tt_.toNat)) := gi_aI hI15_ (show (-2147483648) ≤ (S_.2.2.1 123 0 tt_.toNat) ∧ (S_.2.2.1 123 0 tt_.toNat) ≤ 2147483647 from ⟨by omega, by omega⟩)
              have hF21_ : ai_fr (sx_W vw_290) S0_ (sm_aI (sm_aL S_ 122 0 tt_.toNat ((S_.2.2.2 122 0 tt_.toNat))) 123 0 tt_.toNat (S_.2.2.1 123 0 tt_.toNat)) := ai_fr_tr hF16_ (ai_fr_aI rfl)
              refine sm_T_inc (a := 3) (z := 1) (v := k_) (w := k_ + 1) rfl rfl (by omega) (by omega) (by omega) ?_
              refine sm_T_go 1 (c1 := (50, [some (.inr (.inr (some (13, 0)))), some (.inl f_), some (.inl tt_), some (.inl (k_ + 1)), some (.inl c_), some (.inl (k_ - f_)), none], [], sm_aI (sm_aL S_ 122 0 tt_.toNat ((S_.2.2.2 122 0 tt_.toNat))) 123 0 tt_.toNat (S_.2.2.1 123 0 tt_.toNat))) rfl ?_
              refine sm_T_wk [some (.inr (.inr (some (13, 0)))), some (.inl f_), some (.inl tt_), some (.inl (k_ + 1)), some (.inl c_), none, none] (by exact ⟨rfl, rfl, rfl, rfl, rfl, trivial⟩) ?_
              refine ih_.1 tt_ (k_ + 1) c_ (sm_aI (sm_aL S_ 122 0 tt_.toNat ((S_.2.2.2 122 0 tt_.toNat))) 123 0 tt_.toNat (S_.2.2.1 123 0 tt_.toNat)) hI20_ hF21_ ⟨?_, ?_, ?_, ?_, ?_, trivial⟩ ?_
              · exact h0_
              · refine ⟨i_ + 1, by omega, by omega, ?_, ?_⟩
                · rw [← h2_, lx_e_go (p := p_ + i_)]
                  rw [if_pos (by omega)]; rfl
                · intro j_ hj_; by_cases hq_ : j_ = i_
                  · rw [hq_]; omega
                  · exact h3_ j_ (by omega)
              · have e5_ : (k_ - p_).toNat = i_ := by omega
                rw [show (k_ + 1 - p_).toNat = i_ + 1 by omega]
                rw [e5_] at h4_
                (try simp only [rd_eq, rd_ne, rf_eq, rf_nk, rf_nt, rd_fa, rd_af, rd_fl, rd_al, rd_lf, rd_la, rd_leq, rd_lne, rd_fr, rd_ar, ne_eq, Nat.reduceEqDiff, not_false_eq_true])
                simp only [ett_, if_true, reduceIte]
                have hbv_ : ∀ v_ : Int, v_ = rb b_ n_ (p_ + i_) → v_ = b_ (p_ + i_) := by intro v_ hv_; rw [hv_]; unfold rb; rw [if_pos (by omega)]; omega
                refine ⟨?_, ?_⟩
                · unfold rk1; first | (rw [if_pos (by omega)]; exact congr (congrArg l_4 h4_.1) (congr (congrArg l_s0 (congrArg l_i2l (hbv_ _ (by assumption)))) (by omega))) | (rw [if_neg (by omega)]; exact h4_.1)
                · unfold rk2; first | (rw [if_pos (by omega)]; exact congr (congrArg i_or h4_.2) (congr (congrArg i_shl (hbv_ _ (by assumption))) (by omega))) | (rw [if_neg (by omega)]; exact h4_.2)
              · (try simp only [rd_eq, rd_ne, rf_eq, rf_nk, rf_nt, rd_fa, rd_af, rd_fl, rd_al, rd_lf, rd_la, rd_leq, rd_lne, rd_fr, rd_ar, ne_eq, Nat.reduceEqDiff, not_false_eq_true])
                exact h5_
              · intro j_ hj_
                have hu_ := h6_ j_ hj_
                (try simp only [rd_eq, rd_ne, rf_eq, rf_nk, rf_nt, rd_fa, rd_af, rd_fl, rd_al, rd_lf, rd_la, rd_leq, rd_lne, rd_fr, rd_ar, ne_eq, Nat.reduceEqDiff, not_false_eq_true])
                simp only [ett_, if_neg hj_]
                exact hu_
              · omega
            · have c18_ : ¬ (12 ≤ k_ - f_) := of_decide_eq_false c18_
              refine sm_T_go 3 (c1 := (145, [some (.inr (.inr (some (13, 0)))), some (.inl f_), some (.inl tt_), some (.inl k_), some (.inl c_), some (.inl (k_ - f_)), none], [.inl tt_, .inr (.inr (some (123, 0))), .inl tt_, .inr (.inr (some (123, 0)))], sm_aL S_ 122 0 tt_.toNat ((S_.2.2.2 122 0 tt_.toNat)))) rfl ?_
              refine sm_T_iald (n := 65537) rfl rfl (by omega) (by omega) ?_
              have b22_ : (-2147483648) ≤ S_.2.2.1 123 0 tt_.toNat ∧ S_.2.2.1 123 0 tt_.toNat ≤ 2147483647 := hI_.2 123 0 _
              refine sm_T_go 2 (c1 := (148, [some (.inr (.inr (some (13, 0)))), some (.inl f_), some (.inl tt_), some (.inl k_), some (.inl c_), some (.inl (k_ - f_)), none], [.inl k_, .inr (.inr (some (13, 0))), .inl (S_.2.2.1 123 0 tt_.toNat), .inl tt_, .inr (.inr (some (123, 0)))], sm_aL S_ 122 0 tt_.toNat ((S_.2.2.2 122 0 tt_.toNat)))) rfl ?_
              refine sm_T_cal (d1 := 0) (Q1 := vq_282 k_ b_ n_ (sm_aL S_ 122 0 tt_.toNat ((S_.2.2.2 122 0 tt_.toNat)))) rfl rfl (by decide) (vc_282 k_ b_ n_ (sm_aL S_ 122 0 tt_.toNat ((S_.2.2.2 122 0 tt_.toNat))) hI15_ (by exact hb1_) (by exact hn2_) (by exact hn1_) (by omega)) (fun u_ S23_ p26_ => ?_)
              obtain ⟨rfl, v28_, rfl, p26_⟩ := p26_
              have hc148_ := p26_
              rw [ek_] at hc148_
              refine sm_T_go 4 (c1 := (159, [some (.inr (.inr (some (13, 0)))), some (.inl f_), some (.inl tt_), some (.inl k_), some (.inl c_), some (.inl (k_ - f_)), none], [.inl 8, .inl (k_ - f_), .inl 8, .inl 24, .inl v28_, .inl (S_.2.2.1 123 0 tt_.toNat), .inl tt_, .inr (.inr (some (123, 0)))], sm_aL S_ 122 0 tt_.toNat ((S_.2.2.2 122 0 tt_.toNat)))) rfl ?_
              refine sm_T_bin (w := k_ - f_ - 8) rfl (bi_sub (by omega) (by omega) (by omega)) ?_
              refine sm_T_bin (w := 8 * k_ - 8 * f_ - 64) rfl (bi_mul (by omega) (by omega) (by omega)) ?_
              refine sm_T_bin (w := -(8 * k_) + 8 * f_ + 88) rfl (bi_sub (by omega) (by omega) (by omega)) ?_
              refine sm_T_bin (w := (i_shl v28_ (-(8 * k_) + 8 * f_ + 88))) rfl rfl ?_
              refine sm_T_bin (w := (i_or (S_.2.2.1 123 0 tt_.toNat) (i_shl v28_ (-(8 * k_) + 8 * f_ + 88)))) rfl rfl ?_
              have b29_ := i_or_n (S_.2.2.1 123 0 tt_.toNat) (i_shl v28_ (-(8 * k_) + 8 * f_ + 88))
              refine sm_T_go 1 (c1 := (173, [some (.inr (.inr (some (13, 0)))), some (.inl f_), some (.inl tt_), some (.inl k_), some (.inl c_), some (.inl (k_ - f_)), none], [.inl (i_or (S_.2.2.1 123 0 tt_.toNat) (i_shl v28_ (-(8 * k_) + 8 * f_ + 88))), .inl tt_, .inr (.inr (some (123, 0)))], sm_aL S_ 122 0 tt_.toNat ((S_.2.2.2 122 0 tt_.toNat)))) rfl ?_
              refine sm_T_iast (n := 65537) rfl rfl (by omega) (by omega) ?_
              have hI30_ : gi (sm_aI (sm_aL S_ 122 0 tt_.toNat ((S_.2.2.2 122 0 tt_.toNat))) 123 0 tt_.toNat (i_or (S_.2.2.1 123 0 tt_.toNat) (i_shl v28_ (-(8 * k_) + 8 * f_ + 88)))) := gi_aI hI15_ (show (-2147483648) ≤ (i_or (S_.2.2.1 123 0 tt_.toNat) (i_shl v28_ (-(8 * k_) + 8 * f_ + 88))) ∧ (i_or (S_.2.2.1 123 0 tt_.toNat) (i_shl v28_ (-(8 * k_) + 8 * f_ + 88))) ≤ 2147483647 from ⟨by omega, by omega⟩)
              have hF31_ : ai_fr (sx_W vw_290) S0_ (sm_aI (sm_aL S_ 122 0 tt_.toNat ((S_.2.2.2 122 0 tt_.toNat))) 123 0 tt_.toNat (i_or (S_.2.2.1 123 0 tt_.toNat) (i_shl v28_ (-(8 * k_) + 8 * f_ + 88)))) := ai_fr_tr hF16_ (ai_fr_aI rfl)
              refine sm_T_inc (a := 3) (z := 1) (v := k_) (w := k_ + 1) rfl rfl (by omega) (by omega) (by omega) ?_
              refine sm_T_go 1 (c1 := (50, [some (.inr (.inr (some (13, 0)))), some (.inl f_), some (.inl tt_), some (.inl (k_ + 1)), some (.inl c_), some (.inl (k_ - f_)), none], [], sm_aI (sm_aL S_ 122 0 tt_.toNat ((S_.2.2.2 122 0 tt_.toNat))) 123 0 tt_.toNat (i_or (S_.2.2.1 123 0 tt_.toNat) (i_shl v28_ (-(8 * k_) + 8 * f_ + 88))))) rfl ?_
              refine sm_T_wk [some (.inr (.inr (some (13, 0)))), some (.inl f_), some (.inl tt_), some (.inl (k_ + 1)), some (.inl c_), none, none] (by exact ⟨rfl, rfl, rfl, rfl, rfl, trivial⟩) ?_
              refine ih_.1 tt_ (k_ + 1) c_ (sm_aI (sm_aL S_ 122 0 tt_.toNat ((S_.2.2.2 122 0 tt_.toNat))) 123 0 tt_.toNat (i_or (S_.2.2.1 123 0 tt_.toNat) (i_shl v28_ (-(8 * k_) + 8 * f_ + 88)))) hI30_ hF31_ ⟨?_, ?_, ?_, ?_, ?_, trivial⟩ ?_
              · exact h0_
              · refine ⟨i_ + 1, by omega, by omega, ?_, ?_⟩
                · rw [← h2_, lx_e_go (p := p_ + i_)]
                  rw [if_pos (by omega)]; rfl
                · intro j_ hj_; by_cases hq_ : j_ = i_
                  · rw [hq_]; omega
                  · exact h3_ j_ (by omega)
              · have e5_ : (k_ - p_).toNat = i_ := by omega
                rw [show (k_ + 1 - p_).toNat = i_ + 1 by omega]
                rw [e5_] at h4_
                (try simp only [rd_eq, rd_ne, rf_eq, rf_nk, rf_nt, rd_fa, rd_af, rd_fl, rd_al, rd_lf, rd_la, rd_leq, rd_lne, rd_fr, rd_ar, ne_eq, Nat.reduceEqDiff, not_false_eq_true])
                simp only [ett_, if_true, reduceIte]
                have hbv_ : ∀ v_ : Int, v_ = rb b_ n_ (p_ + i_) → v_ = b_ (p_ + i_) := by intro v_ hv_; rw [hv_]; unfold rb; rw [if_pos (by omega)]; omega
                refine ⟨?_, ?_⟩
                · unfold rk1; first | (rw [if_pos (by omega)]; exact congr (congrArg l_4 h4_.1) (congr (congrArg l_s0 (congrArg l_i2l (hbv_ _ (by assumption)))) (by omega))) | (rw [if_neg (by omega)]; exact h4_.1)
                · unfold rk2; first | (rw [if_pos (by omega)]; exact congr (congrArg i_or h4_.2) (congr (congrArg i_shl (hbv_ _ (by assumption))) (by omega))) | (rw [if_neg (by omega)]; exact h4_.2)
              · (try simp only [rd_eq, rd_ne, rf_eq, rf_nk, rf_nt, rd_fa, rd_af, rd_fl, rd_al, rd_lf, rd_la, rd_leq, rd_lne, rd_fr, rd_ar, ne_eq, Nat.reduceEqDiff, not_false_eq_true])
                exact h5_
              · intro j_ hj_
                have hu_ := h6_ j_ hj_
                (try simp only [rd_eq, rd_ne, rf_eq, rf_nk, rf_nt, rd_fa, rd_af, rd_fl, rd_al, rd_lf, rd_la, rd_leq, rd_lne, rd_fr, rd_ar, ne_eq, Nat.reduceEqDiff, not_false_eq_true])
                simp only [ett_, if_neg hj_]
                exact hu_
              · omega
        · have c14_ : ¬ (8 ≤ k_ - f_) := of_decide_eq_false c14_
          refine sm_T_go 3 (c1 := (94, [some (.inr (.inr (some (13, 0)))), some (.inl f_), some (.inl tt_), some (.inl k_), some (.inl c_), some (.inl (k_ - f_)), none], [.inl tt_, .inr (.inr (some (122, 0))), .inl tt_, .inr (.inr (some (122, 0)))], S_)) rfl ?_
          refine sm_T_lald (n := 65537) rfl rfl (by omega) (by omega) ?_
          refine sm_T_go 2 (c1 := (97, [some (.inr (.inr (some (13, 0)))), some (.inl f_), some (.inl tt_), some (.inl k_), some (.inl c_), some (.inl (k_ - f_)), none], [.inl k_, .inr (.inr (some (13, 0))), .inr (.inl (S_.2.2.2 122 0 tt_.toNat)), .inl tt_, .inr (.inr (some (122, 0)))], S_)) rfl ?_
          refine sm_T_cal (d1 := 0) (Q1 := vq_282 k_ b_ n_ S_) rfl rfl (by decide) (vc_282 k_ b_ n_ S_ hI_ (by exact hb1_) (by exact hn2_) (by exact hn1_) (by omega)) (fun u_ S32_ p35_ => ?_)
          obtain ⟨rfl, v37_, rfl, p35_⟩ := p35_
          have hc97_ := p35_
          rw [ek_] at hc97_
          refine sm_T_go 4 (c1 := (107, [some (.inr (.inr (some (13, 0)))), some (.inl f_), some (.inl tt_), some (.inl k_), some (.inl c_), some (.inl (k_ - f_)), none], [.inl (k_ - f_), .inl 8, .inl 56, .inr (.inl (l_i2l v37_)), .inr (.inl (S_.2.2.2 122 0 tt_.toNat)), .inl tt_, .inr (.inr (some (122, 0)))], S_)) rfl ?_
          refine sm_T_bin (w := 8 * k_ - 8 * f_) rfl (bi_mul (by omega) (by omega) (by omega)) ?_
          refine sm_T_bin (w := -(8 * k_) + 8 * f_ + 56) rfl (bi_sub (by omega) (by omega) (by omega)) ?_
          refine sm_T_go 3 (c1 := (120, [some (.inr (.inr (some (13, 0)))), some (.inl f_), some (.inl tt_), some (.inl k_), some (.inl c_), some (.inl (k_ - f_)), none], [.inr (.inl (l_4 ((S_.2.2.2 122 0 tt_.toNat)) ((l_s0 ((l_i2l v37_)) (-(8 * k_) + 8 * f_ + 56))))), .inl tt_, .inr (.inr (some (122, 0)))], S_)) rfl ?_
          refine sm_T_last (n := 65537) rfl rfl (by omega) (by omega) ?_
          have hI38_ : gi (sm_aL S_ 122 0 tt_.toNat ((l_4 ((S_.2.2.2 122 0 tt_.toNat)) ((l_s0 ((l_i2l v37_)) (-(8 * k_) + 8 * f_ + 56)))))) := gi_aL hI_
          have hF39_ : ai_fr (sx_W vw_290) S0_ (sm_aL S_ 122 0 tt_.toNat ((l_4 ((S_.2.2.2 122 0 tt_.toNat)) ((l_s0 ((l_i2l v37_)) (-(8 * k_) + 8 * f_ + 56)))))) := ai_fr_tr hF_ (ai_fr_aL rfl)
          refine sm_T_go 5 (c1 := (130, [some (.inr (.inr (some (13, 0)))), some (.inl f_), some (.inl tt_), some (.inl k_), some (.inl c_), some (.inl (k_ - f_)), none], [.inl 8, .inl (k_ - f_), .inl tt_, .inr (.inr (some (123, 0)))], sm_aL S_ 122 0 tt_.toNat ((l_4 ((S_.2.2.2 122 0 tt_.toNat)) ((l_s0 ((l_i2l v37_)) (-(8 * k_) + 8 * f_ + 56))))))) rfl ?_
          refine sm_T_br (a := 2) (z := 37) rfl (fun c40_ => ?_) (fun c40_ => ?_)
          · have c40_ : k_ - f_ < 8 := of_decide_eq_true c40_
            refine sm_T_go 3 (c1 := (172, [some (.inr (.inr (some (13, 0)))), some (.inl f_), some (.inl tt_), some (.inl k_), some (.inl c_), some (.inl (k_ - f_)), none], [.inl tt_, .inr (.inr (some (123, 0))), .inl tt_, .inr (.inr (some (123, 0)))], sm_aL S_ 122 0 tt_.toNat ((l_4 ((S_.2.2.2 122 0 tt_.toNat)) ((l_s0 ((l_i2l v37_)) (-(8 * k_) + 8 * f_ + 56))))))) rfl ?_
            refine sm_T_iald (n := 65537) rfl rfl (by omega) (by omega) ?_
            have b41_ : (-2147483648) ≤ S_.2.2.1 123 0 tt_.toNat ∧ S_.2.2.1 123 0 tt_.toNat ≤ 2147483647 := hI_.2 123 0 _
            refine sm_T_iast (n := 65537) rfl rfl (by omega) (by omega) ?_
            have hI42_ : gi (sm_aI (sm_aL S_ 122 0 tt_.toNat ((l_4 ((S_.2.2.2 122 0 tt_.toNat)) ((l_s0 ((l_i2l v37_)) (-(8 * k_) + 8 * f_ + 56)))))) 123 0 tt_.toNat (S_.2.2.1 123 0 tt_.toNat)) := gi_aI hI38_ (show (-2147483648) ≤ (S_.2.2.1 123 0 tt_.toNat) ∧ (S_.2.2.1 123 0 tt_.toNat) ≤ 2147483647 from ⟨by omega, by omega⟩)
            have hF43_ : ai_fr (sx_W vw_290) S0_ (sm_aI (sm_aL S_ 122 0 tt_.toNat ((l_4 ((S_.2.2.2 122 0 tt_.toNat)) ((l_s0 ((l_i2l v37_)) (-(8 * k_) + 8 * f_ + 56)))))) 123 0 tt_.toNat (S_.2.2.1 123 0 tt_.toNat)) := ai_fr_tr hF39_ (ai_fr_aI rfl)
            refine sm_T_inc (a := 3) (z := 1) (v := k_) (w := k_ + 1) rfl rfl (by omega) (by omega) (by omega) ?_
            refine sm_T_go 1 (c1 := (50, [some (.inr (.inr (some (13, 0)))), some (.inl f_), some (.inl tt_), some (.inl (k_ + 1)), some (.inl c_), some (.inl (k_ - f_)), none], [], sm_aI (sm_aL S_ 122 0 tt_.toNat ((l_4 ((S_.2.2.2 122 0 tt_.toNat)) ((l_s0 ((l_i2l v37_)) (-(8 * k_) + 8 * f_ + 56)))))) 123 0 tt_.toNat (S_.2.2.1 123 0 tt_.toNat))) rfl ?_
            refine sm_T_wk [some (.inr (.inr (some (13, 0)))), some (.inl f_), some (.inl tt_), some (.inl (k_ + 1)), some (.inl c_), none, none] (by exact ⟨rfl, rfl, rfl, rfl, rfl, trivial⟩) ?_
            refine ih_.1 tt_ (k_ + 1) c_ (sm_aI (sm_aL S_ 122 0 tt_.toNat ((l_4 ((S_.2.2.2 122 0 tt_.toNat)) ((l_s0 ((l_i2l v37_)) (-(8 * k_) + 8 * f_ + 56)))))) 123 0 tt_.toNat (S_.2.2.1 123 0 tt_.toNat)) hI42_ hF43_ ⟨?_, ?_, ?_, ?_, ?_, trivial⟩ ?_
            · exact h0_
            · refine ⟨i_ + 1, by omega, by omega, ?_, ?_⟩
              · rw [← h2_, lx_e_go (p := p_ + i_)]
                rw [if_pos (by omega)]; rfl
              · intro j_ hj_; by_cases hq_ : j_ = i_
                · rw [hq_]; omega
                · exact h3_ j_ (by omega)
            · have e5_ : (k_ - p_).toNat = i_ := by omega
              rw [show (k_ + 1 - p_).toNat = i_ + 1 by omega]
              rw [e5_] at h4_
              (try simp only [rd_eq, rd_ne, rf_eq, rf_nk, rf_nt, rd_fa, rd_af, rd_fl, rd_al, rd_lf, rd_la, rd_leq, rd_lne, rd_fr, rd_ar, ne_eq, Nat.reduceEqDiff, not_false_eq_true])
              simp only [ett_, if_true, reduceIte]
              have hbv_ : ∀ v_ : Int, v_ = rb b_ n_ (p_ + i_) → v_ = b_ (p_ + i_) := by intro v_ hv_; rw [hv_]; unfold rb; rw [if_pos (by omega)]; omega
              refine ⟨?_, ?_⟩
              · unfold rk1; first | (rw [if_pos (by omega)]; exact congr (congrArg l_4 h4_.1) (congr (congrArg l_s0 (congrArg l_i2l (hbv_ _ (by assumption)))) (by omega))) | (rw [if_neg (by omega)]; exact h4_.1)
              · unfold rk2; first | (rw [if_pos (by omega)]; exact congr (congrArg i_or h4_.2) (congr (congrArg i_shl (hbv_ _ (by assumption))) (by omega))) | (rw [if_neg (by omega)]; exact h4_.2)
            · (try simp only [rd_eq, rd_ne, rf_eq, rf_nk, rf_nt, rd_fa, rd_af, rd_fl, rd_al, rd_lf, rd_la, rd_leq, rd_lne, rd_fr, rd_ar, ne_eq, Nat.reduceEqDiff, not_false_eq_true])
              exact h5_
            · intro j_ hj_
              have hu_ := h6_ j_ hj_
              (try simp only [rd_eq, rd_ne, rf_eq, rf_nk, rf_nt, rd_fa, rd_af, rd_fl, rd_al, rd_lf, rd_la, rd_leq, rd_lne, rd_fr, rd_ar, ne_eq, Nat.reduceEqDiff, not_false_eq_true])
              simp only [ett_, if_neg hj_]
              exact hu_
            · omega
          · have c40_ : ¬ (k_ - f_ < 8) := of_decide_eq_false c40_
            exfalso; omega
      · have c13_ : ¬ (v12_ ≠ 0) := of_decide_eq_false c13_
        refine sm_T_go 2 (c1 := (63, [some (.inr (.inr (some (13, 0)))), some (.inl f_), some (.inl tt_), some (.inl k_), some (.inl c_), none, none], [.inl k_, .inr (.inr (some (13, 0)))], S_)) rfl ?_
        refine sm_T_cal (d1 := 0) (Q1 := vq_282 k_ b_ n_ S_) rfl rfl (by decide) (vc_282 k_ b_ n_ S_ hI_ (by exact hb1_) (by exact hn2_) (by exact hn1_) (by omega)) (fun u_ S44_ p47_ => ?_)
        obtain ⟨rfl, v49_, rfl, p47_⟩ := p47_
        have hc63_ := p47_
        rw [ek_] at hc63_
        refine sm_T_cal (d1 := 0) (Q1 := vq_284 v49_ S_) rfl rfl (by decide) (vc_284 v49_ S_ hI_ ) (fun u_ S50_ p53_ => ?_)
        obtain ⟨rfl, v55_, rfl, p53_⟩ := p53_
        have hg66_ := if01 p53_
        rw [hc63_, hbg_] at hg66_
        refine sm_T_b0 (a := 0) (z := 111) rfl (fun c56_ => ?_) (fun c56_ => ?_)
        · have c56_ : v55_ = 0 := of_decide_eq_true c56_
          refine sm_T_go 6 (c1 := (190, [some (.inr (.inr (some (13, 0)))), some (.inl f_), some (.inl tt_), some (.inl k_), some (.inl c_), none, none], [.inl tt_, .inr (.inr (some (123, 0))), .inl tt_, .inr (.inr (some (121, 0)))], S_)) rfl ?_
          refine sm_T_iald (n := 65537) rfl rfl (by omega) (by omega) ?_
          have b57_ : (-2147483648) ≤ S_.2.2.1 123 0 tt_.toNat ∧ S_.2.2.1 123 0 tt_.toNat ≤ 2147483647 := hI_.2 123 0 _
          refine sm_T_b0 (a := 1) (z := 15) rfl (fun c58_ => ?_) (fun c58_ => ?_)
          · have c58_ : (S_.2.2.1 123 0 tt_.toNat) ≠ 0 := of_decide_eq_true c58_
            refine sm_T_go 1 (c1 := (207, [some (.inr (.inr (some (13, 0)))), some (.inl f_), some (.inl tt_), some (.inl k_), some (.inl c_), none, none], [.inl 0, .inl tt_, .inr (.inr (some (121, 0)))], S_)) rfl ?_
            refine sm_T_iast (n := 65537) rfl rfl (by omega) (by omega) ?_
            have hI59_ : gi (sm_aI S_ 121 0 tt_.toNat 0) := gi_aI hI_ (show (-2147483648) ≤ 0 ∧ 0 ≤ 2147483647 from ⟨by omega, by omega⟩)
            have hF60_ : ai_fr (sx_W vw_290) S0_ (sm_aI S_ 121 0 tt_.toNat 0) := ai_fr_tr hF_ (ai_fr_aI rfl)
            refine sm_T_go 5 (c1 := (215, [some (.inr (.inr (some (13, 0)))), some (.inl f_), some (.inl tt_), some (.inl k_), some (.inl c_), none, none], [.inl f_, .inl k_, .inl tt_, .inr (.inr (some (119, 0)))], sm_aI S_ 121 0 tt_.toNat 0)) rfl ?_
            refine sm_T_bin (w := k_ - f_) rfl (bi_sub (by omega) (by omega) (by omega)) ?_
            refine sm_T_go 1 (c1 := (218, [some (.inr (.inr (some (13, 0)))), some (.inl f_), some (.inl tt_), some (.inl k_), some (.inl c_), none, none], [.inl 12, .inl (k_ - f_), .inl tt_, .inr (.inr (some (119, 0)))], sm_aI S_ 121 0 tt_.toNat 0)) rfl ?_
            refine sm_T_br (a := 5) (z := 7) rfl (fun c61_ => ?_) (fun c61_ => ?_)
            · have c61_ : k_ - f_ ≤ 12 := of_decide_eq_true c61_
              refine sm_T_go 3 (c1 := (230, [some (.inr (.inr (some (13, 0)))), some (.inl f_), some (.inl tt_), some (.inl k_), some (.inl c_), none, none], [.inl tt_, .inr (.inr (some (121, 0))), .inl tt_, .inr (.inr (some (119, 0)))], sm_aI S_ 121 0 tt_.toNat 0)) rfl ?_
              refine sm_T_iald (n := 65537) rfl rfl (by omega) (by omega) ?_
              have b62_ : (-2147483648) ≤ (sm_aI S_ 121 0 tt_.toNat 0).2.2.1 121 0 tt_.toNat ∧ (sm_aI S_ 121 0 tt_.toNat 0).2.2.1 121 0 tt_.toNat ≤ 2147483647 := hI59_.2 121 0 _
              refine sm_T_b0 (a := 5) (z := 8) rfl (fun c63_ => ?_) (fun c63_ => ?_)
              · have c63_ : ((sm_aI S_ 121 0 tt_.toNat 0).2.2.1 121 0 tt_.toNat) ≤ 0 := of_decide_eq_true c63_
                refine sm_T_go 2 (c1 := (241, [some (.inr (.inr (some (13, 0)))), some (.inl f_), some (.inl tt_), some (.inl k_), some (.inl c_), none, none], [.inl 1, .inl tt_, .inr (.inr (some (119, 0)))], sm_aI S_ 121 0 tt_.toNat 0)) rfl ?_
                refine sm_T_bas1 (n := 65537) rfl rfl (by omega) (by omega) (by decide) ?_
                have hI64_ : gi (sm_aI (sm_aI S_ 121 0 tt_.toNat 0) 119 0 tt_.toNat 1) := gi_aI hI59_ (show (-128) ≤ 1 ∧ 1 ≤ 127 from ⟨by omega, by omega⟩)
                have hF65_ : ai_fr (sx_W vw_290) S0_ (sm_aI (sm_aI S_ 121 0 tt_.toNat 0) 119 0 tt_.toNat 1) := ai_fr_tr hF60_ (ai_fr_aI rfl)
                refine sm_T_go 1 (c1 := (243, [some (.inr (.inr (some (13, 0)))), some (.inl f_), some (.inl tt_), some (.inl k_), some (.inl c_), none, none], [.inl k_], sm_aI (sm_aI S_ 121 0 tt_.toNat 0) 119 0 tt_.toNat 1)) rfl ?_
                refine sm_T_ri rfl ⟨_, _, rfl, _, rfl, hI64_, hF65_, ?_⟩
                have e4_ : lx_ne b_ n_ p_ = p_ + i_ := by rw [← h2_, lx_e_go]; exact if_neg (by omega)
                have hr_ := fun j_ hj_ => lx_x_b (h3_ j_ hj_)
                have e5_ : (k_ - p_).toNat = i_ := by omega
                rw [e5_] at h4_
                have hkd_ : lx_kd b_ n_ p_ = if i_ ≤ 12 then lx_wk (lx_pk b_ p_ i_) 7 else -1 := by unfold lx_kd; rw [if_neg (by omega), if_pos h0_.2, e4_, show p_ + i_ - p_ = i_ by omega]
                have hsz_ : lx_sz b_ n_ p_ = i_ := by unfold lx_sz; rw [if_neg (by omega), if_pos h0_.2, e4_]; omega
                have hen_ : lx_en b_ n_ p_ = p_ + i_ := by unfold lx_en; rw [if_neg (by omega), if_pos h0_.2, e4_]
                have hw7_ := lx_wk_7 (lx_pk b_ p_ i_)
                have wb := fun hi_ => w_both (b := b_) (p := p_) (L := i_) hi_ hr_
                (try simp only [rd_eq, rd_ne, rf_eq, rf_nk, rf_nt, rd_fa, rd_af, rd_fl, rd_al, rd_lf, rd_la, rd_leq, rd_lne, rd_fr, rd_ar, ne_eq, Nat.reduceEqDiff, not_false_eq_true] at *)
                simp only [ett_, if_true, reduceIte] at *
                first | (have hN_ := fun hi_ => ((if_neg (show ¬ rk2 b_ p_ i_ = 0 by omega)).symm.trans (wb hi_))) | (have hN_ := fun hi_ => ((if_pos (show rk2 b_ p_ i_ = 0 by omega)).symm.trans (wb hi_)); rw [← h4_.1, ← hwo_] at hN_)
                refine ⟨by omega, ⟨h5_.2, ?_, ?_, ?_⟩, ?_⟩
                · first | (rw [hkd_, if_neg (by omega)]; rfl) | (rw [hkd_, if_pos (by omega)]; exact tk_s1 hw7_ (hN_ (by omega)) (by omega)) | (rw [hkd_, if_pos (by omega)]; exact tk_s6 hw7_ (hN_ (by omega)) (by omega))
                · intro hx_; rw [hkd_] at hx_ ⊢; by_cases hi_ : i_ ≤ 12
                  · rw [if_pos hi_]; first | exact tk_n hw7_ (hN_ hi_) | (exfalso; omega)
                  · exact absurd (if_neg hi_) hx_
                · rw [hsz_]; intro _; exact h4_
                · intro j_ hj_; have hu_ := h6_ j_ hj_; simp only [if_neg hj_]; exact hu_
              · have c63_ : ¬ (((sm_aI S_ 121 0 tt_.toNat 0).2.2.1 121 0 tt_.toNat) ≤ 0) := of_decide_eq_false c63_
                refine sm_T_go 3 (c1 := (241, [some (.inr (.inr (some (13, 0)))), some (.inl f_), some (.inl tt_), some (.inl k_), some (.inl c_), none, none], [.inl 6, .inl tt_, .inr (.inr (some (119, 0)))], sm_aI S_ 121 0 tt_.toNat 0)) rfl ?_
                refine sm_T_bas1 (n := 65537) rfl rfl (by omega) (by omega) (by decide) ?_
                have hI66_ : gi (sm_aI (sm_aI S_ 121 0 tt_.toNat 0) 119 0 tt_.toNat 6) := gi_aI hI59_ (show (-128) ≤ 6 ∧ 6 ≤ 127 from ⟨by omega, by omega⟩)
                have hF67_ : ai_fr (sx_W vw_290) S0_ (sm_aI (sm_aI S_ 121 0 tt_.toNat 0) 119 0 tt_.toNat 6) := ai_fr_tr hF60_ (ai_fr_aI rfl)
                refine sm_T_go 1 (c1 := (243, [some (.inr (.inr (some (13, 0)))), some (.inl f_), some (.inl tt_), some (.inl k_), some (.inl c_), none, none], [.inl k_], sm_aI (sm_aI S_ 121 0 tt_.toNat 0) 119 0 tt_.toNat 6)) rfl ?_
                refine sm_T_ri rfl ⟨_, _, rfl, _, rfl, hI66_, hF67_, ?_⟩
                have e4_ : lx_ne b_ n_ p_ = p_ + i_ := by rw [← h2_, lx_e_go]; exact if_neg (by omega)
                have hr_ := fun j_ hj_ => lx_x_b (h3_ j_ hj_)
                have e5_ : (k_ - p_).toNat = i_ := by omega
                rw [e5_] at h4_
                have hkd_ : lx_kd b_ n_ p_ = if i_ ≤ 12 then lx_wk (lx_pk b_ p_ i_) 7 else -1 := by unfold lx_kd; rw [if_neg (by omega), if_pos h0_.2, e4_, show p_ + i_ - p_ = i_ by omega]
                have hsz_ : lx_sz b_ n_ p_ = i_ := by unfold lx_sz; rw [if_neg (by omega), if_pos h0_.2, e4_]; omega
                have hen_ : lx_en b_ n_ p_ = p_ + i_ := by unfold lx_en; rw [if_neg (by omega), if_pos h0_.2, e4_]
                have hw7_ := lx_wk_7 (lx_pk b_ p_ i_)
                have wb := fun hi_ => w_both (b := b_) (p := p_) (L := i_) hi_ hr_
                (try simp only [rd_eq, rd_ne, rf_eq, rf_nk, rf_nt, rd_fa, rd_af, rd_fl, rd_al, rd_lf, rd_la, rd_leq, rd_lne, rd_fr, rd_ar, ne_eq, Nat.reduceEqDiff, not_false_eq_true] at *)
                simp only [ett_, if_true, reduceIte] at *
                first | (have hN_ := fun hi_ => ((if_neg (show ¬ rk2 b_ p_ i_ = 0 by omega)).symm.trans (wb hi_))) | (have hN_ := fun hi_ => ((if_pos (show rk2 b_ p_ i_ = 0 by omega)).symm.trans (wb hi_)); rw [← h4_.1, ← hwo_] at hN_)
                refine ⟨by omega, ⟨h5_.2, ?_, ?_, ?_⟩, ?_⟩
                · first | (rw [hkd_, if_neg (by omega)]; rfl) | (rw [hkd_, if_pos (by omega)]; exact tk_s1 hw7_ (hN_ (by omega)) (by omega)) | (rw [hkd_, if_pos (by omega)]; exact tk_s6 hw7_ (hN_ (by omega)) (by omega))
                · intro hx_; rw [hkd_] at hx_ ⊢; by_cases hi_ : i_ ≤ 12
                  · rw [if_pos hi_]; first | exact tk_n hw7_ (hN_ hi_) | (exfalso; omega)
                  · exact absurd (if_neg hi_) hx_
                · rw [hsz_]; intro _; exact h4_
                · intro j_ hj_; have hu_ := h6_ j_ hj_; simp only [if_neg hj_]; exact hu_
            · have c61_ : ¬ (k_ - f_ ≤ 12) := of_decide_eq_false c61_
              refine sm_T_go 3 (c1 := (241, [some (.inr (.inr (some (13, 0)))), some (.inl f_), some (.inl tt_), some (.inl k_), some (.inl c_), none, none], [.inl 4, .inl tt_, .inr (.inr (some (119, 0)))], sm_aI S_ 121 0 tt_.toNat 0)) rfl ?_
              refine sm_T_bas1 (n := 65537) rfl rfl (by omega) (by omega) (by decide) ?_
              have hI68_ : gi (sm_aI (sm_aI S_ 121 0 tt_.toNat 0) 119 0 tt_.toNat 4) := gi_aI hI59_ (show (-128) ≤ 4 ∧ 4 ≤ 127 from ⟨by omega, by omega⟩)
              have hF69_ : ai_fr (sx_W vw_290) S0_ (sm_aI (sm_aI S_ 121 0 tt_.toNat 0) 119 0 tt_.toNat 4) := ai_fr_tr hF60_ (ai_fr_aI rfl)
              refine sm_T_go 1 (c1 := (243, [some (.inr (.inr (some (13, 0)))), some (.inl f_), some (.inl tt_), some (.inl k_), some (.inl c_), none, none], [.inl k_], sm_aI (sm_aI S_ 121 0 tt_.toNat 0) 119 0 tt_.toNat 4)) rfl ?_
              refine sm_T_ri rfl ⟨_, _, rfl, _, rfl, hI68_, hF69_, ?_⟩
              have e4_ : lx_ne b_ n_ p_ = p_ + i_ := by rw [← h2_, lx_e_go]; exact if_neg (by omega)
              have hr_ := fun j_ hj_ => lx_x_b (h3_ j_ hj_)
              have e5_ : (k_ - p_).toNat = i_ := by omega
              rw [e5_] at h4_
              have hkd_ : lx_kd b_ n_ p_ = if i_ ≤ 12 then lx_wk (lx_pk b_ p_ i_) 7 else -1 := by unfold lx_kd; rw [if_neg (by omega), if_pos h0_.2, e4_, show p_ + i_ - p_ = i_ by omega]
              have hsz_ : lx_sz b_ n_ p_ = i_ := by unfold lx_sz; rw [if_neg (by omega), if_pos h0_.2, e4_]; omega
              have hen_ : lx_en b_ n_ p_ = p_ + i_ := by unfold lx_en; rw [if_neg (by omega), if_pos h0_.2, e4_]
              have hw7_ := lx_wk_7 (lx_pk b_ p_ i_)
              have wb := fun hi_ => w_both (b := b_) (p := p_) (L := i_) hi_ hr_
              (try simp only [rd_eq, rd_ne, rf_eq, rf_nk, rf_nt, rd_fa, rd_af, rd_fl, rd_al, rd_lf, rd_la, rd_leq, rd_lne, rd_fr, rd_ar, ne_eq, Nat.reduceEqDiff, not_false_eq_true] at *)
              simp only [ett_, if_true, reduceIte] at *
              first | (have hN_ := fun hi_ => ((if_neg (show ¬ rk2 b_ p_ i_ = 0 by omega)).symm.trans (wb hi_))) | (have hN_ := fun hi_ => ((if_pos (show rk2 b_ p_ i_ = 0 by omega)).symm.trans (wb hi_)); rw [← h4_.1, ← hwo_] at hN_)
              refine ⟨by omega, ⟨h5_.2, ?_, ?_, ?_⟩, ?_⟩
              · first | (rw [hkd_, if_neg (by omega)]; rfl) | (rw [hkd_, if_pos (by omega)]; exact tk_s1 hw7_ (hN_ (by omega)) (by omega)) | (rw [hkd_, if_pos (by omega)]; exact tk_s6 hw7_ (hN_ (by omega)) (by omega))
              · intro hx_; rw [hkd_] at hx_ ⊢; by_cases hi_ : i_ ≤ 12
                · rw [if_pos hi_]; first | exact tk_n hw7_ (hN_ hi_) | (exfalso; omega)
                · exact absurd (if_neg hi_) hx_
              · rw [hsz_]; intro _; exact h4_
              · intro j_ hj_; have hu_ := h6_ j_ hj_; simp only [if_neg hj_]; exact hu_
          · have c58_ : ¬ ((S_.2.2.1 123 0 tt_.toNat) ≠ 0) := of_decide_eq_false c58_
            refine sm_T_go 3 (c1 := (199, [some (.inr (.inr (some (13, 0)))), some (.inl f_), some (.inl tt_), some (.inl k_), some (.inl c_), none, none], [.inl tt_, .inr (.inr (some (122, 0))), .inl tt_, .inr (.inr (some (121, 0)))], S_)) rfl ?_
            refine sm_T_lald (n := 65537) rfl rfl (by omega) (by omega) ?_
            refine sm_T_cal (d1 := 1) (Q1 := vq_288 ((S_.2.2.2 122 0 tt_.toNat)) S_) rfl rfl (by decide) (vc_288 ((S_.2.2.2 122 0 tt_.toNat)) S_ hI_ ) (fun u_ S70_ p73_ => ?_)
            obtain ⟨rfl, v75_, rfl, p73_⟩ := p73_
            have hwo_ := p73_
            have hwb_ := wo_b (S_.2.2.2 122 0 tt_.toNat)
            refine sm_T_go 1 (c1 := (207, [some (.inr (.inr (some (13, 0)))), some (.inl f_), some (.inl tt_), some (.inl k_), some (.inl c_), none, none], [.inl v75_, .inl tt_, .inr (.inr (some (121, 0)))], S_)) rfl ?_
            refine sm_T_iast (n := 65537) rfl rfl (by omega) (by omega) ?_
            have hI76_ : gi (sm_aI S_ 121 0 tt_.toNat v75_) := gi_aI hI_ (show (-2147483648) ≤ v75_ ∧ v75_ ≤ 2147483647 from ⟨by omega, by omega⟩)
            have hF77_ : ai_fr (sx_W vw_290) S0_ (sm_aI S_ 121 0 tt_.toNat v75_) := ai_fr_tr hF_ (ai_fr_aI rfl)
            refine sm_T_go 5 (c1 := (215, [some (.inr (.inr (some (13, 0)))), some (.inl f_), some (.inl tt_), some (.inl k_), some (.inl c_), none, none], [.inl f_, .inl k_, .inl tt_, .inr (.inr (some (119, 0)))], sm_aI S_ 121 0 tt_.toNat v75_)) rfl ?_
            refine sm_T_bin (w := k_ - f_) rfl (bi_sub (by omega) (by omega) (by omega)) ?_
            refine sm_T_go 1 (c1 := (218, [some (.inr (.inr (some (13, 0)))), some (.inl f_), some (.inl tt_), some (.inl k_), some (.inl c_), none, none], [.inl 12, .inl (k_ - f_), .inl tt_, .inr (.inr (some (119, 0)))], sm_aI S_ 121 0 tt_.toNat v75_)) rfl ?_
            refine sm_T_br (a := 5) (z := 7) rfl (fun c78_ => ?_) (fun c78_ => ?_)
            · have c78_ : k_ - f_ ≤ 12 := of_decide_eq_true c78_
              refine sm_T_go 3 (c1 := (230, [some (.inr (.inr (some (13, 0)))), some (.inl f_), some (.inl tt_), some (.inl k_), some (.inl c_), none, none], [.inl tt_, .inr (.inr (some (121, 0))), .inl tt_, .inr (.inr (some (119, 0)))], sm_aI S_ 121 0 tt_.toNat v75_)) rfl ?_
              refine sm_T_iald (n := 65537) rfl rfl (by omega) (by omega) ?_
              have b79_ : (-2147483648) ≤ (sm_aI S_ 121 0 tt_.toNat v75_).2.2.1 121 0 tt_.toNat ∧ (sm_aI S_ 121 0 tt_.toNat v75_).2.2.1 121 0 tt_.toNat ≤ 2147483647 := hI76_.2 121 0 _
              refine sm_T_b0 (a := 5) (z := 8) rfl (fun c80_ => ?_) (fun c80_ => ?_)
              · have c80_ : ((sm_aI S_ 121 0 tt_.toNat v75_).2.2.1 121 0 tt_.toNat) ≤ 0 := of_decide_eq_true c80_
                refine sm_T_go 2 (c1 := (241, [some (.inr (.inr (some (13, 0)))), some (.inl f_), some (.inl tt_), some (.inl k_), some (.inl c_), none, none], [.inl 1, .inl tt_, .inr (.inr (some (119, 0)))], sm_aI S_ 121 0 tt_.toNat v75_)) rfl ?_
                refine sm_T_bas1 (n := 65537) rfl rfl (by omega) (by omega) (by decide) ?_
                have hI81_ : gi (sm_aI (sm_aI S_ 121 0 tt_.toNat v75_) 119 0 tt_.toNat 1) := gi_aI hI76_ (show (-128) ≤ 1 ∧ 1 ≤ 127 from ⟨by omega, by omega⟩)
                have hF82_ : ai_fr (sx_W vw_290) S0_ (sm_aI (sm_aI S_ 121 0 tt_.toNat v75_) 119 0 tt_.toNat 1) := ai_fr_tr hF77_ (ai_fr_aI rfl)
                refine sm_T_go 1 (c1 := (243, [some (.inr (.inr (some (13, 0)))), some (.inl f_), some (.inl tt_), some (.inl k_), some (.inl c_), none, none], [.inl k_], sm_aI (sm_aI S_ 121 0 tt_.toNat v75_) 119 0 tt_.toNat 1)) rfl ?_
                refine sm_T_ri rfl ⟨_, _, rfl, _, rfl, hI81_, hF82_, ?_⟩
                have e4_ : lx_ne b_ n_ p_ = p_ + i_ := by rw [← h2_, lx_e_go]; exact if_neg (by omega)
                have hr_ := fun j_ hj_ => lx_x_b (h3_ j_ hj_)
                have e5_ : (k_ - p_).toNat = i_ := by omega
                rw [e5_] at h4_
                have hkd_ : lx_kd b_ n_ p_ = if i_ ≤ 12 then lx_wk (lx_pk b_ p_ i_) 7 else -1 := by unfold lx_kd; rw [if_neg (by omega), if_pos h0_.2, e4_, show p_ + i_ - p_ = i_ by omega]
                have hsz_ : lx_sz b_ n_ p_ = i_ := by unfold lx_sz; rw [if_neg (by omega), if_pos h0_.2, e4_]; omega
                have hen_ : lx_en b_ n_ p_ = p_ + i_ := by unfold lx_en; rw [if_neg (by omega), if_pos h0_.2, e4_]
                have hw7_ := lx_wk_7 (lx_pk b_ p_ i_)
                have wb := fun hi_ => w_both (b := b_) (p := p_) (L := i_) hi_ hr_
                (try simp only [rd_eq, rd_ne, rf_eq, rf_nk, rf_nt, rd_fa, rd_af, rd_fl, rd_al, rd_lf, rd_la, rd_leq, rd_lne, rd_fr, rd_ar, ne_eq, Nat.reduceEqDiff, not_false_eq_true] at *)
                simp only [ett_, if_true, reduceIte] at *
                first | (have hN_ := fun hi_ => ((if_neg (show ¬ rk2 b_ p_ i_ = 0 by omega)).symm.trans (wb hi_))) | (have hN_ := fun hi_ => ((if_pos (show rk2 b_ p_ i_ = 0 by omega)).symm.trans (wb hi_)); rw [← h4_.1, ← hwo_] at hN_)
                refine ⟨by omega, ⟨h5_.2, ?_, ?_, ?_⟩, ?_⟩
                · first | (rw [hkd_, if_neg (by omega)]; rfl) | (rw [hkd_, if_pos (by omega)]; exact tk_s1 hw7_ (hN_ (by omega)) (by omega)) | (rw [hkd_, if_pos (by omega)]; exact tk_s6 hw7_ (hN_ (by omega)) (by omega))
                · intro hx_; rw [hkd_] at hx_ ⊢; by_cases hi_ : i_ ≤ 12
                  · rw [if_pos hi_]; first | exact tk_n hw7_ (hN_ hi_) | (exfalso; omega)
                  · exact absurd (if_neg hi_) hx_
                · rw [hsz_]; intro _; exact h4_
                · intro j_ hj_; have hu_ := h6_ j_ hj_; simp only [if_neg hj_]; exact hu_
              · have c80_ : ¬ (((sm_aI S_ 121 0 tt_.toNat v75_).2.2.1 121 0 tt_.toNat) ≤ 0) := of_decide_eq_false c80_
                refine sm_T_go 3 (c1 := (241, [some (.inr (.inr (some (13, 0)))), some (.inl f_), some (.inl tt_), some (.inl k_), some (.inl c_), none, none], [.inl 6, .inl tt_, .inr (.inr (some (119, 0)))], sm_aI S_ 121 0 tt_.toNat v75_)) rfl ?_
                refine sm_T_bas1 (n := 65537) rfl rfl (by omega) (by omega) (by decide) ?_
                have hI83_ : gi (sm_aI (sm_aI S_ 121 0 tt_.toNat v75_) 119 0 tt_.toNat 6) := gi_aI hI76_ (show (-128) ≤ 6 ∧ 6 ≤ 127 from ⟨by omega, by omega⟩)
                have hF84_ : ai_fr (sx_W vw_290) S0_ (sm_aI (sm_aI S_ 121 0 tt_.toNat v75_) 119 0 tt_.toNat 6) := ai_fr_tr hF77_ (ai_fr_aI rfl)
                refine sm_T_go 1 (c1 := (243, [some (.inr (.inr (some (13, 0)))), some (.inl f_), some (.inl tt_), some (.inl k_), some (.inl c_), none, none], [.inl k_], sm_aI (sm_aI S_ 121 0 tt_.toNat v75_) 119 0 tt_.toNat 6)) rfl ?_
                refine sm_T_ri rfl ⟨_, _, rfl, _, rfl, hI83_, hF84_, ?_⟩
                have e4_ : lx_ne b_ n_ p_ = p_ + i_ := by rw [← h2_, lx_e_go]; exact if_neg (by omega)
                have hr_ := fun j_ hj_ => lx_x_b (h3_ j_ hj_)
                have e5_ : (k_ - p_).toNat = i_ := by omega
                rw [e5_] at h4_
                have hkd_ : lx_kd b_ n_ p_ = if i_ ≤ 12 then lx_wk (lx_pk b_ p_ i_) 7 else -1 := by unfold lx_kd; rw [if_neg (by omega), if_pos h0_.2, e4_, show p_ + i_ - p_ = i_ by omega]
                have hsz_ : lx_sz b_ n_ p_ = i_ := by unfold lx_sz; rw [if_neg (by omega), if_pos h0_.2, e4_]; omega
                have hen_ : lx_en b_ n_ p_ = p_ + i_ := by unfold lx_en; rw [if_neg (by omega), if_pos h0_.2, e4_]
                have hw7_ := lx_wk_7 (lx_pk b_ p_ i_)
                have wb := fun hi_ => w_both (b := b_) (p := p_) (L := i_) hi_ hr_
                (try simp only [rd_eq, rd_ne, rf_eq, rf_nk, rf_nt, rd_fa, rd_af, rd_fl, rd_al, rd_lf, rd_la, rd_leq, rd_lne, rd_fr, rd_ar, ne_eq, Nat.reduceEqDiff, not_false_eq_true] at *)
                simp only [ett_, if_true, reduceIte] at *
                first | (have hN_ := fun hi_ => ((if_neg (show ¬ rk2 b_ p_ i_ = 0 by omega)).symm.trans (wb hi_))) | (have hN_ := fun hi_ => ((if_pos (show rk2 b_ p_ i_ = 0 by omega)).symm.trans (wb hi_)); rw [← h4_.1, ← hwo_] at hN_)
                refine ⟨by omega, ⟨h5_.2, ?_, ?_, ?_⟩, ?_⟩
                · first | (rw [hkd_, if_neg (by omega)]; rfl) | (rw [hkd_, if_pos (by omega)]; exact tk_s1 hw7_ (hN_ (by omega)) (by omega)) | (rw [hkd_, if_pos (by omega)]; exact tk_s6 hw7_ (hN_ (by omega)) (by omega))
                · intro hx_; rw [hkd_] at hx_ ⊢; by_cases hi_ : i_ ≤ 12
                  · rw [if_pos hi_]; first | exact tk_n hw7_ (hN_ hi_) | (exfalso; omega)
                  · exact absurd (if_neg hi_) hx_
                · rw [hsz_]; intro _; exact h4_
                · intro j_ hj_; have hu_ := h6_ j_ hj_; simp only [if_neg hj_]; exact hu_
            · have c78_ : ¬ (k_ - f_ ≤ 12) := of_decide_eq_false c78_
              refine sm_T_go 3 (c1 := (241, [some (.inr (.inr (some (13, 0)))), some (.inl f_), some (.inl tt_), some (.inl k_), some (.inl c_), none, none], [.inl 4, .inl tt_, .inr (.inr (some (119, 0)))], sm_aI S_ 121 0 tt_.toNat v75_)) rfl ?_
              refine sm_T_bas1 (n := 65537) rfl rfl (by omega) (by omega) (by decide) ?_
              have hI85_ : gi (sm_aI (sm_aI S_ 121 0 tt_.toNat v75_) 119 0 tt_.toNat 4) := gi_aI hI76_ (show (-128) ≤ 4 ∧ 4 ≤ 127 from ⟨by omega, by omega⟩)
              have hF86_ : ai_fr (sx_W vw_290) S0_ (sm_aI (sm_aI S_ 121 0 tt_.toNat v75_) 119 0 tt_.toNat 4) := ai_fr_tr hF77_ (ai_fr_aI rfl)
              refine sm_T_go 1 (c1 := (243, [some (.inr (.inr (some (13, 0)))), some (.inl f_), some (.inl tt_), some (.inl k_), some (.inl c_), none, none], [.inl k_], sm_aI (sm_aI S_ 121 0 tt_.toNat v75_) 119 0 tt_.toNat 4)) rfl ?_
              refine sm_T_ri rfl ⟨_, _, rfl, _, rfl, hI85_, hF86_, ?_⟩
              have e4_ : lx_ne b_ n_ p_ = p_ + i_ := by rw [← h2_, lx_e_go]; exact if_neg (by omega)
              have hr_ := fun j_ hj_ => lx_x_b (h3_ j_ hj_)
              have e5_ : (k_ - p_).toNat = i_ := by omega
              rw [e5_] at h4_
              have hkd_ : lx_kd b_ n_ p_ = if i_ ≤ 12 then lx_wk (lx_pk b_ p_ i_) 7 else -1 := by unfold lx_kd; rw [if_neg (by omega), if_pos h0_.2, e4_, show p_ + i_ - p_ = i_ by omega]
              have hsz_ : lx_sz b_ n_ p_ = i_ := by unfold lx_sz; rw [if_neg (by omega), if_pos h0_.2, e4_]; omega
              have hen_ : lx_en b_ n_ p_ = p_ + i_ := by unfold lx_en; rw [if_neg (by omega), if_pos h0_.2, e4_]
              have hw7_ := lx_wk_7 (lx_pk b_ p_ i_)
              have wb := fun hi_ => w_both (b := b_) (p := p_) (L := i_) hi_ hr_
              (try simp only [rd_eq, rd_ne, rf_eq, rf_nk, rf_nt, rd_fa, rd_af, rd_fl, rd_al, rd_lf, rd_la, rd_leq, rd_lne, rd_fr, rd_ar, ne_eq, Nat.reduceEqDiff, not_false_eq_true] at *)
              simp only [ett_, if_true, reduceIte] at *
              first | (have hN_ := fun hi_ => ((if_neg (show ¬ rk2 b_ p_ i_ = 0 by omega)).symm.trans (wb hi_))) | (have hN_ := fun hi_ => ((if_pos (show rk2 b_ p_ i_ = 0 by omega)).symm.trans (wb hi_)); rw [← h4_.1, ← hwo_] at hN_)
              refine ⟨by omega, ⟨h5_.2, ?_, ?_, ?_⟩, ?_⟩
              · first | (rw [hkd_, if_neg (by omega)]; rfl) | (rw [hkd_, if_pos (by omega)]; exact tk_s1 hw7_ (hN_ (by omega)) (by omega)) | (rw [hkd_, if_pos (by omega)]; exact tk_s6 hw7_ (hN_ (by omega)) (by omega))
              · intro hx_; rw [hkd_] at hx_ ⊢; by_cases hi_ : i_ ≤ 12
                · rw [if_pos hi_]; first | exact tk_n hw7_ (hN_ hi_) | (exfalso; omega)
                · exact absurd (if_neg hi_) hx_
              · rw [hsz_]; intro _; exact h4_
              · intro j_ hj_; have hu_ := h6_ j_ hj_; simp only [if_neg hj_]; exact hu_
        · have c56_ : ¬ (v55_ = 0) := of_decide_eq_false c56_
          refine sm_T_go 2 (c1 := (74, [some (.inr (.inr (some (13, 0)))), some (.inl f_), some (.inl tt_), some (.inl k_), some (.inl c_), none, none], [.inl f_, .inl k_], S_)) rfl ?_
          refine sm_T_bin (w := k_ - f_) rfl (bi_sub (by omega) (by omega) (by omega)) ?_
          refine sm_T_go 6 (c1 := (86, [some (.inr (.inr (some (13, 0)))), some (.inl f_), some (.inl tt_), some (.inl k_), some (.inl c_), some (.inl (k_ - f_)), none], [.inl 8, .inl (k_ - f_), .inl tt_, .inr (.inr (some (122, 0)))], S_)) rfl ?_
          refine sm_T_br (a := 3) (z := 28) rfl (fun c87_ => ?_) (fun c87_ => ?_)
          · have c87_ : 8 ≤ k_ - f_ := of_decide_eq_true c87_
            refine sm_T_go 3 (c1 := (119, [some (.inr (.inr (some (13, 0)))), some (.inl f_), some (.inl tt_), some (.inl k_), some (.inl c_), some (.inl (k_ - f_)), none], [.inl tt_, .inr (.inr (some (122, 0))), .inl tt_, .inr (.inr (some (122, 0)))], S_)) rfl ?_
            refine sm_T_lald (n := 65537) rfl rfl (by omega) (by omega) ?_
            refine sm_T_last (n := 65537) rfl rfl (by omega) (by omega) ?_
            have hI88_ : gi (sm_aL S_ 122 0 tt_.toNat ((S_.2.2.2 122 0 tt_.toNat))) := gi_aL hI_
            have hF89_ : ai_fr (sx_W vw_290) S0_ (sm_aL S_ 122 0 tt_.toNat ((S_.2.2.2 122 0 tt_.toNat))) := ai_fr_tr hF_ (ai_fr_aL rfl)
            refine sm_T_go 5 (c1 := (130, [some (.inr (.inr (some (13, 0)))), some (.inl f_), some (.inl tt_), some (.inl k_), some (.inl c_), some (.inl (k_ - f_)), none], [.inl 8, .inl (k_ - f_), .inl tt_, .inr (.inr (some (123, 0)))], sm_aL S_ 122 0 tt_.toNat ((S_.2.2.2 122 0 tt_.toNat)))) rfl ?_
            refine sm_T_br (a := 2) (z := 37) rfl (fun c90_ => ?_) (fun c90_ => ?_)
            · have c90_ : k_ - f_ < 8 := of_decide_eq_true c90_
              exfalso; omega
            · have c90_ : ¬ (k_ - f_ < 8) := of_decide_eq_false c90_
              refine sm_T_go 2 (c1 := (137, [some (.inr (.inr (some (13, 0)))), some (.inl f_), some (.inl tt_), some (.inl k_), some (.inl c_), some (.inl (k_ - f_)), none], [.inl 12, .inl (k_ - f_), .inl tt_, .inr (.inr (some (123, 0)))], sm_aL S_ 122 0 tt_.toNat ((S_.2.2.2 122 0 tt_.toNat)))) rfl ?_
              refine sm_T_br (a := 3) (z := 30) rfl (fun c91_ => ?_) (fun c91_ => ?_)
              · have c91_ : 12 ≤ k_ - f_ := of_decide_eq_true c91_
                refine sm_T_go 3 (c1 := (172, [some (.inr (.inr (some (13, 0)))), some (.inl f_), some (.inl tt_), some (.inl k_), some (.inl c_), some (.inl (k_ - f_)), none], [.inl tt_, .inr (.inr (some (123, 0))), .inl tt_, .inr (.inr (some (123, 0)))], sm_aL S_ 122 0 tt_.toNat ((S_.2.2.2 122 0 tt_.toNat)))) rfl ?_
                refine sm_T_iald (n := 65537) rfl rfl (by omega) (by omega) ?_
                have b92_ : (-2147483648) ≤ S_.2.2.1 123 0 tt_.toNat ∧ S_.2.2.1 123 0 tt_.toNat ≤ 2147483647 := hI_.2 123 0 _
                refine sm_T_iast (n := 65537) rfl rfl (by omega) (by omega) ?_
                have hI93_ : gi (sm_aI (sm_aL S_ 122 0 tt_.toNat ((S_.2.2.2 122 0 tt_.toNat))) 123 0 tt_.toNat (S_.2.2.1 123 0 tt_.toNat)) := gi_aI hI88_ (show (-2147483648) ≤ (S_.2.2.1 123 0 tt_.toNat) ∧ (S_.2.2.1 123 0 tt_.toNat) ≤ 2147483647 from ⟨by omega, by omega⟩)
                have hF94_ : ai_fr (sx_W vw_290) S0_ (sm_aI (sm_aL S_ 122 0 tt_.toNat ((S_.2.2.2 122 0 tt_.toNat))) 123 0 tt_.toNat (S_.2.2.1 123 0 tt_.toNat)) := ai_fr_tr hF89_ (ai_fr_aI rfl)
                refine sm_T_inc (a := 3) (z := 1) (v := k_) (w := k_ + 1) rfl rfl (by omega) (by omega) (by omega) ?_
                refine sm_T_go 1 (c1 := (50, [some (.inr (.inr (some (13, 0)))), some (.inl f_), some (.inl tt_), some (.inl (k_ + 1)), some (.inl c_), some (.inl (k_ - f_)), none], [], sm_aI (sm_aL S_ 122 0 tt_.toNat ((S_.2.2.2 122 0 tt_.toNat))) 123 0 tt_.toNat (S_.2.2.1 123 0 tt_.toNat))) rfl ?_
                refine sm_T_wk [some (.inr (.inr (some (13, 0)))), some (.inl f_), some (.inl tt_), some (.inl (k_ + 1)), some (.inl c_), none, none] (by exact ⟨rfl, rfl, rfl, rfl, rfl, trivial⟩) ?_
                refine ih_.1 tt_ (k_ + 1) c_ (sm_aI (sm_aL S_ 122 0 tt_.toNat ((S_.2.2.2 122 0 tt_.toNat))) 123 0 tt_.toNat (S_.2.2.1 123 0 tt_.toNat)) hI93_ hF94_ ⟨?_, ?_, ?_, ?_, ?_, trivial⟩ ?_
                · exact h0_
                · refine ⟨i_ + 1, by omega, by omega, ?_, ?_⟩
                  · rw [← h2_, lx_e_go (p := p_ + i_)]
                    rw [if_pos (by omega)]; rfl
                  · intro j_ hj_; by_cases hq_ : j_ = i_
                    · rw [hq_]; omega
                    · exact h3_ j_ (by omega)
                · have e5_ : (k_ - p_).toNat = i_ := by omega
                  rw [show (k_ + 1 - p_).toNat = i_ + 1 by omega]
                  rw [e5_] at h4_
                  (try simp only [rd_eq, rd_ne, rf_eq, rf_nk, rf_nt, rd_fa, rd_af, rd_fl, rd_al, rd_lf, rd_la, rd_leq, rd_lne, rd_fr, rd_ar, ne_eq, Nat.reduceEqDiff, not_false_eq_true])
                  simp only [ett_, if_true, reduceIte]
                  have hbv_ : ∀ v_ : Int, v_ = rb b_ n_ (p_ + i_) → v_ = b_ (p_ + i_) := by intro v_ hv_; rw [hv_]; unfold rb; rw [if_pos (by omega)]; omega
                  refine ⟨?_, ?_⟩
                  · unfold rk1; first | (rw [if_pos (by omega)]; exact congr (congrArg l_4 h4_.1) (congr (congrArg l_s0 (congrArg l_i2l (hbv_ _ (by assumption)))) (by omega))) | (rw [if_neg (by omega)]; exact h4_.1)
                  · unfold rk2; first | (rw [if_pos (by omega)]; exact congr (congrArg i_or h4_.2) (congr (congrArg i_shl (hbv_ _ (by assumption))) (by omega))) | (rw [if_neg (by omega)]; exact h4_.2)
                · (try simp only [rd_eq, rd_ne, rf_eq, rf_nk, rf_nt, rd_fa, rd_af, rd_fl, rd_al, rd_lf, rd_la, rd_leq, rd_lne, rd_fr, rd_ar, ne_eq, Nat.reduceEqDiff, not_false_eq_true])
                  exact h5_
                · intro j_ hj_
                  have hu_ := h6_ j_ hj_
                  (try simp only [rd_eq, rd_ne, rf_eq, rf_nk, rf_nt, rd_fa, rd_af, rd_fl, rd_al, rd_lf, rd_la, rd_leq, rd_lne, rd_fr, rd_ar, ne_eq, Nat.reduceEqDiff, not_false_eq_true])
                  simp only [ett_, if_neg hj_]
                  exact hu_
                · omega
              · have c91_ : ¬ (12 ≤ k_ - f_) := of_decide_eq_false c91_
                refine sm_T_go 3 (c1 := (145, [some (.inr (.inr (some (13, 0)))), some (.inl f_), some (.inl tt_), some (.inl k_), some (.inl c_), some (.inl (k_ - f_)), none], [.inl tt_, .inr (.inr (some (123, 0))), .inl tt_, .inr (.inr (some (123, 0)))], sm_aL S_ 122 0 tt_.toNat ((S_.2.2.2 122 0 tt_.toNat)))) rfl ?_
                refine sm_T_iald (n := 65537) rfl rfl (by omega) (by omega) ?_
                have b95_ : (-2147483648) ≤ S_.2.2.1 123 0 tt_.toNat ∧ S_.2.2.1 123 0 tt_.toNat ≤ 2147483647 := hI_.2 123 0 _
                refine sm_T_go 2 (c1 := (148, [some (.inr (.inr (some (13, 0)))), some (.inl f_), some (.inl tt_), some (.inl k_), some (.inl c_), some (.inl (k_ - f_)), none], [.inl k_, .inr (.inr (some (13, 0))), .inl (S_.2.2.1 123 0 tt_.toNat), .inl tt_, .inr (.inr (some (123, 0)))], sm_aL S_ 122 0 tt_.toNat ((S_.2.2.2 122 0 tt_.toNat)))) rfl ?_
                refine sm_T_cal (d1 := 0) (Q1 := vq_282 k_ b_ n_ (sm_aL S_ 122 0 tt_.toNat ((S_.2.2.2 122 0 tt_.toNat)))) rfl rfl (by decide) (vc_282 k_ b_ n_ (sm_aL S_ 122 0 tt_.toNat ((S_.2.2.2 122 0 tt_.toNat))) hI88_ (by exact hb1_) (by exact hn2_) (by exact hn1_) (by omega)) (fun u_ S96_ p99_ => ?_)
                obtain ⟨rfl, v101_, rfl, p99_⟩ := p99_
                have hc148_ := p99_
                rw [ek_] at hc148_
                refine sm_T_go 4 (c1 := (159, [some (.inr (.inr (some (13, 0)))), some (.inl f_), some (.inl tt_), some (.inl k_), some (.inl c_), some (.inl (k_ - f_)), none], [.inl 8, .inl (k_ - f_), .inl 8, .inl 24, .inl v101_, .inl (S_.2.2.1 123 0 tt_.toNat), .inl tt_, .inr (.inr (some (123, 0)))], sm_aL S_ 122 0 tt_.toNat ((S_.2.2.2 122 0 tt_.toNat)))) rfl ?_
                refine sm_T_bin (w := k_ - f_ - 8) rfl (bi_sub (by omega) (by omega) (by omega)) ?_
                refine sm_T_bin (w := 8 * k_ - 8 * f_ - 64) rfl (bi_mul (by omega) (by omega) (by omega)) ?_
                refine sm_T_bin (w := -(8 * k_) + 8 * f_ + 88) rfl (bi_sub (by omega) (by omega) (by omega)) ?_
                refine sm_T_bin (w := (i_shl v101_ (-(8 * k_) + 8 * f_ + 88))) rfl rfl ?_
                refine sm_T_bin (w := (i_or (S_.2.2.1 123 0 tt_.toNat) (i_shl v101_ (-(8 * k_) + 8 * f_ + 88)))) rfl rfl ?_
                have b102_ := i_or_n (S_.2.2.1 123 0 tt_.toNat) (i_shl v101_ (-(8 * k_) + 8 * f_ + 88))
                refine sm_T_go 1 (c1 := (173, [some (.inr (.inr (some (13, 0)))), some (.inl f_), some (.inl tt_), some (.inl k_), some (.inl c_), some (.inl (k_ - f_)), none], [.inl (i_or (S_.2.2.1 123 0 tt_.toNat) (i_shl v101_ (-(8 * k_) + 8 * f_ + 88))), .inl tt_, .inr (.inr (some (123, 0)))], sm_aL S_ 122 0 tt_.toNat ((S_.2.2.2 122 0 tt_.toNat)))) rfl ?_
                refine sm_T_iast (n := 65537) rfl rfl (by omega) (by omega) ?_
                have hI103_ : gi (sm_aI (sm_aL S_ 122 0 tt_.toNat ((S_.2.2.2 122 0 tt_.toNat))) 123 0 tt_.toNat (i_or (S_.2.2.1 123 0 tt_.toNat) (i_shl v101_ (-(8 * k_) + 8 * f_ + 88)))) := gi_aI hI88_ (show (-2147483648) ≤ (i_or (S_.2.2.1 123 0 tt_.toNat) (i_shl v101_ (-(8 * k_) + 8 * f_ + 88))) ∧ (i_or (S_.2.2.1 123 0 tt_.toNat) (i_shl v101_ (-(8 * k_) + 8 * f_ + 88))) ≤ 2147483647 from ⟨by omega, by omega⟩)
                have hF104_ : ai_fr (sx_W vw_290) S0_ (sm_aI (sm_aL S_ 122 0 tt_.toNat ((S_.2.2.2 122 0 tt_.toNat))) 123 0 tt_.toNat (i_or (S_.2.2.1 123 0 tt_.toNat) (i_shl v101_ (-(8 * k_) + 8 * f_ + 88)))) := ai_fr_tr hF89_ (ai_fr_aI rfl)
                refine sm_T_inc (a := 3) (z := 1) (v := k_) (w := k_ + 1) rfl rfl (by omega) (by omega) (by omega) ?_
                refine sm_T_go 1 (c1 := (50, [some (.inr (.inr (some (13, 0)))), some (.inl f_), some (.inl tt_), some (.inl (k_ + 1)), some (.inl c_), some (.inl (k_ - f_)), none], [], sm_aI (sm_aL S_ 122 0 tt_.toNat ((S_.2.2.2 122 0 tt_.toNat))) 123 0 tt_.toNat (i_or (S_.2.2.1 123 0 tt_.toNat) (i_shl v101_ (-(8 * k_) + 8 * f_ + 88))))) rfl ?_
                refine sm_T_wk [some (.inr (.inr (some (13, 0)))), some (.inl f_), some (.inl tt_), some (.inl (k_ + 1)), some (.inl c_), none, none] (by exact ⟨rfl, rfl, rfl, rfl, rfl, trivial⟩) ?_
                refine ih_.1 tt_ (k_ + 1) c_ (sm_aI (sm_aL S_ 122 0 tt_.toNat ((S_.2.2.2 122 0 tt_.toNat))) 123 0 tt_.toNat (i_or (S_.2.2.1 123 0 tt_.toNat) (i_shl v101_ (-(8 * k_) + 8 * f_ + 88)))) hI103_ hF104_ ⟨?_, ?_, ?_, ?_, ?_, trivial⟩ ?_
                · exact h0_
                · refine ⟨i_ + 1, by omega, by omega, ?_, ?_⟩
                  · rw [← h2_, lx_e_go (p := p_ + i_)]
                    rw [if_pos (by omega)]; rfl
                  · intro j_ hj_; by_cases hq_ : j_ = i_
                    · rw [hq_]; omega
                    · exact h3_ j_ (by omega)
                · have e5_ : (k_ - p_).toNat = i_ := by omega
                  rw [show (k_ + 1 - p_).toNat = i_ + 1 by omega]
                  rw [e5_] at h4_
                  (try simp only [rd_eq, rd_ne, rf_eq, rf_nk, rf_nt, rd_fa, rd_af, rd_fl, rd_al, rd_lf, rd_la, rd_leq, rd_lne, rd_fr, rd_ar, ne_eq, Nat.reduceEqDiff, not_false_eq_true])
                  simp only [ett_, if_true, reduceIte]
                  have hbv_ : ∀ v_ : Int, v_ = rb b_ n_ (p_ + i_) → v_ = b_ (p_ + i_) := by intro v_ hv_; rw [hv_]; unfold rb; rw [if_pos (by omega)]; omega
                  refine ⟨?_, ?_⟩
                  · unfold rk1; first | (rw [if_pos (by omega)]; exact congr (congrArg l_4 h4_.1) (congr (congrArg l_s0 (congrArg l_i2l (hbv_ _ (by assumption)))) (by omega))) | (rw [if_neg (by omega)]; exact h4_.1)
                  · unfold rk2; first | (rw [if_pos (by omega)]; exact congr (congrArg i_or h4_.2) (congr (congrArg i_shl (hbv_ _ (by assumption))) (by omega))) | (rw [if_neg (by omega)]; exact h4_.2)
                · (try simp only [rd_eq, rd_ne, rf_eq, rf_nk, rf_nt, rd_fa, rd_af, rd_fl, rd_al, rd_lf, rd_la, rd_leq, rd_lne, rd_fr, rd_ar, ne_eq, Nat.reduceEqDiff, not_false_eq_true])
                  exact h5_
                · intro j_ hj_
                  have hu_ := h6_ j_ hj_
                  (try simp only [rd_eq, rd_ne, rf_eq, rf_nk, rf_nt, rd_fa, rd_af, rd_fl, rd_al, rd_lf, rd_la, rd_leq, rd_lne, rd_fr, rd_ar, ne_eq, Nat.reduceEqDiff, not_false_eq_true])
                  simp only [ett_, if_neg hj_]
                  exact hu_
                · omega
          · have c87_ : ¬ (8 ≤ k_ - f_) := of_decide_eq_false c87_
            refine sm_T_go 3 (c1 := (94, [some (.inr (.inr (some (13, 0)))), some (.inl f_), some (.inl tt_), some (.inl k_), some (.inl c_), some (.inl (k_ - f_)), none], [.inl tt_, .inr (.inr (some (122, 0))), .inl tt_, .inr (.inr (some (122, 0)))], S_)) rfl ?_
            refine sm_T_lald (n := 65537) rfl rfl (by omega) (by omega) ?_
            refine sm_T_go 2 (c1 := (97, [some (.inr (.inr (some (13, 0)))), some (.inl f_), some (.inl tt_), some (.inl k_), some (.inl c_), some (.inl (k_ - f_)), none], [.inl k_, .inr (.inr (some (13, 0))), .inr (.inl (S_.2.2.2 122 0 tt_.toNat)), .inl tt_, .inr (.inr (some (122, 0)))], S_)) rfl ?_
            refine sm_T_cal (d1 := 0) (Q1 := vq_282 k_ b_ n_ S_) rfl rfl (by decide) (vc_282 k_ b_ n_ S_ hI_ (by exact hb1_) (by exact hn2_) (by exact hn1_) (by omega)) (fun u_ S105_ p108_ => ?_)
            obtain ⟨rfl, v110_, rfl, p108_⟩ := p108_
            have hc97_ := p108_
            rw [ek_] at hc97_
            refine sm_T_go 4 (c1 := (107, [some (.inr (.inr (some (13, 0)))), some (.inl f_), some (.inl tt_), some (.inl k_), some (.inl c_), some (.inl (k_ - f_)), none], [.inl (k_ - f_), .inl 8, .inl 56, .inr (.inl (l_i2l v110_)), .inr (.inl (S_.2.2.2 122 0 tt_.toNat)), .inl tt_, .inr (.inr (some (122, 0)))], S_)) rfl ?_
            refine sm_T_bin (w := 8 * k_ - 8 * f_) rfl (bi_mul (by omega) (by omega) (by omega)) ?_
            refine sm_T_bin (w := -(8 * k_) + 8 * f_ + 56) rfl (bi_sub (by omega) (by omega) (by omega)) ?_
            refine sm_T_go 3 (c1 := (120, [some (.inr (.inr (some (13, 0)))), some (.inl f_), some (.inl tt_), some (.inl k_), some (.inl c_), some (.inl (k_ - f_)), none], [.inr (.inl (l_4 ((S_.2.2.2 122 0 tt_.toNat)) ((l_s0 ((l_i2l v110_)) (-(8 * k_) + 8 * f_ + 56))))), .inl tt_, .inr (.inr (some (122, 0)))], S_)) rfl ?_
            refine sm_T_last (n := 65537) rfl rfl (by omega) (by omega) ?_
            have hI111_ : gi (sm_aL S_ 122 0 tt_.toNat ((l_4 ((S_.2.2.2 122 0 tt_.toNat)) ((l_s0 ((l_i2l v110_)) (-(8 * k_) + 8 * f_ + 56)))))) := gi_aL hI_
            have hF112_ : ai_fr (sx_W vw_290) S0_ (sm_aL S_ 122 0 tt_.toNat ((l_4 ((S_.2.2.2 122 0 tt_.toNat)) ((l_s0 ((l_i2l v110_)) (-(8 * k_) + 8 * f_ + 56)))))) := ai_fr_tr hF_ (ai_fr_aL rfl)
            refine sm_T_go 5 (c1 := (130, [some (.inr (.inr (some (13, 0)))), some (.inl f_), some (.inl tt_), some (.inl k_), some (.inl c_), some (.inl (k_ - f_)), none], [.inl 8, .inl (k_ - f_), .inl tt_, .inr (.inr (some (123, 0)))], sm_aL S_ 122 0 tt_.toNat ((l_4 ((S_.2.2.2 122 0 tt_.toNat)) ((l_s0 ((l_i2l v110_)) (-(8 * k_) + 8 * f_ + 56))))))) rfl ?_
            refine sm_T_br (a := 2) (z := 37) rfl (fun c113_ => ?_) (fun c113_ => ?_)
            · have c113_ : k_ - f_ < 8 := of_decide_eq_true c113_
              refine sm_T_go 3 (c1 := (172, [some (.inr (.inr (some (13, 0)))), some (.inl f_), some (.inl tt_), some (.inl k_), some (.inl c_), some (.inl (k_ - f_)), none], [.inl tt_, .inr (.inr (some (123, 0))), .inl tt_, .inr (.inr (some (123, 0)))], sm_aL S_ 122 0 tt_.toNat ((l_4 ((S_.2.2.2 122 0 tt_.toNat)) ((l_s0 ((l_i2l v110_)) (-(8 * k_) + 8 * f_ + 56))))))) rfl ?_
              refine sm_T_iald (n := 65537) rfl rfl (by omega) (by omega) ?_
              have b114_ : (-2147483648) ≤ S_.2.2.1 123 0 tt_.toNat ∧ S_.2.2.1 123 0 tt_.toNat ≤ 2147483647 := hI_.2 123 0 _
              refine sm_T_iast (n := 65537) rfl rfl (by omega) (by omega) ?_
              have hI115_ : gi (sm_aI (sm_aL S_ 122 0 tt_.toNat ((l_4 ((S_.2.2.2 122 0 tt_.toNat)) ((l_s0 ((l_i2l v110_)) (-(8 * k_) + 8 * f_ + 56)))))) 123 0 tt_.toNat (S_.2.2.1 123 0 tt_.toNat)) := gi_aI hI111_ (show (-2147483648) ≤ (S_.2.2.1 123 0 tt_.toNat) ∧ (S_.2.2.1 123 0 tt_.toNat) ≤ 2147483647 from ⟨by omega, by omega⟩)
              have hF116_ : ai_fr (sx_W vw_290) S0_ (sm_aI (sm_aL S_ 122 0 tt_.toNat ((l_4 ((S_.2.2.2 122 0 tt_.toNat)) ((l_s0 ((l_i2l v110_)) (-(8 * k_) + 8 * f_ + 56)))))) 123 0 tt_.toNat (S_.2.2.1 123 0 tt_.toNat)) := ai_fr_tr hF112_ (ai_fr_aI rfl)
              refine sm_T_inc (a := 3) (z := 1) (v := k_) (w := k_ + 1) rfl rfl (by omega) (by omega) (by omega) ?_
              refine sm_T_go 1 (c1 := (50, [some (.inr (.inr (some (13, 0)))), some (.inl f_), some (.inl tt_), some (.inl (k_ + 1)), some (.inl c_), some (.inl (k_ - f_)), none], [], sm_aI (sm_aL S_ 122 0 tt_.toNat ((l_4 ((S_.2.2.2 122 0 tt_.toNat)) ((l_s0 ((l_i2l v110_)) (-(8 * k_) + 8 * f_ + 56)))))) 123 0 tt_.toNat (S_.2.2.1 123 0 tt_.toNat))) rfl ?_
              refine sm_T_wk [some (.inr (.inr (some (13, 0)))), some (.inl f_), some (.inl tt_), some (.inl (k_ + 1)), some (.inl c_), none, none] (by exact ⟨rfl, rfl, rfl, rfl, rfl, trivial⟩) ?_
              refine ih_.1 tt_ (k_ + 1) c_ (sm_aI (sm_aL S_ 122 0 tt_.toNat ((l_4 ((S_.2.2.2 122 0 tt_.toNat)) ((l_s0 ((l_i2l v110_)) (-(8 * k_) + 8 * f_ + 56)))))) 123 0 tt_.toNat (S_.2.2.1 123 0 tt_.toNat)) hI115_ hF116_ ⟨?_, ?_, ?_, ?_, ?_, trivial⟩ ?_
              · exact h0_
              · refine ⟨i_ + 1, by omega, by omega, ?_, ?_⟩
                · rw [← h2_, lx_e_go (p := p_ + i_)]
                  rw [if_pos (by omega)]; rfl
                · intro j_ hj_; by_cases hq_ : j_ = i_
                  · rw [hq_]; omega
                  · exact h3_ j_ (by omega)
              · have e5_ : (k_ - p_).toNat = i_ := by omega
                rw [show (k_ + 1 - p_).toNat = i_ + 1 by omega]
                rw [e5_] at h4_
                (try simp only [rd_eq, rd_ne, rf_eq, rf_nk, rf_nt, rd_fa, rd_af, rd_fl, rd_al, rd_lf, rd_la, rd_leq, rd_lne, rd_fr, rd_ar, ne_eq, Nat.reduceEqDiff, not_false_eq_true])
                simp only [ett_, if_true, reduceIte]
                have hbv_ : ∀ v_ : Int, v_ = rb b_ n_ (p_ + i_) → v_ = b_ (p_ + i_) := by intro v_ hv_; rw [hv_]; unfold rb; rw [if_pos (by omega)]; omega
                refine ⟨?_, ?_⟩
                · unfold rk1; first | (rw [if_pos (by omega)]; exact congr (congrArg l_4 h4_.1) (congr (congrArg l_s0 (congrArg l_i2l (hbv_ _ (by assumption)))) (by omega))) | (rw [if_neg (by omega)]; exact h4_.1)
                · unfold rk2; first | (rw [if_pos (by omega)]; exact congr (congrArg i_or h4_.2) (congr (congrArg i_shl (hbv_ _ (by assumption))) (by omega))) | (rw [if_neg (by omega)]; exact h4_.2)
              · (try simp only [rd_eq, rd_ne, rf_eq, rf_nk, rf_nt, rd_fa, rd_af, rd_fl, rd_al, rd_lf, rd_la, rd_leq, rd_lne, rd_fr, rd_ar, ne_eq, Nat.reduceEqDiff, not_false_eq_true])
                exact h5_
              · intro j_ hj_
                have hu_ := h6_ j_ hj_
                (try simp only [rd_eq, rd_ne, rf_eq, rf_nk, rf_nt, rd_fa, rd_af, rd_fl, rd_al, rd_lf, rd_la, rd_leq, rd_lne, rd_fr, rd_ar, ne_eq, Nat.reduceEqDiff, not_false_eq_true])
                simp only [ett_, if_neg hj_]
                exact hu_
              · omega
            · have c113_ : ¬ (k_ - f_ < 8) := of_decide_eq_false c113_
              exfalso; omega
    · rintro tt_ k_ c_ S_ hI_ hF_ ⟨h0_, h1_, h4_, h5_, h6_, -⟩ hm_
      have hb1_ : S_.2.2.1 118 0 = b_ := (fr_arr hF_ rfl).trans hb_
      have hn2_ : (S_.1 13 0 2) = (n_ : Int) := (hF_.1 13 0 2 rfl).trans hn_
      have hbb_ : ∀ k_, -128 ≤ b_ k_ ∧ b_ k_ ≤ 127 := fun k_ => by rw [← hb1_]; exact hI_.2 118 0 k_
      obtain ⟨i_, hk_, hin_, h2_, h3_⟩ := h1_
      have ek_ : k_.toNat = p_ + i_ := by omega
      have ett_ : tt_.toNat = t_ := by omega
      have hbi_ := hbb_ (p_ + i_)
      have hbl_ := rb_l (n := n_) hbi_
      have hbg_ := rb_g (n := n_) hbi_
      have ei_ : (k_ - p_).toNat = i_ := by omega
      have hv_ := lx_v_b (b := b_) (p := p_) (k := min i_ 6) (by omega) (fun j_ hj_ => h3_ j_ (by omega))
      have hv2_ : (10 : Int) ^ (min i_ 6) ≤ 10 ^ 6 := by exact_mod_cast Nat.pow_le_pow_right (by decide) (show min i_ 6 ≤ 6 by omega)
      have hv3_ : (10 : Int) ^ 6 = 1000000 := by decide
      refine sm_T_go 2 (c1 := (254, [some (.inr (.inr (some (13, 0)))), some (.inl f_), some (.inl tt_), some (.inl k_), some (.inl c_), none, none], [.inl k_, .inr (.inr (some (13, 0)))], S_)) rfl ?_
      refine sm_T_cal (d1 := 0) (Q1 := vq_282 k_ b_ n_ S_) rfl rfl (by decide) (vc_282 k_ b_ n_ S_ hI_ (by exact hb1_) (by exact hn2_) (by exact hn1_) (by omega)) (fun u_ S1_ p4_ => ?_)
      obtain ⟨rfl, v6_, rfl, p4_⟩ := p4_
      have hc254_ := p4_
      rw [ek_] at hc254_
      refine sm_T_cal (d1 := 0) (Q1 := vq_284 v6_ S_) rfl rfl (by decide) (vc_284 v6_ S_ hI_ ) (fun u_ S7_ p10_ => ?_)
      obtain ⟨rfl, v12_, rfl, p10_⟩ := p10_
      have hg257_ := if01 p10_
      rw [hc254_, hbg_] at hg257_
      refine sm_T_b0 (a := 0) (z := 50) rfl (fun c13_ => ?_) (fun c13_ => ?_)
      · have c13_ : v12_ = 0 := of_decide_eq_true c13_
        refine sm_T_go 5 (c1 := (317, [some (.inr (.inr (some (13, 0)))), some (.inl f_), some (.inl tt_), some (.inl k_), some (.inl c_), none, none], [.inl f_, .inl k_, .inl tt_, .inr (.inr (some (119, 0)))], S_)) rfl ?_
        refine sm_T_bin (w := k_ - f_) rfl (bi_sub (by omega) (by omega) (by omega)) ?_
        refine sm_T_go 1 (c1 := (320, [some (.inr (.inr (some (13, 0)))), some (.inl f_), some (.inl tt_), some (.inl k_), some (.inl c_), none, none], [.inl 6, .inl (k_ - f_), .inl tt_, .inr (.inr (some (119, 0)))], S_)) rfl ?_
        refine sm_T_br (a := 5) (z := 7) rfl (fun c14_ => ?_) (fun c14_ => ?_)
        · have c14_ : k_ - f_ ≤ 6 := of_decide_eq_true c14_
          refine sm_T_go 2 (c1 := (329, [some (.inr (.inr (some (13, 0)))), some (.inl f_), some (.inl tt_), some (.inl k_), some (.inl c_), none, none], [.inl 2, .inl tt_, .inr (.inr (some (119, 0)))], S_)) rfl ?_
          refine sm_T_bas1 (n := 65537) rfl rfl (by omega) (by omega) (by decide) ?_
          have hI15_ : gi (sm_aI S_ 119 0 tt_.toNat 2) := gi_aI hI_ (show (-128) ≤ 2 ∧ 2 ≤ 127 from ⟨by omega, by omega⟩)
          have hF16_ : ai_fr (sx_W vw_290) S0_ (sm_aI S_ 119 0 tt_.toNat 2) := ai_fr_tr hF_ (ai_fr_aI rfl)
          refine sm_T_go 1 (c1 := (331, [some (.inr (.inr (some (13, 0)))), some (.inl f_), some (.inl tt_), some (.inl k_), some (.inl c_), none, none], [.inl k_], sm_aI S_ 119 0 tt_.toNat 2)) rfl ?_
          refine sm_T_ri rfl ⟨_, _, rfl, _, rfl, hI15_, hF16_, ?_⟩
          have e4_ : lx_de b_ n_ p_ = p_ + i_ := by rw [← h2_, lx_f_go]; exact if_neg (by omega)
          have hkd_ : lx_kd b_ n_ p_ = if i_ ≤ 6 then 2 else -1 := by unfold lx_kd; rw [if_neg (by omega), if_neg h0_.2.1, if_pos h0_.2.2, e4_, show p_ + i_ - p_ = i_ by omega]
          have hen_ : lx_en b_ n_ p_ = p_ + i_ := by unfold lx_en; rw [if_neg (by omega), if_neg h0_.2.1, if_pos h0_.2.2, e4_]
          have hvl_ : lx_vl b_ n_ p_ = lx_v b_ p_ (min i_ 6) := by unfold lx_vl; rw [e4_, show p_ + i_ - p_ = i_ by omega]
          rw [ei_] at h4_
          (try simp only [rd_eq, rd_ne, rf_eq, rf_nk, rf_nt, rd_fa, rd_af, rd_fl, rd_al, rd_lf, rd_la, rd_leq, rd_lne, rd_fr, rd_ar, ne_eq, Nat.reduceEqDiff, not_false_eq_true] at *)
          simp only [ett_, if_true, reduceIte] at *
          refine ⟨by omega, ⟨h5_, ?_, ?_, ?_⟩, ?_⟩
          · rw [hkd_]; first | (rw [if_pos (by omega)]; rfl) | (rw [if_neg (by omega)]; rfl)
          · intro hx_; rw [hkd_] at hx_ ⊢; by_cases hi_ : i_ ≤ 6
            · rw [if_pos hi_, hvl_]; exact h4_
            · exact absurd (if_neg hi_) hx_
          · rw [hkd_]; intro h_; split at h_ <;> omega
          · intro j_ hj_; have hu_ := h6_ j_ hj_; simp only [if_neg hj_]; exact hu_
        · have c14_ : ¬ (k_ - f_ ≤ 6) := of_decide_eq_false c14_
          refine sm_T_go 3 (c1 := (329, [some (.inr (.inr (some (13, 0)))), some (.inl f_), some (.inl tt_), some (.inl k_), some (.inl c_), none, none], [.inl 4, .inl tt_, .inr (.inr (some (119, 0)))], S_)) rfl ?_
          refine sm_T_bas1 (n := 65537) rfl rfl (by omega) (by omega) (by decide) ?_
          have hI17_ : gi (sm_aI S_ 119 0 tt_.toNat 4) := gi_aI hI_ (show (-128) ≤ 4 ∧ 4 ≤ 127 from ⟨by omega, by omega⟩)
          have hF18_ : ai_fr (sx_W vw_290) S0_ (sm_aI S_ 119 0 tt_.toNat 4) := ai_fr_tr hF_ (ai_fr_aI rfl)
          refine sm_T_go 1 (c1 := (331, [some (.inr (.inr (some (13, 0)))), some (.inl f_), some (.inl tt_), some (.inl k_), some (.inl c_), none, none], [.inl k_], sm_aI S_ 119 0 tt_.toNat 4)) rfl ?_
          refine sm_T_ri rfl ⟨_, _, rfl, _, rfl, hI17_, hF18_, ?_⟩
          have e4_ : lx_de b_ n_ p_ = p_ + i_ := by rw [← h2_, lx_f_go]; exact if_neg (by omega)
          have hkd_ : lx_kd b_ n_ p_ = if i_ ≤ 6 then 2 else -1 := by unfold lx_kd; rw [if_neg (by omega), if_neg h0_.2.1, if_pos h0_.2.2, e4_, show p_ + i_ - p_ = i_ by omega]
          have hen_ : lx_en b_ n_ p_ = p_ + i_ := by unfold lx_en; rw [if_neg (by omega), if_neg h0_.2.1, if_pos h0_.2.2, e4_]
          have hvl_ : lx_vl b_ n_ p_ = lx_v b_ p_ (min i_ 6) := by unfold lx_vl; rw [e4_, show p_ + i_ - p_ = i_ by omega]
          rw [ei_] at h4_
          (try simp only [rd_eq, rd_ne, rf_eq, rf_nk, rf_nt, rd_fa, rd_af, rd_fl, rd_al, rd_lf, rd_la, rd_leq, rd_lne, rd_fr, rd_ar, ne_eq, Nat.reduceEqDiff, not_false_eq_true] at *)
          simp only [ett_, if_true, reduceIte] at *
          refine ⟨by omega, ⟨h5_, ?_, ?_, ?_⟩, ?_⟩
          · rw [hkd_]; first | (rw [if_pos (by omega)]; rfl) | (rw [if_neg (by omega)]; rfl)
          · intro hx_; rw [hkd_] at hx_ ⊢; by_cases hi_ : i_ ≤ 6
            · rw [if_pos hi_, hvl_]; exact h4_
            · exact absurd (if_neg hi_) hx_
          · rw [hkd_]; intro h_; split at h_ <;> omega
          · intro j_ hj_; have hu_ := h6_ j_ hj_; simp only [if_neg hj_]; exact hu_
      · have c13_ : ¬ (v12_ = 0) := of_decide_eq_false c13_
        refine sm_T_go 5 (c1 := (270, [some (.inr (.inr (some (13, 0)))), some (.inl f_), some (.inl tt_), some (.inl k_), some (.inl c_), none, none], [.inl f_, .inl k_, .inl tt_, .inr (.inr (some (121, 0)))], S_)) rfl ?_
        refine sm_T_bin (w := k_ - f_) rfl (bi_sub (by omega) (by omega) (by omega)) ?_
        refine sm_T_go 1 (c1 := (273, [some (.inr (.inr (some (13, 0)))), some (.inl f_), some (.inl tt_), some (.inl k_), some (.inl c_), none, none], [.inl 6, .inl (k_ - f_), .inl tt_, .inr (.inr (some (121, 0)))], S_)) rfl ?_
        refine sm_T_br (a := 3) (z := 24) rfl (fun c19_ => ?_) (fun c19_ => ?_)
        · have c19_ : 6 ≤ k_ - f_ := of_decide_eq_true c19_
          refine sm_T_go 3 (c1 := (302, [some (.inr (.inr (some (13, 0)))), some (.inl f_), some (.inl tt_), some (.inl k_), some (.inl c_), none, none], [.inl tt_, .inr (.inr (some (121, 0))), .inl tt_, .inr (.inr (some (121, 0)))], S_)) rfl ?_
          refine sm_T_iald (n := 65537) rfl rfl (by omega) (by omega) ?_
          have b20_ : (-2147483648) ≤ S_.2.2.1 121 0 tt_.toNat ∧ S_.2.2.1 121 0 tt_.toNat ≤ 2147483647 := hI_.2 121 0 _
          refine sm_T_iast (n := 65537) rfl rfl (by omega) (by omega) ?_
          have hI21_ : gi (sm_aI S_ 121 0 tt_.toNat (S_.2.2.1 121 0 tt_.toNat)) := gi_aI hI_ (show (-2147483648) ≤ (S_.2.2.1 121 0 tt_.toNat) ∧ (S_.2.2.1 121 0 tt_.toNat) ≤ 2147483647 from ⟨by omega, by omega⟩)
          have hF22_ : ai_fr (sx_W vw_290) S0_ (sm_aI S_ 121 0 tt_.toNat (S_.2.2.1 121 0 tt_.toNat)) := ai_fr_tr hF_ (ai_fr_aI rfl)
          refine sm_T_inc (a := 3) (z := 1) (v := k_) (w := k_ + 1) rfl rfl (by omega) (by omega) (by omega) ?_
          refine sm_T_go 1 (c1 := (252, [some (.inr (.inr (some (13, 0)))), some (.inl f_), some (.inl tt_), some (.inl (k_ + 1)), some (.inl c_), none, none], [], sm_aI S_ 121 0 tt_.toNat (S_.2.2.1 121 0 tt_.toNat))) rfl ?_
          refine ih_.2.1 tt_ (k_ + 1) c_ (sm_aI S_ 121 0 tt_.toNat (S_.2.2.1 121 0 tt_.toNat)) hI21_ hF22_ ⟨?_, ?_, ?_, ?_, ?_, trivial⟩ ?_
          · exact h0_
          · refine ⟨i_ + 1, by omega, by omega, ?_, ?_⟩
            · rw [← h2_, lx_f_go (p := p_ + i_)]
              rw [if_pos (by omega)]; rfl
            · intro j_ hj_; by_cases hq_ : j_ = i_
              · rw [hq_]; omega
              · exact h3_ j_ (by omega)
          · rw [show (k_ + 1 - p_).toNat = i_ + 1 by omega]
            try rw [ei_] at h4_
            (try simp only [rd_eq, rd_ne, rf_eq, rf_nk, rf_nt, rd_fa, rd_af, rd_fl, rd_al, rd_lf, rd_la, rd_leq, rd_lne, rd_fr, rd_ar, ne_eq, Nat.reduceEqDiff, not_false_eq_true])
            simp only [ett_, if_true, reduceIte]
            have hbv_ : ∀ v_ : Int, v_ = rb b_ n_ (p_ + i_) → v_ = b_ (p_ + i_) := by intro v_ hv_; rw [hv_]; unfold rb; rw [if_pos (by omega)]; omega
            first | (rw [show min (i_ + 1) 6 = min i_ 6 by omega]; exact h4_) | (rw [show min (i_ + 1) 6 = i_ + 1 by omega]; unfold lx_v; rw [← ett_, h44_]; omega)
          · (try simp only [rd_eq, rd_ne, rf_eq, rf_nk, rf_nt, rd_fa, rd_af, rd_fl, rd_al, rd_lf, rd_la, rd_leq, rd_lne, rd_fr, rd_ar, ne_eq, Nat.reduceEqDiff, not_false_eq_true])
            exact h5_
          · intro j_ hj_
            have hu_ := h6_ j_ hj_
            (try simp only [rd_eq, rd_ne, rf_eq, rf_nk, rf_nt, rd_fa, rd_af, rd_fl, rd_al, rd_lf, rd_la, rd_leq, rd_lne, rd_fr, rd_ar, ne_eq, Nat.reduceEqDiff, not_false_eq_true])
            simp only [ett_, if_neg hj_]
            exact hu_
          · omega
        · have c19_ : ¬ (6 ≤ k_ - f_) := of_decide_eq_false c19_
          rw [ei_] at h4_
          have hw6_ := lx_v_c (b := b_) (p := p_) (k := i_) (by omega) h3_ (by omega)
          have hm6_ : min i_ 6 = i_ := by omega
          have h44_ : S_.2.2.1 121 0 tt_.toNat = lx_v b_ p_ i_ := by rw [ett_, h4_, hm6_]
          have hcb_ : rb b_ n_ (p_ + i_) = b_ (p_ + i_) := by unfold rb; rw [if_pos (by omega)]; omega
          refine sm_T_go 4 (c1 := (283, [some (.inr (.inr (some (13, 0)))), some (.inl f_), some (.inl tt_), some (.inl k_), some (.inl c_), none, none], [.inl tt_, .inr (.inr (some (121, 0))), .inl 10, .inl tt_, .inr (.inr (some (121, 0)))], S_)) rfl ?_
          refine sm_T_iald (n := 65537) rfl rfl (by omega) (by omega) ?_
          have b23_ : (-2147483648) ≤ S_.2.2.1 121 0 tt_.toNat ∧ S_.2.2.1 121 0 tt_.toNat ≤ 2147483647 := hI_.2 121 0 _
          refine sm_T_bin (w := 10 * (S_.2.2.1 121 0 tt_.toNat)) rfl (bi_mul (by omega) (by omega) (by omega)) ?_
          refine sm_T_go 2 (c1 := (287, [some (.inr (.inr (some (13, 0)))), some (.inl f_), some (.inl tt_), some (.inl k_), some (.inl c_), none, none], [.inl k_, .inr (.inr (some (13, 0))), .inl (10 * (S_.2.2.1 121 0 tt_.toNat)), .inl tt_, .inr (.inr (some (121, 0)))], S_)) rfl ?_
          refine sm_T_cal (d1 := 0) (Q1 := vq_282 k_ b_ n_ S_) rfl rfl (by decide) (vc_282 k_ b_ n_ S_ hI_ (by exact hb1_) (by exact hn2_) (by exact hn1_) (by omega)) (fun u_ S24_ p27_ => ?_)
          obtain ⟨rfl, v29_, rfl, p27_⟩ := p27_
          have hc287_ := p27_
          rw [ek_] at hc287_
          refine sm_T_bin (w := 10 * (S_.2.2.1 121 0 tt_.toNat) + v29_) rfl (bi_add (by omega) (by omega) (by omega)) ?_
          refine sm_T_go 1 (c1 := (293, [some (.inr (.inr (some (13, 0)))), some (.inl f_), some (.inl tt_), some (.inl k_), some (.inl c_), none, none], [.inl 48, .inl (10 * (S_.2.2.1 121 0 tt_.toNat) + v29_), .inl tt_, .inr (.inr (some (121, 0)))], S_)) rfl ?_
          refine sm_T_bin (w := 10 * (S_.2.2.1 121 0 tt_.toNat) + v29_ - 48) rfl (bi_sub (by omega) (by omega) (by omega)) ?_
          refine sm_T_go 1 (c1 := (303, [some (.inr (.inr (some (13, 0)))), some (.inl f_), some (.inl tt_), some (.inl k_), some (.inl c_), none, none], [.inl (10 * (S_.2.2.1 121 0 tt_.toNat) + v29_ - 48), .inl tt_, .inr (.inr (some (121, 0)))], S_)) rfl ?_
          refine sm_T_iast (n := 65537) rfl rfl (by omega) (by omega) ?_
          have hI30_ : gi (sm_aI S_ 121 0 tt_.toNat (10 * (S_.2.2.1 121 0 tt_.toNat) + v29_ - 48)) := gi_aI hI_ (show (-2147483648) ≤ 10 * (S_.2.2.1 121 0 tt_.toNat) + v29_ - 48 ∧ 10 * (S_.2.2.1 121 0 tt_.toNat) + v29_ - 48 ≤ 2147483647 from ⟨by omega, by omega⟩)
          have hF31_ : ai_fr (sx_W vw_290) S0_ (sm_aI S_ 121 0 tt_.toNat (10 * (S_.2.2.1 121 0 tt_.toNat) + v29_ - 48)) := ai_fr_tr hF_ (ai_fr_aI rfl)
          refine sm_T_inc (a := 3) (z := 1) (v := k_) (w := k_ + 1) rfl rfl (by omega) (by omega) (by omega) ?_
          refine sm_T_go 1 (c1 := (252, [some (.inr (.inr (some (13, 0)))), some (.inl f_), some (.inl tt_), some (.inl (k_ + 1)), some (.inl c_), none, none], [], sm_aI S_ 121 0 tt_.toNat (10 * (S_.2.2.1 121 0 tt_.toNat) + v29_ - 48))) rfl ?_
          refine ih_.2.1 tt_ (k_ + 1) c_ (sm_aI S_ 121 0 tt_.toNat (10 * (S_.2.2.1 121 0 tt_.toNat) + v29_ - 48)) hI30_ hF31_ ⟨?_, ?_, ?_, ?_, ?_, trivial⟩ ?_
          · exact h0_
          · refine ⟨i_ + 1, by omega, by omega, ?_, ?_⟩
            · rw [← h2_, lx_f_go (p := p_ + i_)]
              rw [if_pos (by omega)]; rfl
            · intro j_ hj_; by_cases hq_ : j_ = i_
              · rw [hq_]; omega
              · exact h3_ j_ (by omega)
          · rw [show (k_ + 1 - p_).toNat = i_ + 1 by omega]
            try rw [ei_] at h4_
            (try simp only [rd_eq, rd_ne, rf_eq, rf_nk, rf_nt, rd_fa, rd_af, rd_fl, rd_al, rd_lf, rd_la, rd_leq, rd_lne, rd_fr, rd_ar, ne_eq, Nat.reduceEqDiff, not_false_eq_true])
            simp only [ett_, if_true, reduceIte]
            have hbv_ : ∀ v_ : Int, v_ = rb b_ n_ (p_ + i_) → v_ = b_ (p_ + i_) := by intro v_ hv_; rw [hv_]; unfold rb; rw [if_pos (by omega)]; omega
            first | (rw [show min (i_ + 1) 6 = min i_ 6 by omega]; exact h4_) | (rw [show min (i_ + 1) 6 = i_ + 1 by omega]; unfold lx_v; rw [← ett_, h44_]; omega)
          · (try simp only [rd_eq, rd_ne, rf_eq, rf_nk, rf_nt, rd_fa, rd_af, rd_fl, rd_al, rd_lf, rd_la, rd_leq, rd_lne, rd_fr, rd_ar, ne_eq, Nat.reduceEqDiff, not_false_eq_true])
            exact h5_
          · intro j_ hj_
            have hu_ := h6_ j_ hj_
            (try simp only [rd_eq, rd_ne, rf_eq, rf_nk, rf_nt, rd_fa, rd_af, rd_fl, rd_al, rd_lf, rd_la, rd_leq, rd_lne, rd_fr, rd_ar, ne_eq, Nat.reduceEqDiff, not_false_eq_true])
            simp only [ett_, if_neg hj_]
            exact hu_
          · omega
    · rintro tt_ k_ c_ S_ hI_ hF_ ⟨h0_, h1_, h5_, h6_, -⟩ hm_
      have hb1_ : S_.2.2.1 118 0 = b_ := (fr_arr hF_ rfl).trans hb_
      have hn2_ : (S_.1 13 0 2) = (n_ : Int) := (hF_.1 13 0 2 rfl).trans hn_
      have hbb_ : ∀ k_, -128 ≤ b_ k_ ∧ b_ k_ ≤ 127 := fun k_ => by rw [← hb1_]; exact hI_.2 118 0 k_
      obtain ⟨h01_, h02_, h03_⟩ := h0_
      have ett_ : tt_.toNat = t_ := by omega
      have hbi_ := hbb_ p_
      have hrp_ : c_ = b_ p_ % 256 := by rw [h03_]; unfold rb; rw [if_pos hpn_]
      refine sm_T_go 2 (c1 := (336, [some (.inr (.inr (some (13, 0)))), some (.inl f_), some (.inl tt_), some (.inl k_), some (.inl c_), none, none], [.inl 60, .inl c_], S_)) rfl ?_
      refine sm_T_br (a := 1) (z := 19) rfl (fun c1_ => ?_) (fun c1_ => ?_)
      · have c1_ : c_ ≠ 60 := of_decide_eq_true c1_
        refine sm_T_go 4 (c1 := (362, [some (.inr (.inr (some (13, 0)))), some (.inl f_), some (.inl tt_), some (.inl k_), some (.inl c_), some (.inl 0), none], [.inl 61, .inl c_], S_)) rfl ?_
        refine sm_T_br (a := 1) (z := 19) rfl (fun c2_ => ?_) (fun c2_ => ?_)
        · have c2_ : c_ ≠ 61 := of_decide_eq_true c2_
          refine sm_T_go 8 (c1 := (396, [some (.inr (.inr (some (13, 0)))), some (.inl f_), some (.inl tt_), some (.inl k_), some (.inl c_), some (.inl 0), some (.inl 0)], [.inl c_, .inl tt_, .inr (.inr (some (119, 0)))], S_)) rfl ?_
          refine sm_T_cal (d1 := 0) (Q1 := vq_289 c_ S_) rfl rfl (by decide) (vc_289 c_ S_ hI_ ) (fun u_ S3_ p6_ => ?_)
          obtain ⟨rfl, v8_, rfl, p6_⟩ := p6_
          have hs396_ : hide (_ ∨ _) := if01 p6_
          rw [h03_, rb_s hbi_] at hs396_
          clear p6_
          refine sm_T_b0 (a := 0) (z := 7) rfl (fun c9_ => ?_) (fun c9_ => ?_)
          · have c9_ : v8_ = 0 := of_decide_eq_true c9_
            refine sm_T_go 2 (c1 := (408, [some (.inr (.inr (some (13, 0)))), some (.inl f_), some (.inl tt_), some (.inl k_), some (.inl c_), some (.inl 0), some (.inl 0)], [.inl 4, .inl tt_, .inr (.inr (some (119, 0)))], S_)) rfl ?_
            refine sm_T_bas1 (n := 65537) rfl rfl (by omega) (by omega) (by decide) ?_
            have hI10_ : gi (sm_aI S_ 119 0 tt_.toNat 4) := gi_aI hI_ (show (-128) ≤ 4 ∧ 4 ≤ 127 from ⟨by omega, by omega⟩)
            have hF11_ : ai_fr (sx_W vw_290) S0_ (sm_aI S_ 119 0 tt_.toNat 4) := ai_fr_tr hF_ (ai_fr_aI rfl)
            refine sm_T_go 8 (c1 := (438, [some (.inr (.inr (some (13, 0)))), some (.inl f_), some (.inl tt_), some (.inl k_), some (.inl c_), some (.inl 0), some (.inl 0)], [.inl c_, .inl tt_, .inr (.inr (some (121, 0)))], sm_aI S_ 119 0 tt_.toNat 4)) rfl ?_
            refine sm_T_iast (n := 65537) rfl rfl (by omega) (by omega) ?_
            have hI12_ : gi (sm_aI (sm_aI S_ 119 0 tt_.toNat 4) 121 0 tt_.toNat c_) := gi_aI hI10_ (show (-2147483648) ≤ c_ ∧ c_ ≤ 2147483647 from ⟨by omega, by omega⟩)
            have hF13_ : ai_fr (sx_W vw_290) S0_ (sm_aI (sm_aI S_ 119 0 tt_.toNat 4) 121 0 tt_.toNat c_) := ai_fr_tr hF11_ (ai_fr_aI rfl)
            refine sm_T_go 6 (c1 := (455, [some (.inr (.inr (some (13, 0)))), some (.inl f_), some (.inl tt_), some (.inl k_), some (.inl c_), some (.inl 0), some (.inl 0)], [.inl 1, .inl k_], sm_aI (sm_aI S_ 119 0 tt_.toNat 4) 121 0 tt_.toNat c_)) rfl ?_
            refine sm_T_bin (w := k_ + 1) rfl (bi_add (by omega) (by omega) (by omega)) ?_
            refine sm_T_ri rfl ⟨_, _, rfl, _, rfl, hI12_, hF13_, ?_⟩
            have hkd_ : lx_kd b_ n_ p_ = if lx_sk b_ n_ p_ = 0 then -1 else lx_sk b_ n_ p_ := by unfold lx_kd; rw [if_neg (Nat.not_le.mpr hpn_), if_neg (show ¬ lx_l (b_ p_) from (hide_o h1_).1), if_neg (show ¬ lx_g (b_ p_) from (hide_o h1_).2)]
            have hen_ : lx_en b_ n_ p_ = lx_sn b_ n_ p_ := by unfold lx_en; rw [if_neg (Nat.not_le.mpr hpn_), if_neg (show ¬ lx_l (b_ p_) from (hide_o h1_).1), if_neg (show ¬ lx_g (b_ p_) from (hide_o h1_).2)]
            first | (have hsn_ : lx_sn b_ n_ p_ = p_ + 2 := if_pos ⟨by omega, by omega, by omega⟩) | (have hsn_ : lx_sn b_ n_ p_ = p_ + 2 := by unfold lx_sn; rw [if_neg (by omega), if_pos ⟨by omega, by omega, by omega⟩]) | (have hsn_ : lx_sn b_ n_ p_ = p_ + 1 := by unfold lx_sn; rw [if_neg (by omega), if_neg (by omega)])
            first | (have hsk_ : lx_sk b_ n_ p_ = 256 := if_pos ⟨by omega, by omega, by omega⟩) | (have hsk_ : lx_sk b_ n_ p_ = 257 := by unfold lx_sk; rw [if_neg (by omega), if_pos ⟨by omega, by omega, by omega⟩]) | (have hsk_ : lx_sk b_ n_ p_ = b_ p_ ∧ 33 ≤ b_ p_ := by unfold lx_sk; rw [if_neg (by omega), if_neg (by omega)]; rcases hide_o hs396_ with hs_ | hs_; (refine ⟨if_pos hs_.2.2, ?_⟩; rcases hs_.2.2 with q_ | q_ | q_ | q_ | q_ | q_ | q_ | q_ | q_ | q_ | q_ | q_ | q_ | q_ | q_ | q_ <;> (rw [q_]; decide)); (exfalso; have hs1_ := hs_.1; clear hs_; omega)) | (have hsk_ : lx_sk b_ n_ p_ = 0 := by unfold lx_sk; rw [if_neg (by omega), if_neg (by omega)]; rcases hide_o hs396_ with hs_ | hs_; (exfalso; have hs1_ := hs_.1; clear hs_; omega); (exact if_neg (fun hh_ => hs_.2 ⟨hpn_, hh_⟩)))
            (try simp only [rd_eq, rd_ne, rf_eq, rf_nk, rf_nt, rd_fa, rd_af, rd_fl, rd_al, rd_lf, rd_la, rd_leq, rd_lne, rd_fr, rd_ar, ne_eq, Nat.reduceEqDiff, not_false_eq_true] at *)
            simp only [ett_, if_true, reduceIte] at *
            refine ⟨?_, ⟨h5_, ?_, ?_, ?_⟩, ?_⟩
            · rw [hen_, hsn_]; push_cast; omega
            · rw [hkd_]; first | (rw [if_neg (by omega)]; exact (tk_g (show 33 ≤ lx_sk b_ n_ p_ by omega)).1) | (rw [if_pos (by omega)]; rfl) | (exfalso; rcases hide_o hs396_ with hs_ | hs_; (have hs1_ := hs_.1; clear hs_; omega); (refine hs_.2 ⟨hpn_, ?_⟩; have hb61_ : b_ p_ = 61 := (by clear hs_; omega); rw [hb61_]; decide))
            · intro hx_; rw [hkd_] at hx_ ⊢; by_cases hz_ : lx_sk b_ n_ p_ = 0
              · exact absurd (if_pos hz_) hx_
              · rw [if_neg hz_, ← (tk_g (show 33 ≤ lx_sk b_ n_ p_ by omega)).2 (lx_vl b_ n_ p_)]; omega
            · rw [hkd_]; intro h_; split at h_ <;> omega
            · intro j_ hj_; have hu_ := h6_ j_ hj_; simp only [if_neg hj_]; exact hu_
          · have c9_ : ¬ (v8_ = 0) := of_decide_eq_false c9_
            refine sm_T_go 3 (c1 := (408, [some (.inr (.inr (some (13, 0)))), some (.inl f_), some (.inl tt_), some (.inl k_), some (.inl c_), some (.inl 0), some (.inl 0)], [.inl 3, .inl tt_, .inr (.inr (some (119, 0)))], S_)) rfl ?_
            refine sm_T_bas1 (n := 65537) rfl rfl (by omega) (by omega) (by decide) ?_
            have hI14_ : gi (sm_aI S_ 119 0 tt_.toNat 3) := gi_aI hI_ (show (-128) ≤ 3 ∧ 3 ≤ 127 from ⟨by omega, by omega⟩)
            have hF15_ : ai_fr (sx_W vw_290) S0_ (sm_aI S_ 119 0 tt_.toNat 3) := ai_fr_tr hF_ (ai_fr_aI rfl)
            refine sm_T_go 8 (c1 := (438, [some (.inr (.inr (some (13, 0)))), some (.inl f_), some (.inl tt_), some (.inl k_), some (.inl c_), some (.inl 0), some (.inl 0)], [.inl c_, .inl tt_, .inr (.inr (some (121, 0)))], sm_aI S_ 119 0 tt_.toNat 3)) rfl ?_
            refine sm_T_iast (n := 65537) rfl rfl (by omega) (by omega) ?_
            have hI16_ : gi (sm_aI (sm_aI S_ 119 0 tt_.toNat 3) 121 0 tt_.toNat c_) := gi_aI hI14_ (show (-2147483648) ≤ c_ ∧ c_ ≤ 2147483647 from ⟨by omega, by omega⟩)
            have hF17_ : ai_fr (sx_W vw_290) S0_ (sm_aI (sm_aI S_ 119 0 tt_.toNat 3) 121 0 tt_.toNat c_) := ai_fr_tr hF15_ (ai_fr_aI rfl)
            refine sm_T_go 6 (c1 := (455, [some (.inr (.inr (some (13, 0)))), some (.inl f_), some (.inl tt_), some (.inl k_), some (.inl c_), some (.inl 0), some (.inl 0)], [.inl 1, .inl k_], sm_aI (sm_aI S_ 119 0 tt_.toNat 3) 121 0 tt_.toNat c_)) rfl ?_
            refine sm_T_bin (w := k_ + 1) rfl (bi_add (by omega) (by omega) (by omega)) ?_
            refine sm_T_ri rfl ⟨_, _, rfl, _, rfl, hI16_, hF17_, ?_⟩
            have hkd_ : lx_kd b_ n_ p_ = if lx_sk b_ n_ p_ = 0 then -1 else lx_sk b_ n_ p_ := by unfold lx_kd; rw [if_neg (Nat.not_le.mpr hpn_), if_neg (show ¬ lx_l (b_ p_) from (hide_o h1_).1), if_neg (show ¬ lx_g (b_ p_) from (hide_o h1_).2)]
            have hen_ : lx_en b_ n_ p_ = lx_sn b_ n_ p_ := by unfold lx_en; rw [if_neg (Nat.not_le.mpr hpn_), if_neg (show ¬ lx_l (b_ p_) from (hide_o h1_).1), if_neg (show ¬ lx_g (b_ p_) from (hide_o h1_).2)]
            first | (have hsn_ : lx_sn b_ n_ p_ = p_ + 2 := if_pos ⟨by omega, by omega, by omega⟩) | (have hsn_ : lx_sn b_ n_ p_ = p_ + 2 := by unfold lx_sn; rw [if_neg (by omega), if_pos ⟨by omega, by omega, by omega⟩]) | (have hsn_ : lx_sn b_ n_ p_ = p_ + 1 := by unfold lx_sn; rw [if_neg (by omega), if_neg (by omega)])
            first | (have hsk_ : lx_sk b_ n_ p_ = 256 := if_pos ⟨by omega, by omega, by omega⟩) | (have hsk_ : lx_sk b_ n_ p_ = 257 := by unfold lx_sk; rw [if_neg (by omega), if_pos ⟨by omega, by omega, by omega⟩]) | (have hsk_ : lx_sk b_ n_ p_ = b_ p_ ∧ 33 ≤ b_ p_ := by unfold lx_sk; rw [if_neg (by omega), if_neg (by omega)]; rcases hide_o hs396_ with hs_ | hs_; (refine ⟨if_pos hs_.2.2, ?_⟩; rcases hs_.2.2 with q_ | q_ | q_ | q_ | q_ | q_ | q_ | q_ | q_ | q_ | q_ | q_ | q_ | q_ | q_ | q_ <;> (rw [q_]; decide)); (exfalso; have hs1_ := hs_.1; clear hs_; omega)) | (have hsk_ : lx_sk b_ n_ p_ = 0 := by unfold lx_sk; rw [if_neg (by omega), if_neg (by omega)]; rcases hide_o hs396_ with hs_ | hs_; (exfalso; have hs1_ := hs_.1; clear hs_; omega); (exact if_neg (fun hh_ => hs_.2 ⟨hpn_, hh_⟩)))
            (try simp only [rd_eq, rd_ne, rf_eq, rf_nk, rf_nt, rd_fa, rd_af, rd_fl, rd_al, rd_lf, rd_la, rd_leq, rd_lne, rd_fr, rd_ar, ne_eq, Nat.reduceEqDiff, not_false_eq_true] at *)
            simp only [ett_, if_true, reduceIte] at *
            refine ⟨?_, ⟨h5_, ?_, ?_, ?_⟩, ?_⟩
            · rw [hen_, hsn_]; push_cast; omega
            · rw [hkd_]; first | (rw [if_neg (by omega)]; exact (tk_g (show 33 ≤ lx_sk b_ n_ p_ by omega)).1) | (rw [if_pos (by omega)]; rfl) | (exfalso; rcases hide_o hs396_ with hs_ | hs_; (have hs1_ := hs_.1; clear hs_; omega); (refine hs_.2 ⟨hpn_, ?_⟩; have hb61_ : b_ p_ = 61 := (by clear hs_; omega); rw [hb61_]; decide))
            · intro hx_; rw [hkd_] at hx_ ⊢; by_cases hz_ : lx_sk b_ n_ p_ = 0
              · exact absurd (if_pos hz_) hx_
              · rw [if_neg hz_, ← (tk_g (show 33 ≤ lx_sk b_ n_ p_ by omega)).2 (lx_vl b_ n_ p_)]; omega
            · rw [hkd_]; intro h_; split at h_ <;> omega
            · intro j_ hj_; have hu_ := h6_ j_ hj_; simp only [if_neg hj_]; exact hu_
        · have c2_ : ¬ (c_ ≠ 61) := of_decide_eq_false c2_
          refine sm_T_go 3 (c1 := (368, [some (.inr (.inr (some (13, 0)))), some (.inl f_), some (.inl tt_), some (.inl k_), some (.inl c_), some (.inl 0), none], [.inl 1, .inl k_, .inr (.inr (some (13, 0)))], S_)) rfl ?_
          refine sm_T_bin (w := k_ + 1) rfl (bi_add (by omega) (by omega) (by omega)) ?_
          refine sm_T_cal (d1 := 0) (Q1 := vq_282 (k_ + 1) b_ n_ S_) rfl rfl (by decide) (vc_282 (k_ + 1) b_ n_ S_ hI_ (by exact hb1_) (by exact hn2_) (by exact hn1_) (by omega)) (fun u_ S18_ p21_ => ?_)
          obtain ⟨rfl, v23_, rfl, p21_⟩ := p21_
          have hd369_ : (v23_ = 61 ↔ p_ + 1 < n_ ∧ b_ (p_ + 1) = 61) := by rw [p21_, show (k_ + 1).toNat = p_ + 1 by omega]; exact rb_c (hbb_ (p_ + 1)) (by decide)
          clear p21_
          refine sm_T_go 1 (c1 := (374, [some (.inr (.inr (some (13, 0)))), some (.inl f_), some (.inl tt_), some (.inl k_), some (.inl c_), some (.inl 0), none], [.inl 61, .inl v23_], S_)) rfl ?_
          refine sm_T_br (a := 1) (z := 7) rfl (fun c24_ => ?_) (fun c24_ => ?_)
          · have c24_ : v23_ ≠ 61 := of_decide_eq_true c24_
            refine sm_T_go 8 (c1 := (396, [some (.inr (.inr (some (13, 0)))), some (.inl f_), some (.inl tt_), some (.inl k_), some (.inl c_), some (.inl 0), some (.inl 0)], [.inl c_, .inl tt_, .inr (.inr (some (119, 0)))], S_)) rfl ?_
            refine sm_T_cal (d1 := 0) (Q1 := vq_289 c_ S_) rfl rfl (by decide) (vc_289 c_ S_ hI_ ) (fun u_ S25_ p28_ => ?_)
            obtain ⟨rfl, v30_, rfl, p28_⟩ := p28_
            have hs396_ : hide (_ ∨ _) := if01 p28_
            rw [h03_, rb_s hbi_] at hs396_
            clear p28_
            refine sm_T_b0 (a := 0) (z := 7) rfl (fun c31_ => ?_) (fun c31_ => ?_)
            · have c31_ : v30_ = 0 := of_decide_eq_true c31_
              refine sm_T_go 2 (c1 := (408, [some (.inr (.inr (some (13, 0)))), some (.inl f_), some (.inl tt_), some (.inl k_), some (.inl c_), some (.inl 0), some (.inl 0)], [.inl 4, .inl tt_, .inr (.inr (some (119, 0)))], S_)) rfl ?_
              refine sm_T_bas1 (n := 65537) rfl rfl (by omega) (by omega) (by decide) ?_
              have hI32_ : gi (sm_aI S_ 119 0 tt_.toNat 4) := gi_aI hI_ (show (-128) ≤ 4 ∧ 4 ≤ 127 from ⟨by omega, by omega⟩)
              have hF33_ : ai_fr (sx_W vw_290) S0_ (sm_aI S_ 119 0 tt_.toNat 4) := ai_fr_tr hF_ (ai_fr_aI rfl)
              refine sm_T_go 8 (c1 := (438, [some (.inr (.inr (some (13, 0)))), some (.inl f_), some (.inl tt_), some (.inl k_), some (.inl c_), some (.inl 0), some (.inl 0)], [.inl c_, .inl tt_, .inr (.inr (some (121, 0)))], sm_aI S_ 119 0 tt_.toNat 4)) rfl ?_
              refine sm_T_iast (n := 65537) rfl rfl (by omega) (by omega) ?_
              have hI34_ : gi (sm_aI (sm_aI S_ 119 0 tt_.toNat 4) 121 0 tt_.toNat c_) := gi_aI hI32_ (show (-2147483648) ≤ c_ ∧ c_ ≤ 2147483647 from ⟨by omega, by omega⟩)
              have hF35_ : ai_fr (sx_W vw_290) S0_ (sm_aI (sm_aI S_ 119 0 tt_.toNat 4) 121 0 tt_.toNat c_) := ai_fr_tr hF33_ (ai_fr_aI rfl)
              refine sm_T_go 6 (c1 := (455, [some (.inr (.inr (some (13, 0)))), some (.inl f_), some (.inl tt_), some (.inl k_), some (.inl c_), some (.inl 0), some (.inl 0)], [.inl 1, .inl k_], sm_aI (sm_aI S_ 119 0 tt_.toNat 4) 121 0 tt_.toNat c_)) rfl ?_
              refine sm_T_bin (w := k_ + 1) rfl (bi_add (by omega) (by omega) (by omega)) ?_
              refine sm_T_ri rfl ⟨_, _, rfl, _, rfl, hI34_, hF35_, ?_⟩
              have hkd_ : lx_kd b_ n_ p_ = if lx_sk b_ n_ p_ = 0 then -1 else lx_sk b_ n_ p_ := by unfold lx_kd; rw [if_neg (Nat.not_le.mpr hpn_), if_neg (show ¬ lx_l (b_ p_) from (hide_o h1_).1), if_neg (show ¬ lx_g (b_ p_) from (hide_o h1_).2)]
              have hen_ : lx_en b_ n_ p_ = lx_sn b_ n_ p_ := by unfold lx_en; rw [if_neg (Nat.not_le.mpr hpn_), if_neg (show ¬ lx_l (b_ p_) from (hide_o h1_).1), if_neg (show ¬ lx_g (b_ p_) from (hide_o h1_).2)]
              first | (have hsn_ : lx_sn b_ n_ p_ = p_ + 2 := if_pos ⟨by omega, by omega, by omega⟩) | (have hsn_ : lx_sn b_ n_ p_ = p_ + 2 := by unfold lx_sn; rw [if_neg (by omega), if_pos ⟨by omega, by omega, by omega⟩]) | (have hsn_ : lx_sn b_ n_ p_ = p_ + 1 := by unfold lx_sn; rw [if_neg (by omega), if_neg (by omega)])
              first | (have hsk_ : lx_sk b_ n_ p_ = 256 := if_pos ⟨by omega, by omega, by omega⟩) | (have hsk_ : lx_sk b_ n_ p_ = 257 := by unfold lx_sk; rw [if_neg (by omega), if_pos ⟨by omega, by omega, by omega⟩]) | (have hsk_ : lx_sk b_ n_ p_ = b_ p_ ∧ 33 ≤ b_ p_ := by unfold lx_sk; rw [if_neg (by omega), if_neg (by omega)]; rcases hide_o hs396_ with hs_ | hs_; (refine ⟨if_pos hs_.2.2, ?_⟩; rcases hs_.2.2 with q_ | q_ | q_ | q_ | q_ | q_ | q_ | q_ | q_ | q_ | q_ | q_ | q_ | q_ | q_ | q_ <;> (rw [q_]; decide)); (exfalso; have hs1_ := hs_.1; clear hs_; omega)) | (have hsk_ : lx_sk b_ n_ p_ = 0 := by unfold lx_sk; rw [if_neg (by omega), if_neg (by omega)]; rcases hide_o hs396_ with hs_ | hs_; (exfalso; have hs1_ := hs_.1; clear hs_; omega); (exact if_neg (fun hh_ => hs_.2 ⟨hpn_, hh_⟩)))
              (try simp only [rd_eq, rd_ne, rf_eq, rf_nk, rf_nt, rd_fa, rd_af, rd_fl, rd_al, rd_lf, rd_la, rd_leq, rd_lne, rd_fr, rd_ar, ne_eq, Nat.reduceEqDiff, not_false_eq_true] at *)
              simp only [ett_, if_true, reduceIte] at *
              refine ⟨?_, ⟨h5_, ?_, ?_, ?_⟩, ?_⟩
              · rw [hen_, hsn_]; push_cast; omega
              · rw [hkd_]; first | (rw [if_neg (by omega)]; exact (tk_g (show 33 ≤ lx_sk b_ n_ p_ by omega)).1) | (rw [if_pos (by omega)]; rfl) | (exfalso; rcases hide_o hs396_ with hs_ | hs_; (have hs1_ := hs_.1; clear hs_; omega); (refine hs_.2 ⟨hpn_, ?_⟩; have hb61_ : b_ p_ = 61 := (by clear hs_; omega); rw [hb61_]; decide))
              · intro hx_; rw [hkd_] at hx_ ⊢; by_cases hz_ : lx_sk b_ n_ p_ = 0
                · exact absurd (if_pos hz_) hx_
                · rw [if_neg hz_, ← (tk_g (show 33 ≤ lx_sk b_ n_ p_ by omega)).2 (lx_vl b_ n_ p_)]; omega
              · rw [hkd_]; intro h_; split at h_ <;> omega
              · intro j_ hj_; have hu_ := h6_ j_ hj_; simp only [if_neg hj_]; exact hu_
            · have c31_ : ¬ (v30_ = 0) := of_decide_eq_false c31_
              refine sm_T_go 3 (c1 := (408, [some (.inr (.inr (some (13, 0)))), some (.inl f_), some (.inl tt_), some (.inl k_), some (.inl c_), some (.inl 0), some (.inl 0)], [.inl 3, .inl tt_, .inr (.inr (some (119, 0)))], S_)) rfl ?_
              refine sm_T_bas1 (n := 65537) rfl rfl (by omega) (by omega) (by decide) ?_
              have hI36_ : gi (sm_aI S_ 119 0 tt_.toNat 3) := gi_aI hI_ (show (-128) ≤ 3 ∧ 3 ≤ 127 from ⟨by omega, by omega⟩)
              have hF37_ : ai_fr (sx_W vw_290) S0_ (sm_aI S_ 119 0 tt_.toNat 3) := ai_fr_tr hF_ (ai_fr_aI rfl)
              refine sm_T_go 8 (c1 := (438, [some (.inr (.inr (some (13, 0)))), some (.inl f_), some (.inl tt_), some (.inl k_), some (.inl c_), some (.inl 0), some (.inl 0)], [.inl c_, .inl tt_, .inr (.inr (some (121, 0)))], sm_aI S_ 119 0 tt_.toNat 3)) rfl ?_
              refine sm_T_iast (n := 65537) rfl rfl (by omega) (by omega) ?_
              have hI38_ : gi (sm_aI (sm_aI S_ 119 0 tt_.toNat 3) 121 0 tt_.toNat c_) := gi_aI hI36_ (show (-2147483648) ≤ c_ ∧ c_ ≤ 2147483647 from ⟨by omega, by omega⟩)
              have hF39_ : ai_fr (sx_W vw_290) S0_ (sm_aI (sm_aI S_ 119 0 tt_.toNat 3) 121 0 tt_.toNat c_) := ai_fr_tr hF37_ (ai_fr_aI rfl)
              refine sm_T_go 6 (c1 := (455, [some (.inr (.inr (some (13, 0)))), some (.inl f_), some (.inl tt_), some (.inl k_), some (.inl c_), some (.inl 0), some (.inl 0)], [.inl 1, .inl k_], sm_aI (sm_aI S_ 119 0 tt_.toNat 3) 121 0 tt_.toNat c_)) rfl ?_
              refine sm_T_bin (w := k_ + 1) rfl (bi_add (by omega) (by omega) (by omega)) ?_
              refine sm_T_ri rfl ⟨_, _, rfl, _, rfl, hI38_, hF39_, ?_⟩
              have hkd_ : lx_kd b_ n_ p_ = if lx_sk b_ n_ p_ = 0 then -1 else lx_sk b_ n_ p_ := by unfold lx_kd; rw [if_neg (Nat.not_le.mpr hpn_), if_neg (show ¬ lx_l (b_ p_) from (hide_o h1_).1), if_neg (show ¬ lx_g (b_ p_) from (hide_o h1_).2)]
              have hen_ : lx_en b_ n_ p_ = lx_sn b_ n_ p_ := by unfold lx_en; rw [if_neg (Nat.not_le.mpr hpn_), if_neg (show ¬ lx_l (b_ p_) from (hide_o h1_).1), if_neg (show ¬ lx_g (b_ p_) from (hide_o h1_).2)]
              first | (have hsn_ : lx_sn b_ n_ p_ = p_ + 2 := if_pos ⟨by omega, by omega, by omega⟩) | (have hsn_ : lx_sn b_ n_ p_ = p_ + 2 := by unfold lx_sn; rw [if_neg (by omega), if_pos ⟨by omega, by omega, by omega⟩]) | (have hsn_ : lx_sn b_ n_ p_ = p_ + 1 := by unfold lx_sn; rw [if_neg (by omega), if_neg (by omega)])
              first | (have hsk_ : lx_sk b_ n_ p_ = 256 := if_pos ⟨by omega, by omega, by omega⟩) | (have hsk_ : lx_sk b_ n_ p_ = 257 := by unfold lx_sk; rw [if_neg (by omega), if_pos ⟨by omega, by omega, by omega⟩]) | (have hsk_ : lx_sk b_ n_ p_ = b_ p_ ∧ 33 ≤ b_ p_ := by unfold lx_sk; rw [if_neg (by omega), if_neg (by omega)]; rcases hide_o hs396_ with hs_ | hs_; (refine ⟨if_pos hs_.2.2, ?_⟩; rcases hs_.2.2 with q_ | q_ | q_ | q_ | q_ | q_ | q_ | q_ | q_ | q_ | q_ | q_ | q_ | q_ | q_ | q_ <;> (rw [q_]; decide)); (exfalso; have hs1_ := hs_.1; clear hs_; omega)) | (have hsk_ : lx_sk b_ n_ p_ = 0 := by unfold lx_sk; rw [if_neg (by omega), if_neg (by omega)]; rcases hide_o hs396_ with hs_ | hs_; (exfalso; have hs1_ := hs_.1; clear hs_; omega); (exact if_neg (fun hh_ => hs_.2 ⟨hpn_, hh_⟩)))
              (try simp only [rd_eq, rd_ne, rf_eq, rf_nk, rf_nt, rd_fa, rd_af, rd_fl, rd_al, rd_lf, rd_la, rd_leq, rd_lne, rd_fr, rd_ar, ne_eq, Nat.reduceEqDiff, not_false_eq_true] at *)
              simp only [ett_, if_true, reduceIte] at *
              refine ⟨?_, ⟨h5_, ?_, ?_, ?_⟩, ?_⟩
              · rw [hen_, hsn_]; push_cast; omega
              · rw [hkd_]; first | (rw [if_neg (by omega)]; exact (tk_g (show 33 ≤ lx_sk b_ n_ p_ by omega)).1) | (rw [if_pos (by omega)]; rfl) | (exfalso; rcases hide_o hs396_ with hs_ | hs_; (have hs1_ := hs_.1; clear hs_; omega); (refine hs_.2 ⟨hpn_, ?_⟩; have hb61_ : b_ p_ = 61 := (by clear hs_; omega); rw [hb61_]; decide))
              · intro hx_; rw [hkd_] at hx_ ⊢; by_cases hz_ : lx_sk b_ n_ p_ = 0
                · exact absurd (if_pos hz_) hx_
                · rw [if_neg hz_, ← (tk_g (show 33 ≤ lx_sk b_ n_ p_ by omega)).2 (lx_vl b_ n_ p_)]; omega
              · rw [hkd_]; intro h_; split at h_ <;> omega
              · intro j_ hj_; have hu_ := h6_ j_ hj_; simp only [if_neg hj_]; exact hu_
          · have c24_ : ¬ (v23_ ≠ 61) := of_decide_eq_false c24_
            refine sm_T_go 9 (c1 := (396, [some (.inr (.inr (some (13, 0)))), some (.inl f_), some (.inl tt_), some (.inl k_), some (.inl c_), some (.inl 0), some (.inl 1)], [.inl c_, .inl tt_, .inr (.inr (some (119, 0)))], S_)) rfl ?_
            refine sm_T_cal (d1 := 0) (Q1 := vq_289 c_ S_) rfl rfl (by decide) (vc_289 c_ S_ hI_ ) (fun u_ S40_ p43_ => ?_)
            obtain ⟨rfl, v45_, rfl, p43_⟩ := p43_
            have hs396_ : hide (_ ∨ _) := if01 p43_
            rw [h03_, rb_s hbi_] at hs396_
            clear p43_
            refine sm_T_b0 (a := 0) (z := 7) rfl (fun c46_ => ?_) (fun c46_ => ?_)
            · have c46_ : v45_ = 0 := of_decide_eq_true c46_
              refine sm_T_go 2 (c1 := (408, [some (.inr (.inr (some (13, 0)))), some (.inl f_), some (.inl tt_), some (.inl k_), some (.inl c_), some (.inl 0), some (.inl 1)], [.inl 4, .inl tt_, .inr (.inr (some (119, 0)))], S_)) rfl ?_
              refine sm_T_bas1 (n := 65537) rfl rfl (by omega) (by omega) (by decide) ?_
              have hI47_ : gi (sm_aI S_ 119 0 tt_.toNat 4) := gi_aI hI_ (show (-128) ≤ 4 ∧ 4 ≤ 127 from ⟨by omega, by omega⟩)
              have hF48_ : ai_fr (sx_W vw_290) S0_ (sm_aI S_ 119 0 tt_.toNat 4) := ai_fr_tr hF_ (ai_fr_aI rfl)
              refine sm_T_go 9 (c1 := (438, [some (.inr (.inr (some (13, 0)))), some (.inl f_), some (.inl tt_), some (.inl k_), some (.inl c_), some (.inl 0), some (.inl 1)], [.inl 257, .inl tt_, .inr (.inr (some (121, 0)))], sm_aI S_ 119 0 tt_.toNat 4)) rfl ?_
              refine sm_T_iast (n := 65537) rfl rfl (by omega) (by omega) ?_
              have hI49_ : gi (sm_aI (sm_aI S_ 119 0 tt_.toNat 4) 121 0 tt_.toNat 257) := gi_aI hI47_ (show (-2147483648) ≤ 257 ∧ 257 ≤ 2147483647 from ⟨by omega, by omega⟩)
              have hF50_ : ai_fr (sx_W vw_290) S0_ (sm_aI (sm_aI S_ 119 0 tt_.toNat 4) 121 0 tt_.toNat 257) := ai_fr_tr hF48_ (ai_fr_aI rfl)
              refine sm_T_go 7 (c1 := (455, [some (.inr (.inr (some (13, 0)))), some (.inl f_), some (.inl tt_), some (.inl k_), some (.inl c_), some (.inl 0), some (.inl 1)], [.inl 2, .inl k_], sm_aI (sm_aI S_ 119 0 tt_.toNat 4) 121 0 tt_.toNat 257)) rfl ?_
              refine sm_T_bin (w := k_ + 2) rfl (bi_add (by omega) (by omega) (by omega)) ?_
              refine sm_T_ri rfl ⟨_, _, rfl, _, rfl, hI49_, hF50_, ?_⟩
              have hkd_ : lx_kd b_ n_ p_ = if lx_sk b_ n_ p_ = 0 then -1 else lx_sk b_ n_ p_ := by unfold lx_kd; rw [if_neg (Nat.not_le.mpr hpn_), if_neg (show ¬ lx_l (b_ p_) from (hide_o h1_).1), if_neg (show ¬ lx_g (b_ p_) from (hide_o h1_).2)]
              have hen_ : lx_en b_ n_ p_ = lx_sn b_ n_ p_ := by unfold lx_en; rw [if_neg (Nat.not_le.mpr hpn_), if_neg (show ¬ lx_l (b_ p_) from (hide_o h1_).1), if_neg (show ¬ lx_g (b_ p_) from (hide_o h1_).2)]
              first | (have hsn_ : lx_sn b_ n_ p_ = p_ + 2 := if_pos ⟨by omega, by omega, by omega⟩) | (have hsn_ : lx_sn b_ n_ p_ = p_ + 2 := by unfold lx_sn; rw [if_neg (by omega), if_pos ⟨by omega, by omega, by omega⟩]) | (have hsn_ : lx_sn b_ n_ p_ = p_ + 1 := by unfold lx_sn; rw [if_neg (by omega), if_neg (by omega)])
              first | (have hsk_ : lx_sk b_ n_ p_ = 256 := if_pos ⟨by omega, by omega, by omega⟩) | (have hsk_ : lx_sk b_ n_ p_ = 257 := by unfold lx_sk; rw [if_neg (by omega), if_pos ⟨by omega, by omega, by omega⟩]) | (have hsk_ : lx_sk b_ n_ p_ = b_ p_ ∧ 33 ≤ b_ p_ := by unfold lx_sk; rw [if_neg (by omega), if_neg (by omega)]; rcases hide_o hs396_ with hs_ | hs_; (refine ⟨if_pos hs_.2.2, ?_⟩; rcases hs_.2.2 with q_ | q_ | q_ | q_ | q_ | q_ | q_ | q_ | q_ | q_ | q_ | q_ | q_ | q_ | q_ | q_ <;> (rw [q_]; decide)); (exfalso; have hs1_ := hs_.1; clear hs_; omega)) | (have hsk_ : lx_sk b_ n_ p_ = 0 := by unfold lx_sk; rw [if_neg (by omega), if_neg (by omega)]; rcases hide_o hs396_ with hs_ | hs_; (exfalso; have hs1_ := hs_.1; clear hs_; omega); (exact if_neg (fun hh_ => hs_.2 ⟨hpn_, hh_⟩)))
              (try simp only [rd_eq, rd_ne, rf_eq, rf_nk, rf_nt, rd_fa, rd_af, rd_fl, rd_al, rd_lf, rd_la, rd_leq, rd_lne, rd_fr, rd_ar, ne_eq, Nat.reduceEqDiff, not_false_eq_true] at *)
              simp only [ett_, if_true, reduceIte] at *
              refine ⟨?_, ⟨h5_, ?_, ?_, ?_⟩, ?_⟩
              · rw [hen_, hsn_]; push_cast; omega
              · rw [hkd_]; first | (rw [if_neg (by omega)]; exact (tk_g (show 33 ≤ lx_sk b_ n_ p_ by omega)).1) | (rw [if_pos (by omega)]; rfl) | (exfalso; rcases hide_o hs396_ with hs_ | hs_; (have hs1_ := hs_.1; clear hs_; omega); (refine hs_.2 ⟨hpn_, ?_⟩; have hb61_ : b_ p_ = 61 := (by clear hs_; omega); rw [hb61_]; decide))
              · intro hx_; rw [hkd_] at hx_ ⊢; by_cases hz_ : lx_sk b_ n_ p_ = 0
                · exact absurd (if_pos hz_) hx_
                · rw [if_neg hz_, ← (tk_g (show 33 ≤ lx_sk b_ n_ p_ by omega)).2 (lx_vl b_ n_ p_)]; omega
              · rw [hkd_]; intro h_; split at h_ <;> omega
              · intro j_ hj_; have hu_ := h6_ j_ hj_; simp only [if_neg hj_]; exact hu_
            · have c46_ : ¬ (v45_ = 0) := of_decide_eq_false c46_
              refine sm_T_go 3 (c1 := (408, [some (.inr (.inr (some (13, 0)))), some (.inl f_), some (.inl tt_), some (.inl k_), some (.inl c_), some (.inl 0), some (.inl 1)], [.inl 3, .inl tt_, .inr (.inr (some (119, 0)))], S_)) rfl ?_
              refine sm_T_bas1 (n := 65537) rfl rfl (by omega) (by omega) (by decide) ?_
              have hI51_ : gi (sm_aI S_ 119 0 tt_.toNat 3) := gi_aI hI_ (show (-128) ≤ 3 ∧ 3 ≤ 127 from ⟨by omega, by omega⟩)
              have hF52_ : ai_fr (sx_W vw_290) S0_ (sm_aI S_ 119 0 tt_.toNat 3) := ai_fr_tr hF_ (ai_fr_aI rfl)
              refine sm_T_go 9 (c1 := (438, [some (.inr (.inr (some (13, 0)))), some (.inl f_), some (.inl tt_), some (.inl k_), some (.inl c_), some (.inl 0), some (.inl 1)], [.inl 257, .inl tt_, .inr (.inr (some (121, 0)))], sm_aI S_ 119 0 tt_.toNat 3)) rfl ?_
              refine sm_T_iast (n := 65537) rfl rfl (by omega) (by omega) ?_
              have hI53_ : gi (sm_aI (sm_aI S_ 119 0 tt_.toNat 3) 121 0 tt_.toNat 257) := gi_aI hI51_ (show (-2147483648) ≤ 257 ∧ 257 ≤ 2147483647 from ⟨by omega, by omega⟩)
              have hF54_ : ai_fr (sx_W vw_290) S0_ (sm_aI (sm_aI S_ 119 0 tt_.toNat 3) 121 0 tt_.toNat 257) := ai_fr_tr hF52_ (ai_fr_aI rfl)
              refine sm_T_go 7 (c1 := (455, [some (.inr (.inr (some (13, 0)))), some (.inl f_), some (.inl tt_), some (.inl k_), some (.inl c_), some (.inl 0), some (.inl 1)], [.inl 2, .inl k_], sm_aI (sm_aI S_ 119 0 tt_.toNat 3) 121 0 tt_.toNat 257)) rfl ?_
              refine sm_T_bin (w := k_ + 2) rfl (bi_add (by omega) (by omega) (by omega)) ?_
              refine sm_T_ri rfl ⟨_, _, rfl, _, rfl, hI53_, hF54_, ?_⟩
              have hkd_ : lx_kd b_ n_ p_ = if lx_sk b_ n_ p_ = 0 then -1 else lx_sk b_ n_ p_ := by unfold lx_kd; rw [if_neg (Nat.not_le.mpr hpn_), if_neg (show ¬ lx_l (b_ p_) from (hide_o h1_).1), if_neg (show ¬ lx_g (b_ p_) from (hide_o h1_).2)]
              have hen_ : lx_en b_ n_ p_ = lx_sn b_ n_ p_ := by unfold lx_en; rw [if_neg (Nat.not_le.mpr hpn_), if_neg (show ¬ lx_l (b_ p_) from (hide_o h1_).1), if_neg (show ¬ lx_g (b_ p_) from (hide_o h1_).2)]
              first | (have hsn_ : lx_sn b_ n_ p_ = p_ + 2 := if_pos ⟨by omega, by omega, by omega⟩) | (have hsn_ : lx_sn b_ n_ p_ = p_ + 2 := by unfold lx_sn; rw [if_neg (by omega), if_pos ⟨by omega, by omega, by omega⟩]) | (have hsn_ : lx_sn b_ n_ p_ = p_ + 1 := by unfold lx_sn; rw [if_neg (by omega), if_neg (by omega)])
              first | (have hsk_ : lx_sk b_ n_ p_ = 256 := if_pos ⟨by omega, by omega, by omega⟩) | (have hsk_ : lx_sk b_ n_ p_ = 257 := by unfold lx_sk; rw [if_neg (by omega), if_pos ⟨by omega, by omega, by omega⟩]) | (have hsk_ : lx_sk b_ n_ p_ = b_ p_ ∧ 33 ≤ b_ p_ := by unfold lx_sk; rw [if_neg (by omega), if_neg (by omega)]; rcases hide_o hs396_ with hs_ | hs_; (refine ⟨if_pos hs_.2.2, ?_⟩; rcases hs_.2.2 with q_ | q_ | q_ | q_ | q_ | q_ | q_ | q_ | q_ | q_ | q_ | q_ | q_ | q_ | q_ | q_ <;> (rw [q_]; decide)); (exfalso; have hs1_ := hs_.1; clear hs_; omega)) | (have hsk_ : lx_sk b_ n_ p_ = 0 := by unfold lx_sk; rw [if_neg (by omega), if_neg (by omega)]; rcases hide_o hs396_ with hs_ | hs_; (exfalso; have hs1_ := hs_.1; clear hs_; omega); (exact if_neg (fun hh_ => hs_.2 ⟨hpn_, hh_⟩)))
              (try simp only [rd_eq, rd_ne, rf_eq, rf_nk, rf_nt, rd_fa, rd_af, rd_fl, rd_al, rd_lf, rd_la, rd_leq, rd_lne, rd_fr, rd_ar, ne_eq, Nat.reduceEqDiff, not_false_eq_true] at *)
              simp only [ett_, if_true, reduceIte] at *
              refine ⟨?_, ⟨h5_, ?_, ?_, ?_⟩, ?_⟩
              · rw [hen_, hsn_]; push_cast; omega
              · rw [hkd_]; first | (rw [if_neg (by omega)]; exact (tk_g (show 33 ≤ lx_sk b_ n_ p_ by omega)).1) | (rw [if_pos (by omega)]; rfl) | (exfalso; rcases hide_o hs396_ with hs_ | hs_; (have hs1_ := hs_.1; clear hs_; omega); (refine hs_.2 ⟨hpn_, ?_⟩; have hb61_ : b_ p_ = 61 := (by clear hs_; omega); rw [hb61_]; decide))
              · intro hx_; rw [hkd_] at hx_ ⊢; by_cases hz_ : lx_sk b_ n_ p_ = 0
                · exact absurd (if_pos hz_) hx_
                · rw [if_neg hz_, ← (tk_g (show 33 ≤ lx_sk b_ n_ p_ by omega)).2 (lx_vl b_ n_ p_)]; omega
              · rw [hkd_]; intro h_; split at h_ <;> omega
              · intro j_ hj_; have hu_ := h6_ j_ hj_; simp only [if_neg hj_]; exact hu_
      · have c1_ : ¬ (c_ ≠ 60) := of_decide_eq_false c1_
        refine sm_T_go 3 (c1 := (342, [some (.inr (.inr (some (13, 0)))), some (.inl f_), some (.inl tt_), some (.inl k_), some (.inl c_), none, none], [.inl 1, .inl k_, .inr (.inr (some (13, 0)))], S_)) rfl ?_
        refine sm_T_bin (w := k_ + 1) rfl (bi_add (by omega) (by omega) (by omega)) ?_
        refine sm_T_cal (d1 := 0) (Q1 := vq_282 (k_ + 1) b_ n_ S_) rfl rfl (by decide) (vc_282 (k_ + 1) b_ n_ S_ hI_ (by exact hb1_) (by exact hn2_) (by exact hn1_) (by omega)) (fun u_ S55_ p58_ => ?_)
        obtain ⟨rfl, v60_, rfl, p58_⟩ := p58_
        have hd343_ : (v60_ = 45 ↔ p_ + 1 < n_ ∧ b_ (p_ + 1) = 45) := by rw [p58_, show (k_ + 1).toNat = p_ + 1 by omega]; exact rb_c (hbb_ (p_ + 1)) (by decide)
        clear p58_
        refine sm_T_go 1 (c1 := (348, [some (.inr (.inr (some (13, 0)))), some (.inl f_), some (.inl tt_), some (.inl k_), some (.inl c_), none, none], [.inl 45, .inl v60_], S_)) rfl ?_
        refine sm_T_br (a := 1) (z := 7) rfl (fun c61_ => ?_) (fun c61_ => ?_)
        · have c61_ : v60_ ≠ 45 := of_decide_eq_true c61_
          refine sm_T_go 4 (c1 := (362, [some (.inr (.inr (some (13, 0)))), some (.inl f_), some (.inl tt_), some (.inl k_), some (.inl c_), some (.inl 0), none], [.inl 61, .inl c_], S_)) rfl ?_
          refine sm_T_br (a := 1) (z := 19) rfl (fun c62_ => ?_) (fun c62_ => ?_)
          · have c62_ : c_ ≠ 61 := of_decide_eq_true c62_
            refine sm_T_go 8 (c1 := (396, [some (.inr (.inr (some (13, 0)))), some (.inl f_), some (.inl tt_), some (.inl k_), some (.inl c_), some (.inl 0), some (.inl 0)], [.inl c_, .inl tt_, .inr (.inr (some (119, 0)))], S_)) rfl ?_
            refine sm_T_cal (d1 := 0) (Q1 := vq_289 c_ S_) rfl rfl (by decide) (vc_289 c_ S_ hI_ ) (fun u_ S63_ p66_ => ?_)
            obtain ⟨rfl, v68_, rfl, p66_⟩ := p66_
            have hs396_ : hide (_ ∨ _) := if01 p66_
            rw [h03_, rb_s hbi_] at hs396_
            clear p66_
            refine sm_T_b0 (a := 0) (z := 7) rfl (fun c69_ => ?_) (fun c69_ => ?_)
            · have c69_ : v68_ = 0 := of_decide_eq_true c69_
              refine sm_T_go 2 (c1 := (408, [some (.inr (.inr (some (13, 0)))), some (.inl f_), some (.inl tt_), some (.inl k_), some (.inl c_), some (.inl 0), some (.inl 0)], [.inl 4, .inl tt_, .inr (.inr (some (119, 0)))], S_)) rfl ?_
              refine sm_T_bas1 (n := 65537) rfl rfl (by omega) (by omega) (by decide) ?_
              have hI70_ : gi (sm_aI S_ 119 0 tt_.toNat 4) := gi_aI hI_ (show (-128) ≤ 4 ∧ 4 ≤ 127 from ⟨by omega, by omega⟩)
              have hF71_ : ai_fr (sx_W vw_290) S0_ (sm_aI S_ 119 0 tt_.toNat 4) := ai_fr_tr hF_ (ai_fr_aI rfl)
              refine sm_T_go 8 (c1 := (438, [some (.inr (.inr (some (13, 0)))), some (.inl f_), some (.inl tt_), some (.inl k_), some (.inl c_), some (.inl 0), some (.inl 0)], [.inl c_, .inl tt_, .inr (.inr (some (121, 0)))], sm_aI S_ 119 0 tt_.toNat 4)) rfl ?_
              refine sm_T_iast (n := 65537) rfl rfl (by omega) (by omega) ?_
              have hI72_ : gi (sm_aI (sm_aI S_ 119 0 tt_.toNat 4) 121 0 tt_.toNat c_) := gi_aI hI70_ (show (-2147483648) ≤ c_ ∧ c_ ≤ 2147483647 from ⟨by omega, by omega⟩)
              have hF73_ : ai_fr (sx_W vw_290) S0_ (sm_aI (sm_aI S_ 119 0 tt_.toNat 4) 121 0 tt_.toNat c_) := ai_fr_tr hF71_ (ai_fr_aI rfl)
              refine sm_T_go 6 (c1 := (455, [some (.inr (.inr (some (13, 0)))), some (.inl f_), some (.inl tt_), some (.inl k_), some (.inl c_), some (.inl 0), some (.inl 0)], [.inl 1, .inl k_], sm_aI (sm_aI S_ 119 0 tt_.toNat 4) 121 0 tt_.toNat c_)) rfl ?_
              refine sm_T_bin (w := k_ + 1) rfl (bi_add (by omega) (by omega) (by omega)) ?_
              refine sm_T_ri rfl ⟨_, _, rfl, _, rfl, hI72_, hF73_, ?_⟩
              have hkd_ : lx_kd b_ n_ p_ = if lx_sk b_ n_ p_ = 0 then -1 else lx_sk b_ n_ p_ := by unfold lx_kd; rw [if_neg (Nat.not_le.mpr hpn_), if_neg (show ¬ lx_l (b_ p_) from (hide_o h1_).1), if_neg (show ¬ lx_g (b_ p_) from (hide_o h1_).2)]
              have hen_ : lx_en b_ n_ p_ = lx_sn b_ n_ p_ := by unfold lx_en; rw [if_neg (Nat.not_le.mpr hpn_), if_neg (show ¬ lx_l (b_ p_) from (hide_o h1_).1), if_neg (show ¬ lx_g (b_ p_) from (hide_o h1_).2)]
              first | (have hsn_ : lx_sn b_ n_ p_ = p_ + 2 := if_pos ⟨by omega, by omega, by omega⟩) | (have hsn_ : lx_sn b_ n_ p_ = p_ + 2 := by unfold lx_sn; rw [if_neg (by omega), if_pos ⟨by omega, by omega, by omega⟩]) | (have hsn_ : lx_sn b_ n_ p_ = p_ + 1 := by unfold lx_sn; rw [if_neg (by omega), if_neg (by omega)])
              first | (have hsk_ : lx_sk b_ n_ p_ = 256 := if_pos ⟨by omega, by omega, by omega⟩) | (have hsk_ : lx_sk b_ n_ p_ = 257 := by unfold lx_sk; rw [if_neg (by omega), if_pos ⟨by omega, by omega, by omega⟩]) | (have hsk_ : lx_sk b_ n_ p_ = b_ p_ ∧ 33 ≤ b_ p_ := by unfold lx_sk; rw [if_neg (by omega), if_neg (by omega)]; rcases hide_o hs396_ with hs_ | hs_; (refine ⟨if_pos hs_.2.2, ?_⟩; rcases hs_.2.2 with q_ | q_ | q_ | q_ | q_ | q_ | q_ | q_ | q_ | q_ | q_ | q_ | q_ | q_ | q_ | q_ <;> (rw [q_]; decide)); (exfalso; have hs1_ := hs_.1; clear hs_; omega)) | (have hsk_ : lx_sk b_ n_ p_ = 0 := by unfold lx_sk; rw [if_neg (by omega), if_neg (by omega)]; rcases hide_o hs396_ with hs_ | hs_; (exfalso; have hs1_ := hs_.1; clear hs_; omega); (exact if_neg (fun hh_ => hs_.2 ⟨hpn_, hh_⟩)))
              (try simp only [rd_eq, rd_ne, rf_eq, rf_nk, rf_nt, rd_fa, rd_af, rd_fl, rd_al, rd_lf, rd_la, rd_leq, rd_lne, rd_fr, rd_ar, ne_eq, Nat.reduceEqDiff, not_false_eq_true] at *)
              simp only [ett_, if_true, reduceIte] at *
              refine ⟨?_, ⟨h5_, ?_, ?_, ?_⟩, ?_⟩
              · rw [hen_, hsn_]; push_cast; omega
              · rw [hkd_]; first | (rw [if_neg (by omega)]; exact (tk_g (show 33 ≤ lx_sk b_ n_ p_ by omega)).1) | (rw [if_pos (by omega)]; rfl) | (exfalso; rcases hide_o hs396_ with hs_ | hs_; (have hs1_ := hs_.1; clear hs_; omega); (refine hs_.2 ⟨hpn_, ?_⟩; have hb61_ : b_ p_ = 61 := (by clear hs_; omega); rw [hb61_]; decide))
              · intro hx_; rw [hkd_] at hx_ ⊢; by_cases hz_ : lx_sk b_ n_ p_ = 0
                · exact absurd (if_pos hz_) hx_
                · rw [if_neg hz_, ← (tk_g (show 33 ≤ lx_sk b_ n_ p_ by omega)).2 (lx_vl b_ n_ p_)]; omega
              · rw [hkd_]; intro h_; split at h_ <;> omega
              · intro j_ hj_; have hu_ := h6_ j_ hj_; simp only [if_neg hj_]; exact hu_
            · have c69_ : ¬ (v68_ = 0) := of_decide_eq_false c69_
              refine sm_T_go 3 (c1 := (408, [some (.inr (.inr (some (13, 0)))), some (.inl f_), some (.inl tt_), some (.inl k_), some (.inl c_), some (.inl 0), some (.inl 0)], [.inl 3, .inl tt_, .inr (.inr (some (119, 0)))], S_)) rfl ?_
              refine sm_T_bas1 (n := 65537) rfl rfl (by omega) (by omega) (by decide) ?_
              have hI74_ : gi (sm_aI S_ 119 0 tt_.toNat 3) := gi_aI hI_ (show (-128) ≤ 3 ∧ 3 ≤ 127 from ⟨by omega, by omega⟩)
              have hF75_ : ai_fr (sx_W vw_290) S0_ (sm_aI S_ 119 0 tt_.toNat 3) := ai_fr_tr hF_ (ai_fr_aI rfl)
              refine sm_T_go 8 (c1 := (438, [some (.inr (.inr (some (13, 0)))), some (.inl f_), some (.inl tt_), some (.inl k_), some (.inl c_), some (.inl 0), some (.inl 0)], [.inl c_, .inl tt_, .inr (.inr (some (121, 0)))], sm_aI S_ 119 0 tt_.toNat 3)) rfl ?_
              refine sm_T_iast (n := 65537) rfl rfl (by omega) (by omega) ?_
              have hI76_ : gi (sm_aI (sm_aI S_ 119 0 tt_.toNat 3) 121 0 tt_.toNat c_) := gi_aI hI74_ (show (-2147483648) ≤ c_ ∧ c_ ≤ 2147483647 from ⟨by omega, by omega⟩)
              have hF77_ : ai_fr (sx_W vw_290) S0_ (sm_aI (sm_aI S_ 119 0 tt_.toNat 3) 121 0 tt_.toNat c_) := ai_fr_tr hF75_ (ai_fr_aI rfl)
              refine sm_T_go 6 (c1 := (455, [some (.inr (.inr (some (13, 0)))), some (.inl f_), some (.inl tt_), some (.inl k_), some (.inl c_), some (.inl 0), some (.inl 0)], [.inl 1, .inl k_], sm_aI (sm_aI S_ 119 0 tt_.toNat 3) 121 0 tt_.toNat c_)) rfl ?_
              refine sm_T_bin (w := k_ + 1) rfl (bi_add (by omega) (by omega) (by omega)) ?_
              refine sm_T_ri rfl ⟨_, _, rfl, _, rfl, hI76_, hF77_, ?_⟩
              have hkd_ : lx_kd b_ n_ p_ = if lx_sk b_ n_ p_ = 0 then -1 else lx_sk b_ n_ p_ := by unfold lx_kd; rw [if_neg (Nat.not_le.mpr hpn_), if_neg (show ¬ lx_l (b_ p_) from (hide_o h1_).1), if_neg (show ¬ lx_g (b_ p_) from (hide_o h1_).2)]
              have hen_ : lx_en b_ n_ p_ = lx_sn b_ n_ p_ := by unfold lx_en; rw [if_neg (Nat.not_le.mpr hpn_), if_neg (show ¬ lx_l (b_ p_) from (hide_o h1_).1), if_neg (show ¬ lx_g (b_ p_) from (hide_o h1_).2)]
              first | (have hsn_ : lx_sn b_ n_ p_ = p_ + 2 := if_pos ⟨by omega, by omega, by omega⟩) | (have hsn_ : lx_sn b_ n_ p_ = p_ + 2 := by unfold lx_sn; rw [if_neg (by omega), if_pos ⟨by omega, by omega, by omega⟩]) | (have hsn_ : lx_sn b_ n_ p_ = p_ + 1 := by unfold lx_sn; rw [if_neg (by omega), if_neg (by omega)])
              first | (have hsk_ : lx_sk b_ n_ p_ = 256 := if_pos ⟨by omega, by omega, by omega⟩) | (have hsk_ : lx_sk b_ n_ p_ = 257 := by unfold lx_sk; rw [if_neg (by omega), if_pos ⟨by omega, by omega, by omega⟩]) | (have hsk_ : lx_sk b_ n_ p_ = b_ p_ ∧ 33 ≤ b_ p_ := by unfold lx_sk; rw [if_neg (by omega), if_neg (by omega)]; rcases hide_o hs396_ with hs_ | hs_; (refine ⟨if_pos hs_.2.2, ?_⟩; rcases hs_.2.2 with q_ | q_ | q_ | q_ | q_ | q_ | q_ | q_ | q_ | q_ | q_ | q_ | q_ | q_ | q_ | q_ <;> (rw [q_]; decide)); (exfalso; have hs1_ := hs_.1; clear hs_; omega)) | (have hsk_ : lx_sk b_ n_ p_ = 0 := by unfold lx_sk; rw [if_neg (by omega), if_neg (by omega)]; rcases hide_o hs396_ with hs_ | hs_; (exfalso; have hs1_ := hs_.1; clear hs_; omega); (exact if_neg (fun hh_ => hs_.2 ⟨hpn_, hh_⟩)))
              (try simp only [rd_eq, rd_ne, rf_eq, rf_nk, rf_nt, rd_fa, rd_af, rd_fl, rd_al, rd_lf, rd_la, rd_leq, rd_lne, rd_fr, rd_ar, ne_eq, Nat.reduceEqDiff, not_false_eq_true] at *)
              simp only [ett_, if_true, reduceIte] at *
              refine ⟨?_, ⟨h5_, ?_, ?_, ?_⟩, ?_⟩
              · rw [hen_, hsn_]; push_cast; omega
              · rw [hkd_]; first | (rw [if_neg (by omega)]; exact (tk_g (show 33 ≤ lx_sk b_ n_ p_ by omega)).1) | (rw [if_pos (by omega)]; rfl) | (exfalso; rcases hide_o hs396_ with hs_ | hs_; (have hs1_ := hs_.1; clear hs_; omega); (refine hs_.2 ⟨hpn_, ?_⟩; have hb61_ : b_ p_ = 61 := (by clear hs_; omega); rw [hb61_]; decide))
              · intro hx_; rw [hkd_] at hx_ ⊢; by_cases hz_ : lx_sk b_ n_ p_ = 0
                · exact absurd (if_pos hz_) hx_
                · rw [if_neg hz_, ← (tk_g (show 33 ≤ lx_sk b_ n_ p_ by omega)).2 (lx_vl b_ n_ p_)]; omega
              · rw [hkd_]; intro h_; split at h_ <;> omega
              · intro j_ hj_; have hu_ := h6_ j_ hj_; simp only [if_neg hj_]; exact hu_
          · have c62_ : ¬ (c_ ≠ 61) := of_decide_eq_false c62_
            exfalso; omega
        · have c61_ : ¬ (v60_ ≠ 45) := of_decide_eq_false c61_
          refine sm_T_go 5 (c1 := (362, [some (.inr (.inr (some (13, 0)))), some (.inl f_), some (.inl tt_), some (.inl k_), some (.inl c_), some (.inl 1), none], [.inl 61, .inl c_], S_)) rfl ?_
          refine sm_T_br (a := 1) (z := 19) rfl (fun c78_ => ?_) (fun c78_ => ?_)
          · have c78_ : c_ ≠ 61 := of_decide_eq_true c78_
            refine sm_T_go 10 (c1 := (408, [some (.inr (.inr (some (13, 0)))), some (.inl f_), some (.inl tt_), some (.inl k_), some (.inl c_), some (.inl 1), some (.inl 0)], [.inl 3, .inl tt_, .inr (.inr (some (119, 0)))], S_)) rfl ?_
            refine sm_T_bas1 (n := 65537) rfl rfl (by omega) (by omega) (by decide) ?_
            have hI79_ : gi (sm_aI S_ 119 0 tt_.toNat 3) := gi_aI hI_ (show (-128) ≤ 3 ∧ 3 ≤ 127 from ⟨by omega, by omega⟩)
            have hF80_ : ai_fr (sx_W vw_290) S0_ (sm_aI S_ 119 0 tt_.toNat 3) := ai_fr_tr hF_ (ai_fr_aI rfl)
            refine sm_T_go 7 (c1 := (438, [some (.inr (.inr (some (13, 0)))), some (.inl f_), some (.inl tt_), some (.inl k_), some (.inl c_), some (.inl 1), some (.inl 0)], [.inl 256, .inl tt_, .inr (.inr (some (121, 0)))], sm_aI S_ 119 0 tt_.toNat 3)) rfl ?_
            refine sm_T_iast (n := 65537) rfl rfl (by omega) (by omega) ?_
            have hI81_ : gi (sm_aI (sm_aI S_ 119 0 tt_.toNat 3) 121 0 tt_.toNat 256) := gi_aI hI79_ (show (-2147483648) ≤ 256 ∧ 256 ≤ 2147483647 from ⟨by omega, by omega⟩)
            have hF82_ : ai_fr (sx_W vw_290) S0_ (sm_aI (sm_aI S_ 119 0 tt_.toNat 3) 121 0 tt_.toNat 256) := ai_fr_tr hF80_ (ai_fr_aI rfl)
            refine sm_T_go 5 (c1 := (455, [some (.inr (.inr (some (13, 0)))), some (.inl f_), some (.inl tt_), some (.inl k_), some (.inl c_), some (.inl 1), some (.inl 0)], [.inl 2, .inl k_], sm_aI (sm_aI S_ 119 0 tt_.toNat 3) 121 0 tt_.toNat 256)) rfl ?_
            refine sm_T_bin (w := k_ + 2) rfl (bi_add (by omega) (by omega) (by omega)) ?_
            refine sm_T_ri rfl ⟨_, _, rfl, _, rfl, hI81_, hF82_, ?_⟩
            have hkd_ : lx_kd b_ n_ p_ = if lx_sk b_ n_ p_ = 0 then -1 else lx_sk b_ n_ p_ := by unfold lx_kd; rw [if_neg (Nat.not_le.mpr hpn_), if_neg (show ¬ lx_l (b_ p_) from (hide_o h1_).1), if_neg (show ¬ lx_g (b_ p_) from (hide_o h1_).2)]
            have hen_ : lx_en b_ n_ p_ = lx_sn b_ n_ p_ := by unfold lx_en; rw [if_neg (Nat.not_le.mpr hpn_), if_neg (show ¬ lx_l (b_ p_) from (hide_o h1_).1), if_neg (show ¬ lx_g (b_ p_) from (hide_o h1_).2)]
            first | (have hsn_ : lx_sn b_ n_ p_ = p_ + 2 := if_pos ⟨by omega, by omega, by omega⟩) | (have hsn_ : lx_sn b_ n_ p_ = p_ + 2 := by unfold lx_sn; rw [if_neg (by omega), if_pos ⟨by omega, by omega, by omega⟩]) | (have hsn_ : lx_sn b_ n_ p_ = p_ + 1 := by unfold lx_sn; rw [if_neg (by omega), if_neg (by omega)])
            first | (have hsk_ : lx_sk b_ n_ p_ = 256 := if_pos ⟨by omega, by omega, by omega⟩) | (have hsk_ : lx_sk b_ n_ p_ = 257 := by unfold lx_sk; rw [if_neg (by omega), if_pos ⟨by omega, by omega, by omega⟩]) | (have hsk_ : lx_sk b_ n_ p_ = b_ p_ ∧ 33 ≤ b_ p_ := by unfold lx_sk; rw [if_neg (by omega), if_neg (by omega)]; rcases hide_o hs396_ with hs_ | hs_; (refine ⟨if_pos hs_.2.2, ?_⟩; rcases hs_.2.2 with q_ | q_ | q_ | q_ | q_ | q_ | q_ | q_ | q_ | q_ | q_ | q_ | q_ | q_ | q_ | q_ <;> (rw [q_]; decide)); (exfalso; have hs1_ := hs_.1; clear hs_; omega)) | (have hsk_ : lx_sk b_ n_ p_ = 0 := by unfold lx_sk; rw [if_neg (by omega), if_neg (by omega)]; rcases hide_o hs396_ with hs_ | hs_; (exfalso; have hs1_ := hs_.1; clear hs_; omega); (exact if_neg (fun hh_ => hs_.2 ⟨hpn_, hh_⟩)))
            (try simp only [rd_eq, rd_ne, rf_eq, rf_nk, rf_nt, rd_fa, rd_af, rd_fl, rd_al, rd_lf, rd_la, rd_leq, rd_lne, rd_fr, rd_ar, ne_eq, Nat.reduceEqDiff, not_false_eq_true] at *)
            simp only [ett_, if_true, reduceIte] at *
            refine ⟨?_, ⟨h5_, ?_, ?_, ?_⟩, ?_⟩
            · rw [hen_, hsn_]; push_cast; omega
            · rw [hkd_]; first | (rw [if_neg (by omega)]; exact (tk_g (show 33 ≤ lx_sk b_ n_ p_ by omega)).1) | (rw [if_pos (by omega)]; rfl) | (exfalso; rcases hide_o hs396_ with hs_ | hs_; (have hs1_ := hs_.1; clear hs_; omega); (refine hs_.2 ⟨hpn_, ?_⟩; have hb61_ : b_ p_ = 61 := (by clear hs_; omega); rw [hb61_]; decide))
            · intro hx_; rw [hkd_] at hx_ ⊢; by_cases hz_ : lx_sk b_ n_ p_ = 0
              · exact absurd (if_pos hz_) hx_
              · rw [if_neg hz_, ← (tk_g (show 33 ≤ lx_sk b_ n_ p_ by omega)).2 (lx_vl b_ n_ p_)]; omega
            · rw [hkd_]; intro h_; split at h_ <;> omega
            · intro j_ hj_; have hu_ := h6_ j_ hj_; simp only [if_neg hj_]; exact hu_
          · have c78_ : ¬ (c_ ≠ 61) := of_decide_eq_false c78_
            exfalso; omega
set_option maxHeartbeats 16000000 in
set_option maxRecDepth 20000 in
theorem vc_290 {sc_ : Nat × (Nat → Int)} (f_ : Int) (b_ : Nat → Int) (n_ : Nat) (p_ : Nat) (t_ : Nat) (S0_ : sm_S) (hI_ : gi S0_) (hb_ : S0_.2.2.1 118 0 = b_) (hn_ : (S0_.1 13 0 2) = (n_ : Int)) (hn1_ : n_ ≤ 1280) (hp_ : f_ = (p_ : Int)) (hpn_ : p_ < n_) (ht_ : (S0_.1 13 0 3) = (t_ : Int)) (ht1_ : t_ ≤ 1280) : sm_T (mt_P sc_) 2 290 (0, [some (.inr (.inr (some (13, 0)))), some (.inl f_), none, none, none, none, none], [], S0_) (fun r_ => ∃ u_ S1_, r_ = (.inl u_, S1_, 0) ∧ vq_290 f_ b_ n_ p_ t_ S0_ u_ S1_) := by
  have hF_ : ai_fr (sx_W vw_290) S0_ S0_ := ai_fr_rf
  have hI0_ := hI_
  have hb1_ := hb_
  have hn2_ := hn_
  have hbb_ : ∀ k_, -128 ≤ b_ k_ ∧ b_ k_ ≤ 127 := fun k_ => by rw [← hb_]; exact hI0_.2 118 0 k_
  have ett_ : (S0_.1 13 0 3).toNat = t_ := by omega
  have ef_ : f_.toNat = p_ := by omega
  have hbi_ := hbb_ p_
  have hbl_ := rb_l (n := n_) hbi_
  have hbg_ := rb_g (n := n_) hbi_
  have b1_ : 0 ≤ S0_.1 13 0 3 ∧ S0_.1 13 0 3 ≤ 1280 := hI_.1 13 0 3 rfl
  refine sm_T_go 7 (c1 := (11, [some (.inr (.inr (some (13, 0)))), some (.inl f_), some (.inl (S0_.1 13 0 3)), none, none, none, none], [.inl f_, .inl (S0_.1 13 0 3), .inr (.inr (some (120, 0)))], S0_)) rfl ?_
  refine sm_T_iast (n := 65537) rfl rfl (by omega) (by omega) ?_
  have hI2_ : gi (sm_aI S0_ 120 0 (S0_.1 13 0 3).toNat f_) := gi_aI hI_ (show 0 ≤ f_ ∧ f_ ≤ 1280 from ⟨by omega, by omega⟩)
  have hF3_ : ai_fr (sx_W vw_290) S0_ (sm_aI S0_ 120 0 (S0_.1 13 0 3).toNat f_) := ai_fr_tr hF_ (ai_fr_aI rfl)
  refine sm_T_go 4 (c1 := (18, [some (.inr (.inr (some (13, 0)))), some (.inl f_), some (.inl (S0_.1 13 0 3)), none, none, none, none], [.inl 0, .inl (S0_.1 13 0 3), .inr (.inr (some (121, 0)))], sm_aI S0_ 120 0 (S0_.1 13 0 3).toNat f_)) rfl ?_
  refine sm_T_iast (n := 65537) rfl rfl (by omega) (by omega) ?_
  have hI4_ : gi (sm_aI (sm_aI S0_ 120 0 (S0_.1 13 0 3).toNat f_) 121 0 (S0_.1 13 0 3).toNat 0) := gi_aI hI2_ (show (-2147483648) ≤ 0 ∧ 0 ≤ 2147483647 from ⟨by omega, by omega⟩)
  have hF5_ : ai_fr (sx_W vw_290) S0_ (sm_aI (sm_aI S0_ 120 0 (S0_.1 13 0 3).toNat f_) 121 0 (S0_.1 13 0 3).toNat 0) := ai_fr_tr hF3_ (ai_fr_aI rfl)
  refine sm_T_go 4 (c1 := (25, [some (.inr (.inr (some (13, 0)))), some (.inl f_), some (.inl (S0_.1 13 0 3)), none, none, none, none], [.inr (.inl 0), .inl (S0_.1 13 0 3), .inr (.inr (some (122, 0)))], sm_aI (sm_aI S0_ 120 0 (S0_.1 13 0 3).toNat f_) 121 0 (S0_.1 13 0 3).toNat 0)) rfl ?_
  refine sm_T_last (n := 65537) rfl rfl (by omega) (by omega) ?_
  have hI6_ : gi (sm_aL (sm_aI (sm_aI S0_ 120 0 (S0_.1 13 0 3).toNat f_) 121 0 (S0_.1 13 0 3).toNat 0) 122 0 (S0_.1 13 0 3).toNat 0) := gi_aL hI4_
  have hF7_ : ai_fr (sx_W vw_290) S0_ (sm_aL (sm_aI (sm_aI S0_ 120 0 (S0_.1 13 0 3).toNat f_) 121 0 (S0_.1 13 0 3).toNat 0) 122 0 (S0_.1 13 0 3).toNat 0) := ai_fr_tr hF5_ (ai_fr_aL rfl)
  refine sm_T_go 4 (c1 := (32, [some (.inr (.inr (some (13, 0)))), some (.inl f_), some (.inl (S0_.1 13 0 3)), none, none, none, none], [.inl 0, .inl (S0_.1 13 0 3), .inr (.inr (some (123, 0)))], sm_aL (sm_aI (sm_aI S0_ 120 0 (S0_.1 13 0 3).toNat f_) 121 0 (S0_.1 13 0 3).toNat 0) 122 0 (S0_.1 13 0 3).toNat 0)) rfl ?_
  refine sm_T_iast (n := 65537) rfl rfl (by omega) (by omega) ?_
  have hI8_ : gi (sm_aI (sm_aL (sm_aI (sm_aI S0_ 120 0 (S0_.1 13 0 3).toNat f_) 121 0 (S0_.1 13 0 3).toNat 0) 122 0 (S0_.1 13 0 3).toNat 0) 123 0 (S0_.1 13 0 3).toNat 0) := gi_aI hI6_ (show (-2147483648) ≤ 0 ∧ 0 ≤ 2147483647 from ⟨by omega, by omega⟩)
  have hF9_ : ai_fr (sx_W vw_290) S0_ (sm_aI (sm_aL (sm_aI (sm_aI S0_ 120 0 (S0_.1 13 0 3).toNat f_) 121 0 (S0_.1 13 0 3).toNat 0) 122 0 (S0_.1 13 0 3).toNat 0) 123 0 (S0_.1 13 0 3).toNat 0) := ai_fr_tr hF7_ (ai_fr_aI rfl)
  refine sm_T_go 4 (c1 := (37, [some (.inr (.inr (some (13, 0)))), some (.inl f_), some (.inl (S0_.1 13 0 3)), some (.inl f_), none, none, none], [.inl f_, .inr (.inr (some (13, 0)))], sm_aI (sm_aL (sm_aI (sm_aI S0_ 120 0 (S0_.1 13 0 3).toNat f_) 121 0 (S0_.1 13 0 3).toNat 0) 122 0 (S0_.1 13 0 3).toNat 0) 123 0 (S0_.1 13 0 3).toNat 0)) rfl ?_
  refine sm_T_cal (d1 := 0) (Q1 := vq_282 f_ b_ n_ (sm_aI (sm_aL (sm_aI (sm_aI S0_ 120 0 (S0_.1 13 0 3).toNat f_) 121 0 (S0_.1 13 0 3).toNat 0) 122 0 (S0_.1 13 0 3).toNat 0) 123 0 (S0_.1 13 0 3).toNat 0)) rfl rfl (by decide) (vc_282 f_ b_ n_ (sm_aI (sm_aL (sm_aI (sm_aI S0_ 120 0 (S0_.1 13 0 3).toNat f_) 121 0 (S0_.1 13 0 3).toNat 0) 122 0 (S0_.1 13 0 3).toNat 0) 123 0 (S0_.1 13 0 3).toNat 0) hI8_ (by exact hb1_) (by exact hn2_) (by exact hn1_) (by omega)) (fun u_ S10_ p13_ => ?_)
  obtain ⟨rfl, v15_, rfl, p13_⟩ := p13_
  have hc37_ := p13_
  rw [ef_] at hc37_
  have hrbb : -1 ≤ rb b_ n_ p_ ∧ rb b_ n_ p_ ≤ 255 := by unfold rb; split <;> omega
  refine sm_T_go 2 (c1 := (44, [some (.inr (.inr (some (13, 0)))), some (.inl f_), some (.inl (S0_.1 13 0 3)), some (.inl f_), some (.inl v15_), none, none], [.inl v15_], sm_aI (sm_aL (sm_aI (sm_aI S0_ 120 0 (S0_.1 13 0 3).toNat f_) 121 0 (S0_.1 13 0 3).toNat 0) 122 0 (S0_.1 13 0 3).toNat 0) 123 0 (S0_.1 13 0 3).toNat 0)) rfl ?_
  refine sm_T_cal (d1 := 0) (Q1 := vq_283 v15_ (sm_aI (sm_aL (sm_aI (sm_aI S0_ 120 0 (S0_.1 13 0 3).toNat f_) 121 0 (S0_.1 13 0 3).toNat 0) 122 0 (S0_.1 13 0 3).toNat 0) 123 0 (S0_.1 13 0 3).toNat 0)) rfl rfl (by decide) (vc_283 v15_ (sm_aI (sm_aL (sm_aI (sm_aI S0_ 120 0 (S0_.1 13 0 3).toNat f_) 121 0 (S0_.1 13 0 3).toNat 0) 122 0 (S0_.1 13 0 3).toNat 0) 123 0 (S0_.1 13 0 3).toNat 0) hI8_ ) (fun u_ S16_ p19_ => ?_)
  obtain ⟨rfl, v21_, rfl, p19_⟩ := p19_
  have hl44_ := if01 p19_
  rw [hc37_, hbl_] at hl44_
  refine sm_T_b0 (a := 0) (z := 197) rfl (fun c22_ => ?_) (fun c22_ => ?_)
  · have c22_ : v21_ = 0 := of_decide_eq_true c22_
    refine sm_T_go 1 (c1 := (246, [some (.inr (.inr (some (13, 0)))), some (.inl f_), some (.inl (S0_.1 13 0 3)), some (.inl f_), some (.inl v15_), none, none], [.inl v15_], sm_aI (sm_aL (sm_aI (sm_aI S0_ 120 0 (S0_.1 13 0 3).toNat f_) 121 0 (S0_.1 13 0 3).toNat 0) 122 0 (S0_.1 13 0 3).toNat 0) 123 0 (S0_.1 13 0 3).toNat 0)) rfl ?_
    refine sm_T_cal (d1 := 0) (Q1 := vq_284 v15_ (sm_aI (sm_aL (sm_aI (sm_aI S0_ 120 0 (S0_.1 13 0 3).toNat f_) 121 0 (S0_.1 13 0 3).toNat 0) 122 0 (S0_.1 13 0 3).toNat 0) 123 0 (S0_.1 13 0 3).toNat 0)) rfl rfl (by decide) (vc_284 v15_ (sm_aI (sm_aL (sm_aI (sm_aI S0_ 120 0 (S0_.1 13 0 3).toNat f_) 121 0 (S0_.1 13 0 3).toNat 0) 122 0 (S0_.1 13 0 3).toNat 0) 123 0 (S0_.1 13 0 3).toNat 0) hI8_ ) (fun u_ S23_ p26_ => ?_)
    obtain ⟨rfl, v28_, rfl, p26_⟩ := p26_
    have hg246_ := if01 p26_
    rw [hc37_, hbg_] at hg246_
    refine sm_T_b0 (a := 0) (z := 83) rfl (fun c29_ => ?_) (fun c29_ => ?_)
    · have c29_ : v28_ = 0 := of_decide_eq_true c29_
      refine sm_T_go 0 (c1 := (332, [some (.inr (.inr (some (13, 0)))), some (.inl f_), some (.inl (S0_.1 13 0 3)), some (.inl f_), some (.inl v15_), none, none], [], sm_aI (sm_aL (sm_aI (sm_aI S0_ 120 0 (S0_.1 13 0 3).toNat f_) 121 0 (S0_.1 13 0 3).toNat 0) 122 0 (S0_.1 13 0 3).toNat 0) 123 0 (S0_.1 13 0 3).toNat 0)) rfl ?_
      refine (vl_290 f_ b_ n_ p_ t_ S0_ hb_ hn_ hn1_ hp_ hpn_ ht_ ht1_ _).2.2 (S0_.1 13 0 3) f_ v15_ (sm_aI (sm_aL (sm_aI (sm_aI S0_ 120 0 (S0_.1 13 0 3).toNat f_) 121 0 (S0_.1 13 0 3).toNat 0) 122 0 (S0_.1 13 0 3).toNat 0) 123 0 (S0_.1 13 0 3).toNat 0) hI8_ hF9_ ⟨?_, ?_, ?_, ?_, trivial⟩ (Nat.lt_succ_self _)
      · exact ⟨ht_, hp_, hc37_⟩
      · exact ⟨by omega, by omega⟩
      · (try simp only [rd_eq, rd_ne, rf_eq, rf_nk, rf_nt, rd_fa, rd_af, rd_fl, rd_al, rd_lf, rd_la, rd_leq, rd_lne, rd_fr, rd_ar, ne_eq, Nat.reduceEqDiff, not_false_eq_true])
        simp only [ett_, if_true, reduceIte]
        exact hp_
      · intro j_ hj_
        (try simp only [rd_eq, rd_ne, rf_eq, rf_nk, rf_nt, rd_fa, rd_af, rd_fl, rd_al, rd_lf, rd_la, rd_leq, rd_lne, rd_fr, rd_ar, ne_eq, Nat.reduceEqDiff, not_false_eq_true])
        simp only [ett_, if_neg hj_]
        exact ⟨trivial, trivial, trivial, trivial, trivial⟩
    · have c29_ : ¬ (v28_ = 0) := of_decide_eq_false c29_
      refine sm_T_go 0 (c1 := (252, [some (.inr (.inr (some (13, 0)))), some (.inl f_), some (.inl (S0_.1 13 0 3)), some (.inl f_), some (.inl v15_), none, none], [], sm_aI (sm_aL (sm_aI (sm_aI S0_ 120 0 (S0_.1 13 0 3).toNat f_) 121 0 (S0_.1 13 0 3).toNat 0) 122 0 (S0_.1 13 0 3).toNat 0) 123 0 (S0_.1 13 0 3).toNat 0)) rfl ?_
      refine (vl_290 f_ b_ n_ p_ t_ S0_ hb_ hn_ hn1_ hp_ hpn_ ht_ ht1_ _).2.1 (S0_.1 13 0 3) f_ v15_ (sm_aI (sm_aL (sm_aI (sm_aI S0_ 120 0 (S0_.1 13 0 3).toNat f_) 121 0 (S0_.1 13 0 3).toNat 0) 122 0 (S0_.1 13 0 3).toNat 0) 123 0 (S0_.1 13 0 3).toNat 0) hI8_ hF9_ ⟨?_, ?_, ?_, ?_, ?_, trivial⟩ (Nat.lt_succ_self _)
      · exact ⟨ht_, by omega, by omega⟩
      · exact ⟨0, by omega, by omega, rfl, fun j_ hj_ => absurd hj_ (Nat.not_lt_zero _)⟩
      · rw [show (f_ - p_).toNat = 0 by omega]
        (try simp only [rd_eq, rd_ne, rf_eq, rf_nk, rf_nt, rd_fa, rd_af, rd_fl, rd_al, rd_lf, rd_la, rd_leq, rd_lne, rd_fr, rd_ar, ne_eq, Nat.reduceEqDiff, not_false_eq_true])
        simp only [ett_, if_true, reduceIte]
        rfl
      · (try simp only [rd_eq, rd_ne, rf_eq, rf_nk, rf_nt, rd_fa, rd_af, rd_fl, rd_al, rd_lf, rd_la, rd_leq, rd_lne, rd_fr, rd_ar, ne_eq, Nat.reduceEqDiff, not_false_eq_true])
        simp only [ett_, if_true, reduceIte]
        exact hp_
      · intro j_ hj_
        (try simp only [rd_eq, rd_ne, rf_eq, rf_nk, rf_nt, rd_fa, rd_af, rd_fl, rd_al, rd_lf, rd_la, rd_leq, rd_lne, rd_fr, rd_ar, ne_eq, Nat.reduceEqDiff, not_false_eq_true])
        simp only [ett_, if_neg hj_]
        exact ⟨trivial, trivial, trivial, trivial, trivial⟩
  · have c22_ : ¬ (v21_ = 0) := of_decide_eq_false c22_
    refine sm_T_go 0 (c1 := (50, [some (.inr (.inr (some (13, 0)))), some (.inl f_), some (.inl (S0_.1 13 0 3)), some (.inl f_), some (.inl v15_), none, none], [], sm_aI (sm_aL (sm_aI (sm_aI S0_ 120 0 (S0_.1 13 0 3).toNat f_) 121 0 (S0_.1 13 0 3).toNat 0) 122 0 (S0_.1 13 0 3).toNat 0) 123 0 (S0_.1 13 0 3).toNat 0)) rfl ?_
    refine (vl_290 f_ b_ n_ p_ t_ S0_ hb_ hn_ hn1_ hp_ hpn_ ht_ ht1_ _).1 (S0_.1 13 0 3) f_ v15_ (sm_aI (sm_aL (sm_aI (sm_aI S0_ 120 0 (S0_.1 13 0 3).toNat f_) 121 0 (S0_.1 13 0 3).toNat 0) 122 0 (S0_.1 13 0 3).toNat 0) 123 0 (S0_.1 13 0 3).toNat 0) hI8_ hF9_ ⟨?_, ?_, ?_, ?_, ?_, trivial⟩ (Nat.lt_succ_self _)
    · exact ⟨ht_, by omega⟩
    · exact ⟨0, by omega, by omega, rfl, fun j_ hj_ => absurd hj_ (Nat.not_lt_zero _)⟩
    · rw [show (f_ - p_).toNat = 0 by omega]
      (try simp only [rd_eq, rd_ne, rf_eq, rf_nk, rf_nt, rd_fa, rd_af, rd_fl, rd_al, rd_lf, rd_la, rd_leq, rd_lne, rd_fr, rd_ar, ne_eq, Nat.reduceEqDiff, not_false_eq_true])
      simp only [ett_, if_true, reduceIte]
      exact ⟨rfl, rfl⟩
    · (try simp only [rd_eq, rd_ne, rf_eq, rf_nk, rf_nt, rd_fa, rd_af, rd_fl, rd_al, rd_lf, rd_la, rd_leq, rd_lne, rd_fr, rd_ar, ne_eq, Nat.reduceEqDiff, not_false_eq_true])
      simp only [ett_, if_true, reduceIte]
      exact ⟨trivial, hp_⟩
    · intro j_ hj_
      (try simp only [rd_eq, rd_ne, rf_eq, rf_nk, rf_nt, rd_fa, rd_af, rd_fl, rd_al, rd_lf, rd_la, rd_leq, rd_lne, rd_fr, rd_ar, ne_eq, Nat.reduceEqDiff, not_false_eq_true])
      simp only [ett_, if_neg hj_]
      exact ⟨trivial, trivial, trivial, trivial, trivial⟩
end
/-! 99.v3u -/
section
/-! the reference: all tokens; written by wip/p55/gen/vg -/
theorem lx_en_lt {b_ : Nat → Int} {n_ p_ : Nat} (h_ : p_ < n_) : p_ < lx_en b_ n_ p_ := by
  unfold lx_en
  rw [if_neg (by omega)]
  split
  · rename_i q_
    rw [lx_e_go, if_pos ⟨h_, Or.inl q_⟩]
    have := lx_ne_le (b := b_) (show p_ + 1 ≤ n_ by omega)
    omega
  · split
    · rename_i q_
      rw [lx_f_go, if_pos ⟨h_, q_⟩]
      have := lx_de_le (b := b_) (show p_ + 1 ≤ n_ by omega)
      omega
    · exact (lx_sn_le h_).1
/-- the_ places of_ the_ tokens, one_ after the_ other -/
def lxp (b_ : Nat → Int) (n_ : Nat) : Nat → Nat
  | 0 => lx_k b_ n_ 0
  | i_ + 1 => lx_nx b_ n_ (lxp b_ n_ i_)
theorem lxp_le {b_ : Nat → Int} {n_ : Nat} : ∀ i_, lxp b_ n_ i_ ≤ n_
  | 0 => (lx_k_le (Nat.zero_le n_)).2
  | i_ + 1 => (lx_nx_le (lxp_le i_)).2
theorem lxp_lt {b_ : Nat → Int} {n_ i_ : Nat} (h_ : lxp b_ n_ i_ < n_) : lxp b_ n_ i_ < lxp b_ n_ (i_ + 1) := by
  have h1_ := lx_en_lt (b_ := b_) h_
  have h2_ := lx_en_le (b := b_) (Nat.le_of_lt h_)
  have h3_ := lx_k_le (b := b_) h2_.2
  show _ < lx_nx b_ n_ (lxp b_ n_ i_)
  unfold lx_nx
  omega
theorem lxp_ge {b_ : Nat → Int} {n_ : Nat} : ∀ i_, (∀ j_, j_ < i_ → lxp b_ n_ j_ < n_) → i_ ≤ lxp b_ n_ i_
  | 0, _ => Nat.zero_le _
  | i_ + 1, h_ => by
    have h1_ := lxp_ge i_ (fun j_ hj_ => h_ j_ (by omega))
    have h2_ := lxp_lt (h_ i_ (by omega))
    omega
def rrow (b_ : Nat → Int) (n_ : Nat) (S_ : sm_S) (t_ p_ : Nat) : Prop := (S_.2.2.1 120 0 (t_)) = (p_ : Int) ∧ (S_.2.2.1 119 0 (t_)) = r_so (lx_kd b_ n_ p_) ∧ (lx_kd b_ n_ p_ ≠ -1 → (S_.2.2.1 121 0 (t_)) = r_nu (lx_kd b_ n_ p_) (lx_vl b_ n_ p_)) ∧ (lx_kd b_ n_ p_ = 1 → (S_.2.2.2 122 0 (t_)) = rk1 b_ p_ (lx_sz b_ n_ p_) ∧ (S_.2.2.1 123 0 (t_)) = rk2 b_ p_ (lx_sz b_ n_ p_))
def tkt (b_ : Nat → Int) (n_ T_ : Nat) (S_ : sm_S) : Prop := (∀ i_, i_ < T_ → lxp b_ n_ i_ < n_ ∧ rrow b_ n_ S_ i_ (lxp b_ n_ i_)) ∧ (∀ i_, i_ + 1 < T_ → lx_kd b_ n_ (lxp b_ n_ i_) ≠ -1)
/-! M_.cutTape -/
def vw_291 : sx_Wl := ([(13, 3)], [119, 120, 121, 122, 123], [])
def vq_291 (b_ : Nat → Int) (n_ : Nat) (S0_ : sm_S) (u_ : Option sm_V) (S1_ : sm_S) : Prop := u_ = none ∧ gi S1_ ∧ ai_fr (sx_W vw_291) S0_ S1_ ∧ (∃ T_ : Nat, (S1_.1 13 0 3) = (T_ : Int) ∧ T_ ≤ 1280 ∧ tkt b_ n_ T_ S1_ ∧ (S1_.2.2.1 119 0 (T_)) = 5 ∧ (S1_.2.2.1 120 0 (T_)) = (n_ : Int) ∧ (S1_.2.2.1 121 0 (T_)) = 0 ∧ ((lxp b_ n_ T_ = n_ ∧ ∀ i_, i_ < T_ → lx_kd b_ n_ (lxp b_ n_ i_) ≠ -1) ∨ (0 < T_ ∧ lx_kd b_ n_ (lxp b_ n_ (T_ - 1)) = -1)))
theorem vl_291 {sc_ : Nat × (Nat → Int)} (b_ : Nat → Int) (n_ : Nat) (S0_ : sm_S) (hb_ : S0_.2.2.1 118 0 = b_) (hn_ : (S0_.1 13 0 2) = (n_ : Int)) (hn1_ : n_ ≤ 1280) : ∀ nn_ : Nat, (∀ (k_ : Int) (bad_ : Int) (S_ : sm_S), gi S_ → ai_fr (sx_W vw_291) S0_ S_ → ((bad_ = 0 ∨ bad_ = 1) ∧ (∃ T_ : Nat, (S_.1 13 0 3) = (T_ : Int) ∧ T_ ≤ n_ ∧ k_ = (lxp b_ n_ T_ : Nat) ∧ tkt b_ n_ T_ S_ ∧ ((bad_ = 0 ∧ ∀ i_, i_ < T_ → lx_kd b_ n_ (lxp b_ n_ i_) ≠ -1) ∨ (bad_ = 1 ∧ 0 < T_ ∧ lx_kd b_ n_ (lxp b_ n_ (T_ - 1)) = -1))) ∧ True) → ((1300 - (S_.1 13 0 3)).toNat) < nn_ → sm_T (mt_P sc_) 3 291 (13, [some (.inr (.inr (some (13, 0)))), some (.inl k_), some (.inl bad_)], [], S_) (fun r_ => ∃ u_ S1_, r_ = (.inl u_, S1_, 0) ∧ vq_291 b_ n_ S0_ u_ S1_)) := by
  intro nn_
  induction nn_ with
  | zero => exact fun _ _ _ _ _ _ h_ => absurd h_ (Nat.not_lt_zero _)
  | succ nn_ ih_ =>
    rintro k_ bad_ S_ hI_ hF_ ⟨h0_, h1_, -⟩ hm_
    have hb1_ : S_.2.2.1 118 0 = b_ := (fr_arr hF_ rfl).trans hb_
    have hn2_ : (S_.1 13 0 2) = (n_ : Int) := (hF_.1 13 0 2 rfl).trans hn_
    have hbb_ : ∀ k_, -128 ≤ b_ k_ ∧ b_ k_ ≤ 127 := fun k_ => by rw [← hb1_]; exact hI_.2 118 0 k_
    obtain ⟨T_, hT_, hTn_, hk_, ht_, hd_⟩ := h1_
    have hle_ := (lxp_le T_ : lxp b_ n_ T_ ≤ n_)
    have hge_ := lxp_ge (b_ := b_) (n_ := n_) T_ (fun j_ hj_ => (ht_.1 j_ hj_).1)
    have hel_ := lx_en_le (b := b_) hle_
    have eT_ : (S_.1 13 0 3).toNat = T_ := by omega
    have b1_ : 0 ≤ S_.1 13 0 2 ∧ S_.1 13 0 2 ≤ 1280 := hI_.1 13 0 2 rfl
    refine sm_T_go 3 (c1 := (18, [some (.inr (.inr (some (13, 0)))), some (.inl k_), some (.inl bad_)], [.inl (S_.1 13 0 2), .inl k_], S_)) rfl ?_
    refine sm_T_br (a := 3) (z := 49) rfl (fun c2_ => ?_) (fun c2_ => ?_)
    · have c2_ : (S_.1 13 0 2) ≤ k_ := of_decide_eq_true c2_
      have b3_ : 0 ≤ S_.1 13 0 3 ∧ S_.1 13 0 3 ≤ 1280 := hI_.1 13 0 3 rfl
      refine sm_T_go 5 (c1 := (76, [some (.inr (.inr (some (13, 0)))), some (.inl k_), some (.inl bad_)], [.inl 5, .inl (S_.1 13 0 3), .inr (.inr (some (119, 0)))], S_)) rfl ?_
      refine sm_T_bas1 (n := 65537) rfl rfl (by omega) (by omega) (by decide) ?_
      have hI4_ : gi (sm_aI S_ 119 0 (S_.1 13 0 3).toNat 5) := gi_aI hI_ (show (-128) ≤ 5 ∧ 5 ≤ 127 from ⟨by omega, by omega⟩)
      have hF5_ : ai_fr (sx_W vw_291) S0_ (sm_aI S_ 119 0 (S_.1 13 0 3).toNat 5) := ai_fr_tr hF_ (ai_fr_aI rfl)
      refine sm_T_go 6 (c1 := (89, [some (.inr (.inr (some (13, 0)))), some (.inl k_), some (.inl bad_)], [.inl (S_.1 13 0 2), .inl (S_.1 13 0 3), .inr (.inr (some (120, 0)))], sm_aI S_ 119 0 (S_.1 13 0 3).toNat 5)) rfl ?_
      refine sm_T_iast (n := 65537) rfl rfl (by omega) (by omega) ?_
      have hI6_ : gi (sm_aI (sm_aI S_ 119 0 (S_.1 13 0 3).toNat 5) 120 0 (S_.1 13 0 3).toNat (S_.1 13 0 2)) := gi_aI hI4_ (show 0 ≤ (S_.1 13 0 2) ∧ (S_.1 13 0 2) ≤ 1280 from ⟨by omega, by omega⟩)
      have hF7_ : ai_fr (sx_W vw_291) S0_ (sm_aI (sm_aI S_ 119 0 (S_.1 13 0 3).toNat 5) 120 0 (S_.1 13 0 3).toNat (S_.1 13 0 2)) := ai_fr_tr hF5_ (ai_fr_aI rfl)
      refine sm_T_go 5 (c1 := (99, [some (.inr (.inr (some (13, 0)))), some (.inl k_), some (.inl bad_)], [.inl 0, .inl (S_.1 13 0 3), .inr (.inr (some (121, 0)))], sm_aI (sm_aI S_ 119 0 (S_.1 13 0 3).toNat 5) 120 0 (S_.1 13 0 3).toNat (S_.1 13 0 2))) rfl ?_
      refine sm_T_iast (n := 65537) rfl rfl (by omega) (by omega) ?_
      have hI8_ : gi (sm_aI (sm_aI (sm_aI S_ 119 0 (S_.1 13 0 3).toNat 5) 120 0 (S_.1 13 0 3).toNat (S_.1 13 0 2)) 121 0 (S_.1 13 0 3).toNat 0) := gi_aI hI6_ (show (-2147483648) ≤ 0 ∧ 0 ≤ 2147483647 from ⟨by omega, by omega⟩)
      have hF9_ : ai_fr (sx_W vw_291) S0_ (sm_aI (sm_aI (sm_aI S_ 119 0 (S_.1 13 0 3).toNat 5) 120 0 (S_.1 13 0 3).toNat (S_.1 13 0 2)) 121 0 (S_.1 13 0 3).toNat 0) := ai_fr_tr hF7_ (ai_fr_aI rfl)
      refine sm_T_rv rfl ⟨_, _, rfl, rfl, hI8_, hF9_, ?_⟩
      refine ⟨T_, hT_, by omega, ?_, ?_, ?_, ?_, ?_⟩
      · refine ⟨fun i_ hi_ => ⟨(ht_.1 i_ hi_).1, ?_⟩, ht_.2⟩
        have hv_ := (ht_.1 i_ hi_).2
        unfold rrow at hv_ ⊢
        (try simp only [rd_eq, rd_ne, rf_eq, rf_nk, rf_nt, rd_fa, rd_af, rd_fl, rd_al, rd_lf, rd_la, rd_leq, rd_lne, rd_fr, rd_ar, ne_eq, Nat.reduceEqDiff, not_false_eq_true])
        simp only [eT_, show i_ ≠ T_ by omega, if_false, reduceIte]
        exact hv_
      · (try simp only [rd_eq, rd_ne, rf_eq, rf_nk, rf_nt, rd_fa, rd_af, rd_fl, rd_al, rd_lf, rd_la, rd_leq, rd_lne, rd_fr, rd_ar, ne_eq, Nat.reduceEqDiff, not_false_eq_true]); simp only [eT_, if_true, reduceIte]
      · (try simp only [rd_eq, rd_ne, rf_eq, rf_nk, rf_nt, rd_fa, rd_af, rd_fl, rd_al, rd_lf, rd_la, rd_leq, rd_lne, rd_fr, rd_ar, ne_eq, Nat.reduceEqDiff, not_false_eq_true]); simp only [eT_, if_true, reduceIte]; exact hn2_
      · (try simp only [rd_eq, rd_ne, rf_eq, rf_nk, rf_nt, rd_fa, rd_af, rd_fl, rd_al, rd_lf, rd_la, rd_leq, rd_lne, rd_fr, rd_ar, ne_eq, Nat.reduceEqDiff, not_false_eq_true]); simp only [eT_, if_true, reduceIte]
      · rcases hd_ with hd_ | hd_
        · left; exact ⟨by omega, hd_.2⟩
        · right; exact hd_.2
    · have c2_ : ¬ ((S_.1 13 0 2) ≤ k_) := of_decide_eq_false c2_
      refine sm_T_go 1 (c1 := (22, [some (.inr (.inr (some (13, 0)))), some (.inl k_), some (.inl bad_)], [.inl bad_], S_)) rfl ?_
      refine sm_T_b0 (a := 1) (z := 45) rfl (fun c10_ => ?_) (fun c10_ => ?_)
      · have c10_ : bad_ ≠ 0 := of_decide_eq_true c10_
        have b11_ : 0 ≤ S_.1 13 0 3 ∧ S_.1 13 0 3 ≤ 1280 := hI_.1 13 0 3 rfl
        refine sm_T_go 5 (c1 := (76, [some (.inr (.inr (some (13, 0)))), some (.inl k_), some (.inl bad_)], [.inl 5, .inl (S_.1 13 0 3), .inr (.inr (some (119, 0)))], S_)) rfl ?_
        refine sm_T_bas1 (n := 65537) rfl rfl (by omega) (by omega) (by decide) ?_
        have hI12_ : gi (sm_aI S_ 119 0 (S_.1 13 0 3).toNat 5) := gi_aI hI_ (show (-128) ≤ 5 ∧ 5 ≤ 127 from ⟨by omega, by omega⟩)
        have hF13_ : ai_fr (sx_W vw_291) S0_ (sm_aI S_ 119 0 (S_.1 13 0 3).toNat 5) := ai_fr_tr hF_ (ai_fr_aI rfl)
        refine sm_T_go 6 (c1 := (89, [some (.inr (.inr (some (13, 0)))), some (.inl k_), some (.inl bad_)], [.inl (S_.1 13 0 2), .inl (S_.1 13 0 3), .inr (.inr (some (120, 0)))], sm_aI S_ 119 0 (S_.1 13 0 3).toNat 5)) rfl ?_
        refine sm_T_iast (n := 65537) rfl rfl (by omega) (by omega) ?_
        have hI14_ : gi (sm_aI (sm_aI S_ 119 0 (S_.1 13 0 3).toNat 5) 120 0 (S_.1 13 0 3).toNat (S_.1 13 0 2)) := gi_aI hI12_ (show 0 ≤ (S_.1 13 0 2) ∧ (S_.1 13 0 2) ≤ 1280 from ⟨by omega, by omega⟩)
        have hF15_ : ai_fr (sx_W vw_291) S0_ (sm_aI (sm_aI S_ 119 0 (S_.1 13 0 3).toNat 5) 120 0 (S_.1 13 0 3).toNat (S_.1 13 0 2)) := ai_fr_tr hF13_ (ai_fr_aI rfl)
        refine sm_T_go 5 (c1 := (99, [some (.inr (.inr (some (13, 0)))), some (.inl k_), some (.inl bad_)], [.inl 0, .inl (S_.1 13 0 3), .inr (.inr (some (121, 0)))], sm_aI (sm_aI S_ 119 0 (S_.1 13 0 3).toNat 5) 120 0 (S_.1 13 0 3).toNat (S_.1 13 0 2))) rfl ?_
        refine sm_T_iast (n := 65537) rfl rfl (by omega) (by omega) ?_
        have hI16_ : gi (sm_aI (sm_aI (sm_aI S_ 119 0 (S_.1 13 0 3).toNat 5) 120 0 (S_.1 13 0 3).toNat (S_.1 13 0 2)) 121 0 (S_.1 13 0 3).toNat 0) := gi_aI hI14_ (show (-2147483648) ≤ 0 ∧ 0 ≤ 2147483647 from ⟨by omega, by omega⟩)
        have hF17_ : ai_fr (sx_W vw_291) S0_ (sm_aI (sm_aI (sm_aI S_ 119 0 (S_.1 13 0 3).toNat 5) 120 0 (S_.1 13 0 3).toNat (S_.1 13 0 2)) 121 0 (S_.1 13 0 3).toNat 0) := ai_fr_tr hF15_ (ai_fr_aI rfl)
        refine sm_T_rv rfl ⟨_, _, rfl, rfl, hI16_, hF17_, ?_⟩
        refine ⟨T_, hT_, by omega, ?_, ?_, ?_, ?_, ?_⟩
        · refine ⟨fun i_ hi_ => ⟨(ht_.1 i_ hi_).1, ?_⟩, ht_.2⟩
          have hv_ := (ht_.1 i_ hi_).2
          unfold rrow at hv_ ⊢
          (try simp only [rd_eq, rd_ne, rf_eq, rf_nk, rf_nt, rd_fa, rd_af, rd_fl, rd_al, rd_lf, rd_la, rd_leq, rd_lne, rd_fr, rd_ar, ne_eq, Nat.reduceEqDiff, not_false_eq_true])
          simp only [eT_, show i_ ≠ T_ by omega, if_false, reduceIte]
          exact hv_
        · (try simp only [rd_eq, rd_ne, rf_eq, rf_nk, rf_nt, rd_fa, rd_af, rd_fl, rd_al, rd_lf, rd_la, rd_leq, rd_lne, rd_fr, rd_ar, ne_eq, Nat.reduceEqDiff, not_false_eq_true]); simp only [eT_, if_true, reduceIte]
        · (try simp only [rd_eq, rd_ne, rf_eq, rf_nk, rf_nt, rd_fa, rd_af, rd_fl, rd_al, rd_lf, rd_la, rd_leq, rd_lne, rd_fr, rd_ar, ne_eq, Nat.reduceEqDiff, not_false_eq_true]); simp only [eT_, if_true, reduceIte]; exact hn2_
        · (try simp only [rd_eq, rd_ne, rf_eq, rf_nk, rf_nt, rd_fa, rd_af, rd_fl, rd_al, rd_lf, rd_la, rd_leq, rd_lne, rd_fr, rd_ar, ne_eq, Nat.reduceEqDiff, not_false_eq_true]); simp only [eT_, if_true, reduceIte]
        · rcases hd_ with hd_ | hd_
          · left; exact ⟨by omega, hd_.2⟩
          · right; exact hd_.2
      · have c10_ : ¬ (bad_ ≠ 0) := of_decide_eq_false c10_
        refine sm_T_go 3 (c1 := (28, [some (.inr (.inr (some (13, 0)))), some (.inl k_), some (.inl bad_)], [.inl k_, .inr (.inr (some (13, 0))), .inr (.inr (some (13, 0)))], S_)) rfl ?_
        refine sm_T_cal (d1 := 2) (Q1 := vq_290 k_ b_ n_ (lxp b_ n_ T_) T_ S_) rfl rfl (by decide) (vc_290 k_ b_ n_ (lxp b_ n_ T_) T_ S_ hI_ (by exact hb1_) (by exact hn2_) (by exact hn1_) (by exact hk_) (by omega) (by exact hT_) (by omega)) (fun u_ S18_ p21_ => ?_)
        obtain ⟨v23_, rfl, hI19_, hF20_, p21_⟩ := p21_
        have hF22_ : ai_fr (sx_W vw_291) S0_ S18_ := ai_fr_tr hF_ (fr_le hF20_ rfl)
        have e24_ : S18_.1 13 0 2 = S_.1 13 0 2 := hF20_.1 13 0 2 rfl
        have hr28_ := p21_
        have hb28_ : S18_.2.2.1 118 0 = b_ := (fr_arr hF20_ rfl).trans hb1_
        have hn28_ : S18_.1 13 0 2 = (n_ : Int) := (hF20_.1 13 0 2 rfl).trans hn2_
        have hT28_ : S18_.1 13 0 3 = (T_ : Int) := (hF20_.1 13 0 3 rfl).trans hT_
        refine sm_T_cal (d1 := 1) (Q1 := vq_286 v23_ b_ n_ (lx_en b_ n_ (lxp b_ n_ T_)) S18_) rfl rfl (by decide) (vc_286 v23_ b_ n_ (lx_en b_ n_ (lxp b_ n_ T_)) S18_ hI19_ (by exact hb28_) (by exact hn28_) (by exact hn1_) (by exact hr28_.1) (by omega)) (fun u_ S25_ p28_ => ?_)
        obtain ⟨v30_, rfl, hI26_, hF27_, p28_⟩ := p28_
        have hF29_ : ai_fr (sx_W vw_291) S0_ S25_ := ai_fr_tr hF22_ (fr_le hF27_ rfl)
        have hk31_ := p28_
        have hT31_ : S25_.1 13 0 3 = (T_ : Int) := (hF27_.1 13 0 3 rfl).trans hT28_
        have hso_ : S25_.2.2.1 119 0 = S18_.2.2.1 119 0 := fr_arr hF27_ rfl
        have hpl_ : S25_.2.2.1 120 0 = S18_.2.2.1 120 0 := fr_arr hF27_ rfl
        have hnu_ : S25_.2.2.1 121 0 = S18_.2.2.1 121 0 := fr_arr hF27_ rfl
        have hse_ : S25_.2.2.1 123 0 = S18_.2.2.1 123 0 := fr_arr hF27_ rfl
        have hfi_ : S25_.2.2.2 122 0 = S18_.2.2.2 122 0 := fr_arl hF27_ rfl
        have eT31_ : (S25_.1 13 0 3).toNat = T_ := by omega
        have hnt_ : tkt b_ n_ (T_ + 1) S25_ := by refine ⟨fun i_ hi_ => ?_, fun i_ hi_ => ?_⟩; rotate_left; (by_cases hq_ : i_ + 1 < T_; (exact ht_.2 i_ hq_); (have : i_ = T_ - 1 := by omega); rw [this]; rcases hd_ with hd_ | hd_; (exact hd_.2 _ (by omega)); omega); (by_cases hq_ : i_ = T_; (rw [hq_]; refine ⟨by omega, ?_⟩; unfold rrow; rw [hso_, hpl_, hnu_, hse_, hfi_]; exact hr28_.2.1); (have hh_ := ht_.1 i_ (by omega); refine ⟨hh_.1, ?_⟩; have hu_ := hr28_.2.2 i_ hq_; have hv_ := hh_.2; unfold rrow at hv_ ⊢; rw [hso_, hpl_, hnu_, hse_, hfi_, hu_.1, hu_.2.1, hu_.2.2.1, hu_.2.2.2.1, hu_.2.2.2.2]; exact hv_))
        have hrs_ : S25_.2.2.1 119 0 T_ = r_so (lx_kd b_ n_ (lxp b_ n_ T_)) := by rw [hso_]; exact hr28_.2.1.2.1
        have b31_ : 0 ≤ S25_.1 13 0 3 ∧ S25_.1 13 0 3 ≤ 1280 := hI26_.1 13 0 3 rfl
        refine sm_T_go 5 (c1 := (43, [some (.inr (.inr (some (13, 0)))), some (.inl v30_), some (.inl bad_)], [.inl (S25_.1 13 0 3), .inr (.inr (some (119, 0)))], S25_)) rfl ?_
        refine sm_T_bald (n := 65537) rfl rfl (by omega) (by omega) ?_
        have b32_ : (-128) ≤ S25_.2.2.1 119 0 (S25_.1 13 0 3).toNat ∧ S25_.2.2.1 119 0 (S25_.1 13 0 3).toNat ≤ 127 := hI26_.2 119 0 _
        refine sm_T_go 1 (c1 := (45, [some (.inr (.inr (some (13, 0)))), some (.inl v30_), some (.inl bad_)], [.inl 4, .inl (S25_.2.2.1 119 0 (S25_.1 13 0 3).toNat)], S25_)) rfl ?_
        refine sm_T_br (a := 1) (z := 7) rfl (fun c33_ => ?_) (fun c33_ => ?_)
        · have c33_ : (S25_.2.2.1 119 0 (S25_.1 13 0 3).toNat) ≠ 4 := of_decide_eq_true c33_
          refine sm_T_go 6 (c1 := (60, [some (.inr (.inr (some (13, 0)))), some (.inl v30_), some (.inl 0)], [.inl 1, .inl (S25_.1 13 0 3), .inr (.inr (some (13, 0)))], S25_)) rfl ?_
          refine sm_T_bin (w := (S25_.1 13 0 3) + 1) rfl (bi_add (by omega) (by omega) (by omega)) ?_
          have hI34_ : gi (sm_pI S25_ 13 0 3 ((S25_.1 13 0 3) + 1)) := gi_pI hI26_ (show 0 ≤ (S25_.1 13 0 3) + 1 ∧ (S25_.1 13 0 3) + 1 ≤ 1280 from ⟨by omega, by omega⟩)
          have hF35_ : ai_fr (sx_W vw_291) S0_ (sm_pI S25_ 13 0 3 ((S25_.1 13 0 3) + 1)) := ai_fr_tr hF29_ (ai_fr_pI rfl)
          refine sm_T_go 2 (c1 := (13, [some (.inr (.inr (some (13, 0)))), some (.inl v30_), some (.inl 0)], [], sm_pI S25_ 13 0 3 ((S25_.1 13 0 3) + 1))) rfl ?_
          refine ih_ v30_ 0 (sm_pI S25_ 13 0 3 ((S25_.1 13 0 3) + 1)) hI34_ hF35_ ⟨?_, ?_, trivial⟩ ?_
          · omega
          · refine ⟨T_ + 1, ?_, by omega, hk31_, ?_, ?_⟩
            · (try simp only [rd_eq, rd_ne, rf_eq, rf_nk, rf_nt, rd_fa, rd_af, rd_fl, rd_al, rd_lf, rd_la, rd_leq, rd_lne, rd_fr, rd_ar, ne_eq, Nat.reduceEqDiff, not_false_eq_true]); push_cast; omega
            · exact hnt_
            · rw [eT31_] at c33_
              unfold r_so at hrs_
              first | (left; refine ⟨rfl, fun i_ hi_ => ?_⟩; by_cases hq_ : i_ = T_; (rw [hq_]; intro hx_; rw [if_pos hx_] at hrs_; omega); (rcases hd_ with hd_ | hd_; (exact hd_.2 i_ (by omega)); omega)) | (right; refine ⟨rfl, by omega, ?_⟩; show lx_kd b_ n_ (lxp b_ n_ T_) = -1; by_cases hx_ : lx_kd b_ n_ (lxp b_ n_ T_) = -1; (exact hx_); (exfalso; rw [if_neg hx_] at hrs_; repeat' split at hrs_; all_goals omega))
          · (try simp only [rd_eq, rd_ne, rf_eq, rf_nk, rf_nt, rd_fa, rd_af, rd_fl, rd_al, rd_lf, rd_la, rd_leq, rd_lne, rd_fr, rd_ar, ne_eq, Nat.reduceEqDiff, not_false_eq_true]); omega
        · have c33_ : ¬ ((S25_.2.2.1 119 0 (S25_.1 13 0 3).toNat) ≠ 4) := of_decide_eq_false c33_
          refine sm_T_go 7 (c1 := (60, [some (.inr (.inr (some (13, 0)))), some (.inl v30_), some (.inl 1)], [.inl 1, .inl (S25_.1 13 0 3), .inr (.inr (some (13, 0)))], S25_)) rfl ?_
          refine sm_T_bin (w := (S25_.1 13 0 3) + 1) rfl (bi_add (by omega) (by omega) (by omega)) ?_
          have hI36_ : gi (sm_pI S25_ 13 0 3 ((S25_.1 13 0 3) + 1)) := gi_pI hI26_ (show 0 ≤ (S25_.1 13 0 3) + 1 ∧ (S25_.1 13 0 3) + 1 ≤ 1280 from ⟨by omega, by omega⟩)
          have hF37_ : ai_fr (sx_W vw_291) S0_ (sm_pI S25_ 13 0 3 ((S25_.1 13 0 3) + 1)) := ai_fr_tr hF29_ (ai_fr_pI rfl)
          refine sm_T_go 2 (c1 := (13, [some (.inr (.inr (some (13, 0)))), some (.inl v30_), some (.inl 1)], [], sm_pI S25_ 13 0 3 ((S25_.1 13 0 3) + 1))) rfl ?_
          refine ih_ v30_ 1 (sm_pI S25_ 13 0 3 ((S25_.1 13 0 3) + 1)) hI36_ hF37_ ⟨?_, ?_, trivial⟩ ?_
          · omega
          · refine ⟨T_ + 1, ?_, by omega, hk31_, ?_, ?_⟩
            · (try simp only [rd_eq, rd_ne, rf_eq, rf_nk, rf_nt, rd_fa, rd_af, rd_fl, rd_al, rd_lf, rd_la, rd_leq, rd_lne, rd_fr, rd_ar, ne_eq, Nat.reduceEqDiff, not_false_eq_true]); push_cast; omega
            · exact hnt_
            · rw [eT31_] at c33_
              unfold r_so at hrs_
              first | (left; refine ⟨rfl, fun i_ hi_ => ?_⟩; by_cases hq_ : i_ = T_; (rw [hq_]; intro hx_; rw [if_pos hx_] at hrs_; omega); (rcases hd_ with hd_ | hd_; (exact hd_.2 i_ (by omega)); omega)) | (right; refine ⟨rfl, by omega, ?_⟩; show lx_kd b_ n_ (lxp b_ n_ T_) = -1; by_cases hx_ : lx_kd b_ n_ (lxp b_ n_ T_) = -1; (exact hx_); (exfalso; rw [if_neg hx_] at hrs_; repeat' split at hrs_; all_goals omega))
          · (try simp only [rd_eq, rd_ne, rf_eq, rf_nk, rf_nt, rd_fa, rd_af, rd_fl, rd_al, rd_lf, rd_la, rd_leq, rd_lne, rd_fr, rd_ar, ne_eq, Nat.reduceEqDiff, not_false_eq_true]); omega
theorem vc_291 {sc_ : Nat × (Nat → Int)} (b_ : Nat → Int) (n_ : Nat) (S0_ : sm_S) (hI_ : gi S0_) (hb_ : S0_.2.2.1 118 0 = b_) (hn_ : (S0_.1 13 0 2) = (n_ : Int)) (hn1_ : n_ ≤ 1280) : sm_T (mt_P sc_) 3 291 (0, [some (.inr (.inr (some (13, 0)))), none, none], [], S0_) (fun r_ => ∃ u_ S1_, r_ = (.inl u_, S1_, 0) ∧ vq_291 b_ n_ S0_ u_ S1_) := by
  have hF_ : ai_fr (sx_W vw_291) S0_ S0_ := ai_fr_rf
  have hb1_ := hb_
  have hn2_ := hn_
  have hI1_ : gi (sm_pI S0_ 13 0 3 0) := gi_pI hI_ (show 0 ≤ 0 ∧ 0 ≤ 1280 from ⟨by omega, by omega⟩)
  have hF2_ : ai_fr (sx_W vw_291) S0_ (sm_pI S0_ 13 0 3 0) := ai_fr_tr hF_ (ai_fr_pI rfl)
  refine sm_T_go 5 (c1 := (7, [some (.inr (.inr (some (13, 0)))), none, none], [.inl 0, .inr (.inr (some (13, 0)))], sm_pI S0_ 13 0 3 0)) rfl ?_
  refine sm_T_cal (d1 := 1) (Q1 := vq_286 0 b_ n_ 0 (sm_pI S0_ 13 0 3 0)) rfl rfl (by decide) (vc_286 0 b_ n_ 0 (sm_pI S0_ 13 0 3 0) hI1_ (by exact hb1_) (by exact hn2_) (by exact hn1_) (by rfl) (by omega)) (fun u_ S3_ p6_ => ?_)
  obtain ⟨v8_, rfl, hI4_, hF5_, p6_⟩ := p6_
  have hF7_ : ai_fr (sx_W vw_291) S0_ S3_ := ai_fr_tr hF2_ (fr_le hF5_ rfl)
  have hs7_ := p6_
  have hT7_ := hF5_.1 13 0 3 rfl
  refine sm_T_go 3 (c1 := (13, [some (.inr (.inr (some (13, 0)))), some (.inl v8_), some (.inl 0)], [], S3_)) rfl ?_
  refine (vl_291 b_ n_ S0_ hb_ hn_ hn1_ _) v8_ 0 S3_ hI4_ hF7_ ⟨?_, ?_, trivial⟩ (Nat.lt_succ_self _)
  · omega
  · refine ⟨0, ?_, by omega, hs7_, ⟨fun i_ hi_ => absurd hi_ (Nat.not_lt_zero _), fun i_ hi_ => absurd hi_ (Nat.not_lt_zero _)⟩, Or.inl ⟨rfl, fun i_ hi_ => absurd hi_ (Nat.not_lt_zero _)⟩⟩
    exact hT7_
end
/-! 99.w1 -/
section
/-! the abstract parser of expressions; written by wip/p55/gen/vg -/

/-! a_ reference that may_ be_ null is_ read -/
theorem sm_T_gr {P_ : sm_P} {d_ mid_ pc_ n0_ a_ t_ e_ i_ : Nat} {z_ : Int} {L_ : sm_L} {r_ : List sm_V} {S_ : sm_S} {Q_ : sm_R → Prop} {o_ : Option Nat} (hx_ : P_.1 mid_ pc_ = some (23, n0_, a_, t_, e_, z_)) (hf_ : (sh_fk t_ e_).1 = 2) (ho_ : S_.2.1 t_ i_ e_ = o_) (kk_ : sm_T P_ d_ mid_ (pc_ + 3, L_, .inr (.inr (o_.map fun j_ => ((sh_fk t_ e_).2.1, j_))) :: r_, S_) Q_) : sm_T P_ d_ mid_ (pc_, L_, .inr (.inr (some (t_, i_))) :: r_, S_) Q_ :=
  sm_T_stp hx_ (Nat.le_of_ble_eq_true rfl) (c1 := (pc_ + 3, L_, .inr (.inr (o_.map fun j_ => ((sh_fk t_ e_).2.1, j_))) :: r_, S_)) (by
    have hu_ : sm_fu S_ t_ i_ e_ = .inr (.inr (o_.map fun j_ => ((sh_fk t_ e_).2.1, j_))) := by
      unfold sm_fu
      rw [hf_]
      show Sum.inr (Sum.inr ((S_.2.1 t_ i_ e_).map _)) = _
      rw [ho_]
    simp only [sm_stp, if_true, hu_]) kk_
/-! names alike; the_ first of_ a_ row_ -/
def nm_q (b_ : Nat → Int) (n_ p_ q_ : Nat) : Bool := decide (lx_sz b_ n_ p_ = lx_sz b_ n_ q_) && (List.range (lx_sz b_ n_ p_)).all fun k_ => decide (b_ (p_ + k_) = b_ (q_ + k_))
theorem nm_q_t {b_ : Nat → Int} {n_ p_ q_ : Nat} : nm_q b_ n_ p_ q_ = true ↔ lx_sz b_ n_ p_ = lx_sz b_ n_ q_ ∧ ∀ k_, k_ < lx_sz b_ n_ p_ → b_ (p_ + k_) = b_ (q_ + k_) := by
  unfold nm_q
  simp only [Bool.and_eq_true, decide_eq_true_eq, List.all_eq_true, List.mem_range]
def p_fd (f_ : Nat → Bool) : Nat → Int
  | 0 => -1
  | k_ + 1 => if p_fd f_ k_ = -1 then (if f_ k_ = true then (k_ : Int) else -1) else p_fd f_ k_
theorem p_fd_b {f_ : Nat → Bool} : ∀ k_, -1 ≤ p_fd f_ k_ ∧ p_fd f_ k_ < k_
  | 0 => (by decide : (-1 : Int) ≤ -1 ∧ (-1 : Int) < ((0 : Nat) : Int))
  | k_ + 1 => by
    have h_ := p_fd_b (f_ := f_) k_
    unfold p_fd
    split
    · split <;> omega
    · omega
theorem p_fd_st {f_ : Nat → Bool} {k_ : Nat} (h_ : p_fd f_ k_ ≠ -1) : ∀ j_, p_fd f_ (k_ + j_) = p_fd f_ k_
  | 0 => rfl
  | j_ + 1 => by
    have e_ := p_fd_st h_ j_
    show p_fd f_ (k_ + j_ + 1) = _
    rw [p_fd, e_, if_neg h_]
theorem p_fd_go {f_ : Nat → Bool} {k_ m_ : Nat} (h_ : p_fd f_ k_ = -1) (hf_ : f_ k_ = true) (hm_ : k_ < m_) : p_fd f_ m_ = (k_ : Int) := by
  have h1_ : p_fd f_ (k_ + 1) = (k_ : Int) := by rw [p_fd, if_pos h_, if_pos hf_]
  have h2_ := p_fd_st (f_ := f_) (k_ := k_ + 1) (by omega) (m_ - (k_ + 1))
  rw [show k_ + 1 + (m_ - (k_ + 1)) = m_ by omega] at h2_
  omega
theorem p_fd_nx {f_ : Nat → Bool} {k_ : Nat} (h_ : p_fd f_ k_ = -1) (hf_ : f_ k_ = false) : p_fd f_ (k_ + 1) = -1 := by
  rw [p_fd, if_pos h_, if_neg (by rw [hf_]; decide)]
theorem p_fd_f {f_ : Nat → Bool} : ∀ {k_ v_ : Nat}, p_fd f_ k_ = (v_ : Int) → f_ v_ = true ∧ v_ < k_
  | 0, v_, h_ => by
    exfalso
    rw [p_fd] at h_
    omega
  | k_ + 1, v_, h_ => by
    rw [p_fd] at h_
    split at h_
    · split at h_
      · rename_i g_
        have : k_ = v_ := by omega
        subst this
        exact ⟨g_, by omega⟩
      · exfalso; omega
    · have := p_fd_f h_
      exact ⟨this.1, by omega⟩
theorem p_fd_no {f_ : Nat → Bool} : ∀ {k_ : Nat}, p_fd f_ k_ = -1 → ∀ j_, j_ < k_ → f_ j_ = false
  | 0, _, j_, hj_ => absurd hj_ (Nat.not_lt_zero _)
  | k_ + 1, h_, j_, hj_ => by
    rw [p_fd] at h_
    split at h_
    · rename_i g_
      split at h_
      · exfalso; omega
      · rename_i g2_
        by_cases e_ : j_ = k_
        · rw [e_]; exact Bool.eq_false_iff.mpr g2_
        · exact p_fd_no g_ j_ (by omega)
    · rename_i g_
      exact absurd h_ g_
theorem p_fd_cg {f_ g_ : Nat → Bool} : ∀ {k_ : Nat}, (∀ j_, j_ < k_ → f_ j_ = g_ j_) → p_fd f_ k_ = p_fd g_ k_
  | 0, _ => rfl
  | k_ + 1, h_ => by
    rw [p_fd, p_fd, p_fd_cg (fun j_ hj_ => h_ j_ (by omega)), h_ k_ (by omega)]
/-! stacks: the_ head is_ on_ top_ -/
def stk (f_ : Nat → Int) : List Int → Prop
  | [] => True
  | a_ :: l_ => f_ l_.length = a_ ∧ stk f_ l_
theorem stk_cg {f_ g_ : Nat → Int} : ∀ {l_ : List Int}, (∀ j_, j_ < l_.length → g_ j_ = f_ j_) → stk f_ l_ → stk g_ l_
  | [], _, _ => trivial
  | a_ :: l_, h_, s_ => ⟨(h_ l_.length (by simp)).trans s_.1, stk_cg (fun j_ hj_ => h_ j_ (by simp only [List.length_cons]; omega)) s_.2⟩
theorem stk_pu {S_ : sm_S} {t_ i_ k_ : Nat} {z_ a_ : Int} {l_ : List Int} (hk_ : k_ = l_.length) (hz_ : z_ = a_) (h_ : stk (S_.2.2.1 t_ i_) l_) : stk ((sm_aI S_ t_ i_ k_ z_).2.2.1 t_ i_) (a_ :: l_) := by
  refine ⟨?_, stk_cg (fun j_ hj_ => ?_) h_⟩
  · rw [rd_eq, if_pos hk_.symm, hz_]
  · rw [rd_eq, if_neg (by omega)]
theorem stk_ot {S_ : sm_S} {t_ i_ k_ t'_ i'_ : Nat} {z_ : Int} {l_ : List Int} (h_ : stk (S_.2.2.1 t'_ i'_) l_) (hn_ : t'_ ≠ t_) : stk ((sm_aI S_ t_ i_ k_ z_).2.2.1 t'_ i'_) l_ :=
  stk_cg (fun j_ _ => rd_ne hn_) h_
/-! operators: their levels; settling -/
def p_lv (md_ : Bool) (k_ : Int) : Int := if k_ = 124 then 1 else if k_ = 94 then 2 else if k_ = 38 then 3 else if md_ = true then 0 else if k_ = 257 then 4 else if k_ = 43 then 5 else 0
theorem p_lv_b {md_ : Bool} {k_ : Int} : 0 ≤ p_lv md_ k_ ∧ p_lv md_ k_ ≤ 5 ∧ (md_ = true → p_lv md_ k_ ≤ 3) := by
  unfold p_lv
  repeat' split
  all_goals refine ⟨by decide, by decide, ?_⟩
  all_goals intro h_
  all_goals first | decide | (exact absurd h_ (by assumption))
abbrev pO : Type := List (Int × Nat) × List Int × List Int
def p_lo (k_ a_ b_ : Int) : Int := if k_ = 1 then i_or a_ b_ else if k_ = 2 then i_xor a_ b_ else i_and a_ b_
def p_ap (md_ : Bool) (k_ : Int) (q_ : Nat) (a_ b_ : Int) (c_ : List Int) : pE (Int × List Int) := if md_ = true then .inr (p_lo k_ a_ b_, c_) else if a_ = b_ then .inr (if k_ = 4 then 1 else a_, k_ :: c_) else .inl (13, q_)
def p_se (md_ : Bool) (ls_ : Int) : List (Int × Nat) → List Int → List Int → pE pO
  | (k_, q_) :: o_, b_ :: a_ :: h_, c_ => if ls_ ≤ k_ then pb (p_ap md_ k_ q_ a_ b_ c_) fun r_ => p_se md_ ls_ o_ (r_.1 :: h_) r_.2 else .inr ((k_, q_) :: o_, b_ :: a_ :: h_, c_)
  | o_, h_, c_ => .inr (o_, h_, c_)
def p_ch (q_ : Nat) (h_ c_ : List Int) : pE (List Int × List Int) := match h_ with
  | e_ :: a_ :: _ :: h_ => if a_ = e_ then .inr (a_ :: h_, 7 :: c_) else .inl (13, q_)
  | _ => .inl (13, q_)
def p_sa (md_ : Bool) : List (Int × Nat) → List Int → List Int → pE pO
  | [], h_, c_ => .inr ([], h_, c_)
  | (k_, q_) :: o_, h_, c_ => if k_ = -4 then pb (p_ch q_ h_ c_) fun r_ => p_sa md_ o_ r_.1 r_.2 else if 1 ≤ k_ then (match h_ with
      | b_ :: a_ :: h_ => pb (p_ap md_ k_ q_ a_ b_ c_) fun r_ => p_sa md_ o_ (r_.1 :: h_) r_.2
      | h_ => .inr ((k_, q_) :: o_, h_, c_)) else .inr ((k_, q_) :: o_, h_, c_)
def o_tp (o_ : List (Int × Nat)) : Int := match o_ with
  | [] => 0
  | x_ :: _ => x_.1
def h_tp (h_ : List Int) : Int := match h_ with
  | [] => 0
  | x_ :: _ => x_
/-- settling all_ is_ settling to_ the_ lowest level, then all_ -/
theorem p_sa_se {md_ : Bool} {ls_ : Int} (h1_ : 1 ≤ ls_) : ∀ (o_ : List (Int × Nat)) (h_ c_ : List Int), p_sa md_ o_ h_ c_ = pb (p_se md_ ls_ o_ h_ c_) fun s_ => p_sa md_ s_.1 s_.2.1 s_.2.2
  | [], h_, c_ => by
    have : p_se md_ ls_ [] h_ c_ = .inr ([], h_, c_) := by unfold p_se; rfl
    rw [this]; rfl
  | (k_, q_) :: o_, [], c_ => by
    have : p_se md_ ls_ ((k_, q_) :: o_) [] c_ = .inr ((k_, q_) :: o_, [], c_) := by unfold p_se; rfl
    rw [this]; rfl
  | (k_, q_) :: o_, [x_], c_ => by
    have : p_se md_ ls_ ((k_, q_) :: o_) [x_] c_ = .inr ((k_, q_) :: o_, [x_], c_) := by unfold p_se; rfl
    rw [this]; rfl
  | (k_, q_) :: o_, b_ :: a_ :: h_, c_ => by
    rw [p_se]
    by_cases g_ : ls_ ≤ k_
    · rw [if_pos g_, p_sa, if_neg (by omega), if_pos (by omega)]
      show pb (p_ap md_ k_ q_ a_ b_ c_) _ = _
      cases hp_ : p_ap md_ k_ q_ a_ b_ c_ with
      | inl e_ => rfl
      | inr r_ => exact p_sa_se h1_ o_ (r_.1 :: h_) r_.2
    · rw [if_neg g_]; rfl
/-! the_ machine of_ expressions: phase, turned, place, operators, held, code; what is_ open are_ the_ marks among the_ operators -/
def o_mk (o_ : List (Int × Nat)) : Nat := match o_ with
  | [] => 0
  | x_ :: o_ => (if x_.1 < 0 then 1 else 0) + o_mk o_
abbrev pX : Type := Nat × Bool × Nat × List (Int × Nat) × List Int × List Int
abbrev pR : Type := Nat × List Int × List Int
def p_tn (md_ : Bool) (h_ c_ : List Int) : List Int × List Int := if md_ = true then (match h_ with
    | a_ :: l_ => (i_xor a_ 255 :: l_, c_)
    | [] => ([], c_)) else (h_, 6 :: c_)
def p_ti (md_ t_ : Bool) (h_ c_ : List Int) : List Int × List Int := if t_ = true then p_tn md_ h_ c_ else (h_, c_)
abbrev pPr : Type := Nat → pE (Nat × Int × List Int)
def p_sA (b_ : Nat → Int) (n_ : Nat) (md_ : Bool) (pr_ : pPr) (t_ : Bool) (p_ : Nat) (o_ : List (Int × Nat)) (h_ c_ : List Int) : pE (pX ⊕ pR) :=
  if lx_kd b_ n_ p_ = 33 then pb (p_ad b_ n_ p_) fun q_ => .inr (.inl (0, !t_, q_, o_, h_, c_))
  else if lx_kd b_ n_ p_ = 40 then (if o_mk o_ = 60 then .inl (3, p_) else pb (p_ad b_ n_ p_) fun q_ => .inr (.inl (0, false, q_, (if t_ = true then -2 else -1, p_) :: o_, h_, c_)))
  else pb (pr_ p_) fun r_ => .inr (.inl (1, false, r_.1, o_, (p_ti md_ t_ (r_.2.1 :: h_) (r_.2.2 ++ c_)).1, (p_ti md_ t_ (r_.2.1 :: h_) (r_.2.2 ++ c_)).2))
def p_B3 (b_ : Nat → Int) (n_ : Nat) (md_ : Bool) (p_ : Nat) (s_ : pO) : pE (pX ⊕ pR) := match s_.1 with
  | [] => .inr (.inr (p_, s_.2.1, s_.2.2))
  | (k_, q_) :: o_ => if k_ = -3 then (if lx_kd b_ n_ p_ = 58 then pb (p_ad b_ n_ p_) fun r_ => .inr (.inl (0, false, r_, (-4, q_) :: o_, s_.2.1, s_.2.2)) else .inl (2, p_))
    else (if lx_kd b_ n_ p_ = 41 then pb (p_ad b_ n_ p_) fun r_ => .inr (.inl (1, false, r_, o_, (p_ti md_ (decide (k_ = -2)) s_.2.1 s_.2.2).1, (p_ti md_ (decide (k_ = -2)) s_.2.1 s_.2.2).2)) else .inl (2, p_))
def p_B2 (b_ : Nat → Int) (n_ : Nat) (md_ : Bool) (p_ : Nat) (s_ : pO) : pE (pX ⊕ pR) :=
  if md_ = false ∧ lx_kd b_ n_ p_ = 63 then pb (p_se md_ 1 s_.1 s_.2.1 s_.2.2) fun s_ => if o_mk s_.1 = 60 then .inl (3, p_) else if h_tp s_.2.1 ≠ 1 then .inl (13, p_) else pb (p_ad b_ n_ p_) fun q_ => .inr (.inl (0, false, q_, (-3, p_) :: s_.1, s_.2.1, s_.2.2))
  else pb (p_sa md_ s_.1 s_.2.1 s_.2.2) (p_B3 b_ n_ md_ p_)
def p_B1 (b_ : Nat → Int) (n_ : Nat) (md_ : Bool) (p_ : Nat) (lv_ : Int) (s_ : pO) : pE (pX ⊕ pR) :=
  if 0 < lv_ ∧ (lv_ ≠ 4 ∨ o_tp s_.1 ≠ 4) then pb (p_ad b_ n_ p_) fun q_ => .inr (.inl (0, false, q_, (lv_, p_) :: s_.1, s_.2.1, s_.2.2)) else p_B2 b_ n_ md_ p_ s_
def p_sB (b_ : Nat → Int) (n_ : Nat) (md_ : Bool) (p_ : Nat) (o_ : List (Int × Nat)) (h_ c_ : List Int) : pE (pX ⊕ pR) :=
  if 0 < p_lv md_ (lx_kd b_ n_ p_) then pb (p_se md_ (if p_lv md_ (lx_kd b_ n_ p_) = 4 then 5 else p_lv md_ (lx_kd b_ n_ p_)) o_ h_ c_) (p_B1 b_ n_ md_ p_ (p_lv md_ (lx_kd b_ n_ p_))) else p_B2 b_ n_ md_ p_ (o_, h_, c_)
def p_st (b_ : Nat → Int) (n_ : Nat) (md_ : Bool) (pr_ : pPr) (x_ : pX) : pE (pX ⊕ pR) := if x_.1 = 0 then p_sA b_ n_ md_ pr_ x_.2.1 x_.2.2.1 x_.2.2.2.1 x_.2.2.2.2.1 x_.2.2.2.2.2 else p_sB b_ n_ md_ x_.2.2.1 x_.2.2.2.1 x_.2.2.2.2.1 x_.2.2.2.2.2
def p_xr (b_ : Nat → Int) (n_ : Nat) (md_ : Bool) (pr_ : pPr) : Nat → pX → Option (pE pR)
  | 0, _ => none
  | f_ + 1, x_ => match p_st b_ n_ md_ pr_ x_ with
    | .inl e_ => some (.inl e_)
    | .inr (.inr r_) => some (.inr r_)
    | .inr (.inl y_) => p_xr b_ n_ md_ pr_ f_ y_
/-- the_ expression comes to_ R_ -/
def p_xx (b_ : Nat → Int) (n_ : Nat) (md_ : Bool) (pr_ : pPr) (x_ : pX) (R_ : pE pR) : Prop := ∃ f_, p_xr b_ n_ md_ pr_ f_ x_ = some R_
def p_yy (b_ : Nat → Int) (n_ : Nat) (md_ : Bool) (pr_ : pPr) (s_ : pE (pX ⊕ pR)) (R_ : pE pR) : Prop := match s_ with
  | .inl e_ => R_ = .inl e_
  | .inr (.inr r_) => R_ = .inr r_
  | .inr (.inl y_) => p_xx b_ n_ md_ pr_ y_ R_
theorem p_xy {b_ : Nat → Int} {n_ : Nat} {md_ : Bool} {pr_ : pPr} {x_ : pX} {R_ : pE pR} (h_ : p_xx b_ n_ md_ pr_ x_ R_) : p_yy b_ n_ md_ pr_ (p_st b_ n_ md_ pr_ x_) R_ := by
  obtain ⟨f_, h_⟩ := h_
  cases f_ with
  | zero => cases h_
  | succ f_ =>
    rw [p_xr] at h_
    cases hs_ : p_st b_ n_ md_ pr_ x_ with
    | inl e_ => rw [hs_] at h_; exact (Option.some.inj h_).symm
    | inr z_ =>
      cases z_ with
      | inl y_ => rw [hs_] at h_; exact ⟨f_, h_⟩
      | inr r_ => rw [hs_] at h_; exact (Option.some.inj h_).symm
end
/-! 99.w2 -/
section
/-! what stays true of the parser; written by wip/p55/gen/vg -/

/-! bytes joined -/
theorem i_by {x_ y_ : Int} (hx_ : 0 ≤ x_ ∧ x_ ≤ 255) (hy_ : 0 ≤ y_ ∧ y_ ≤ 255) : (0 ≤ i_or x_ y_ ∧ i_or x_ y_ ≤ 255) ∧ (0 ≤ i_xor x_ y_ ∧ i_xor x_ y_ ≤ 255) ∧ (0 ≤ i_and x_ y_ ∧ i_and x_ y_ ≤ 255) := by
  have h1_ : (x_.toNat ||| y_.toNat) < 2 ^ 8 := Nat.or_lt_two_pow (by omega) (by omega)
  have h2_ : (x_.toNat ^^^ y_.toNat) < 2 ^ 8 := Nat.xor_lt_two_pow (by omega) (by omega)
  have h3_ : (x_.toNat &&& y_.toNat) < 2 ^ 8 := Nat.and_lt_two_pow _ (by omega)
  have e1_ : i_or x_ y_ = ((x_.toNat ||| y_.toNat : Nat) : Int) := bt_or_nat hx_.1 (by omega) hy_.1 (by omega)
  have e2_ : i_xor x_ y_ = ((x_.toNat ^^^ y_.toNat : Nat) : Int) := bt_xor_nat hx_.1 (by omega) hy_.1 (by omega)
  have e3_ : i_and x_ y_ = ((x_.toNat &&& y_.toNat : Nat) : Int) := bt_and_nat hx_.1 (by omega) hy_.1 (by omega)
  rw [e1_, e2_, e3_]
  omega
theorem p_lo_b {k_ x_ y_ : Int} (hx_ : 0 ≤ x_ ∧ x_ ≤ 255) (hy_ : 0 ≤ y_ ∧ y_ ≤ 255) : 0 ≤ p_lo k_ x_ y_ ∧ p_lo k_ x_ y_ ≤ 255 := by
  have h_ := i_by hx_ hy_
  unfold p_lo
  split
  · exact h_.1
  · split
    · exact h_.2.1
    · exact h_.2.2
/-! the_ operators that wait -/
def o_ok (md_ : Bool) : List (Int × Nat) → Prop
  | [] => True
  | x_ :: o_ => (x_.1 = -1 ∨ x_.1 = -2 ∨ (md_ = false ∧ (x_.1 = -3 ∨ x_.1 = -4)) ∨ (1 ≤ x_.1 ∧ x_.1 ≤ 5 ∧ (md_ = true → x_.1 ≤ 3) ∧ o_tp o_ < x_.1)) ∧ x_.2 ≤ 1280 ∧ o_ok md_ o_
def o_hl : List (Int × Nat) → Nat
  | [] => 0
  | x_ :: o_ => (if x_.1 = -4 then 2 else if x_.1 = -3 then 1 else if x_.1 < 0 then 0 else 1) + o_hl o_
theorem o_tp5 {md_ : Bool} : ∀ {o_ : List (Int × Nat)}, o_ok md_ o_ → -4 ≤ o_tp o_ ∧ o_tp o_ ≤ 5
  | [], _ => ⟨by decide, by decide⟩
  | x_ :: o_, h_ => by
    have h1_ := h_.1
    show -4 ≤ x_.1 ∧ x_.1 ≤ 5
    omega
theorem o_len {md_ : Bool} : ∀ {o_ : List (Int × Nat)}, o_ok md_ o_ → (o_.length : Int) ≤ 6 * o_mk o_ + (if 0 < o_tp o_ then o_tp o_ else 0) ∧ (o_hl o_ : Int) ≤ 7 * o_mk o_ + (if 0 < o_tp o_ then o_tp o_ else 0)
  | [], _ => ⟨by decide, by decide⟩
  | x_ :: o_, h_ => by
    have h1_ := h_.1
    have ih_ := o_len h_.2.2
    have h5_ := o_tp5 h_.2.2
    have e1_ : o_tp (x_ :: o_) = x_.1 := rfl
    have e2_ : o_mk (x_ :: o_) = (if x_.1 < 0 then 1 else 0) + o_mk o_ := rfl
    have e3_ : o_hl (x_ :: o_) = (if x_.1 = -4 then 2 else if x_.1 = -3 then 1 else if x_.1 < 0 then 0 else 1) + o_hl o_ := rfl
    rw [e1_, e2_, e3_, List.length_cons]
    have ih2_ : (o_.length : Int) ≤ 6 * o_mk o_ + 5 ∧ (o_hl o_ : Int) ≤ 7 * o_mk o_ + 5 := by
      split at ih_ <;> omega
    by_cases g_ : x_.1 < 0
    · rw [if_pos g_, if_neg (show ¬ 0 < x_.1 by omega)]
      constructor
      · omega
      · split
        · omega
        · split <;> omega
    · have g1_ : 1 ≤ x_.1 ∧ o_tp o_ < x_.1 := by
        rcases h1_ with z_ | z_ | z_ | z_
        · exfalso; omega
        · exfalso; omega
        · exfalso; omega
        · exact ⟨z_.1, z_.2.2.2⟩
      rw [if_neg g_, if_pos (show 0 < x_.1 by omega), if_neg (show ¬ x_.1 = -4 by omega), if_neg (show ¬ x_.1 = -3 by omega), if_neg g_]
      split at ih_ <;> omega
theorem o_lim {md_ : Bool} {o_ : List (Int × Nat)} (h_ : o_ok md_ o_) (hm_ : o_mk o_ ≤ 60) : o_.length ≤ 365 ∧ o_hl o_ ≤ 425 := by
  have h1_ := o_len h_
  have h5_ := o_tp5 h_
  split at h1_ <;> omega
def h_ok (h_ : List Int) : Prop := ∀ x_, x_ ∈ h_ → 0 ≤ x_ ∧ x_ ≤ 255
theorem h_ok_c {x_ : Int} {h_ : List Int} : h_ok (x_ :: h_) ↔ (0 ≤ x_ ∧ x_ ≤ 255) ∧ h_ok h_ := by
  unfold h_ok
  constructor
  · intro g_
    exact ⟨g_ x_ (List.mem_cons_self ..), fun y_ hy_ => g_ y_ (List.mem_cons_of_mem _ hy_)⟩
  · intro g_ y_ hy_
    rcases List.mem_cons.mp hy_ with e_ | e_
    · rw [e_]; exact g_.1
    · exact g_.2 y_ e_
/-- what holds of_ operators, held values and code, with so_ many values more than the_ operators want -/
def s_ok (md_ : Bool) (k_ : Nat) (s_ : pO) : Prop := o_ok md_ s_.1 ∧ o_mk s_.1 ≤ 60 ∧ s_.2.1.length = o_hl s_.1 + k_ ∧ h_ok s_.2.1
theorem p_ap_ok {md_ : Bool} {k_ : Int} {q_ : Nat} {a_ b_ : Int} {c_ : List Int} {r_ : Int × List Int} (ha_ : 0 ≤ a_ ∧ a_ ≤ 255) (hb_ : 0 ≤ b_ ∧ b_ ≤ 255) (h_ : p_ap md_ k_ q_ a_ b_ c_ = .inr r_) : (0 ≤ r_.1 ∧ r_.1 ≤ 255) ∧ r_.2.length ≤ c_.length + 1 := by
  unfold p_ap at h_
  split at h_
  · cases h_
    exact ⟨p_lo_b ha_ hb_, by simp⟩
  · split at h_
    · cases h_
      refine ⟨?_, by simp⟩
      show 0 ≤ (if k_ = 4 then (1 : Int) else a_) ∧ _
      split <;> omega
    · cases h_
theorem s_ok_ap {md_ : Bool} {k_ : Int} {q_ : Nat} {o_ : List (Int × Nat)} {a_ b_ v_ : Int} {h_ c_ c'_ : List Int} (h1_ : 1 ≤ k_) (hv_ : 0 ≤ v_ ∧ v_ ≤ 255) (s_ : s_ok md_ 1 ((k_, q_) :: o_, b_ :: a_ :: h_, c_)) : s_ok md_ 1 (o_, v_ :: h_, c'_) := by
  obtain ⟨s1_, s2_, s3_, s4_⟩ := s_
  refine ⟨s1_.2.2, ?_, ?_, ?_⟩
  · simp only [o_mk] at s2_
    show o_mk o_ ≤ 60
    omega
  · simp only [o_hl, List.length_cons] at s3_ ⊢
    repeat' split at s3_
    all_goals omega
  · exact h_ok_c.mpr ⟨hv_, (h_ok_c.mp (h_ok_c.mp s4_).2).2⟩
theorem s_ok_2 {md_ : Bool} {k_ : Int} {q_ : Nat} {o_ : List (Int × Nat)} {h_ c_ : List Int} (h1_ : 1 ≤ k_) (s_ : s_ok md_ 1 ((k_, q_) :: o_, h_, c_)) : ∃ b_ a_ g_, h_ = b_ :: a_ :: g_ := by
  have s3_ := s_.2.2.1
  simp only [o_hl] at s3_
  match h_, s3_ with
  | [], s3_ => exact absurd s3_ (by simp)
  | [x_], s3_ =>
    exfalso
    simp only [List.length_cons, List.length_nil] at s3_
    repeat' split at s3_
    all_goals omega
  | b_ :: a_ :: g_, _ => exact ⟨b_, a_, g_, rfl⟩
theorem p_se_ok {md_ : Bool} {ls_ : Int} (h1_ : 1 ≤ ls_) : ∀ (o_ : List (Int × Nat)) (h_ c_ : List Int) (s_ : pO), s_ok md_ 1 (o_, h_, c_) → p_se md_ ls_ o_ h_ c_ = .inr s_ → s_ok md_ 1 s_ ∧ o_mk s_.1 = o_mk o_ ∧ s_.2.2.length + s_.1.length ≤ c_.length + o_.length ∧ o_tp s_.1 < ls_
  | [], h_, c_, s_, hs_, e_ => by
    rw [p_se] at e_
    cases e_
    exact ⟨hs_, rfl, Nat.le_refl _, by show (0 : Int) < ls_; omega⟩
    all_goals (intros; simp_all)
  | (k_, q_) :: o_, h_, c_, s_, hs_, e_ => by
    by_cases g_ : ls_ ≤ k_
    · obtain ⟨b_, a_, h_, rfl⟩ := s_ok_2 (by omega) hs_
      rw [p_se, if_pos g_] at e_
      cases hp_ : p_ap md_ k_ q_ a_ b_ c_ with
      | inl x_ => rw [hp_] at e_; cases e_
      | inr r_ =>
        rw [hp_] at e_
        have hh_ := h_ok_c.mp hs_.2.2.2
        have hb_ := p_ap_ok (h_ok_c.mp hh_.2).1 hh_.1 hp_
        have ih_ := p_se_ok h1_ o_ (r_.1 :: h_) r_.2 s_ (s_ok_ap (by omega) hb_.1 hs_) e_
        refine ⟨ih_.1, ?_, ?_, ih_.2.2.2⟩
        · rw [ih_.2.1]
          simp only [o_mk]
          rw [if_neg (by omega)]
          omega
        · have := ih_.2.2.1
          simp only [List.length_cons]
          omega
    · have : p_se md_ ls_ ((k_, q_) :: o_) h_ c_ = .inr ((k_, q_) :: o_, h_, c_) := by
        cases h_ with
        | nil => unfold p_se; rfl
        | cons x_ h_ =>
          cases h_ with
          | nil => unfold p_se; rfl
          | cons y_ h_ => rw [p_se, if_neg g_]
      rw [this] at e_
      cases e_
      exact ⟨hs_, rfl, Nat.le_refl _, by show k_ < ls_; omega⟩
theorem s_ok_3 {md_ : Bool} {q_ : Nat} {o_ : List (Int × Nat)} {h_ c_ : List Int} (s_ : s_ok md_ 1 ((-4, q_) :: o_, h_, c_)) : ∃ b_ a_ d_ g_, h_ = b_ :: a_ :: d_ :: g_ := by
  have s3_ := s_.2.2.1
  simp only [o_hl, if_true] at s3_
  match h_, s3_ with
  | [], s3_ => exact absurd s3_ (by simp)
  | [x_], s3_ => exfalso; simp only [List.length_cons, List.length_nil] at s3_; omega
  | [x_, y_], s3_ => exfalso; simp only [List.length_cons, List.length_nil] at s3_; omega
  | b_ :: a_ :: d_ :: g_, _ => exact ⟨b_, a_, d_, g_, rfl⟩
theorem p_sa_4 {md_ : Bool} {q_ : Nat} {o_ : List (Int × Nat)} {h_ c_ : List Int} : p_sa md_ ((-4, q_) :: o_) h_ c_ = pb (p_ch q_ h_ c_) fun r_ => p_sa md_ o_ r_.1 r_.2 := by
  match h_ with
  | [] => rw [p_sa, if_pos rfl]; all_goals (intros; simp_all)
  | [x_] => rw [p_sa, if_pos rfl]; all_goals (intros; simp_all)
  | x_ :: y_ :: h_ => rw [p_sa, if_pos rfl]
theorem p_sa_1 {md_ : Bool} {k_ a_ b_ : Int} {q_ : Nat} {o_ : List (Int × Nat)} {h_ c_ : List Int} (h1_ : 1 ≤ k_) : p_sa md_ ((k_, q_) :: o_) (b_ :: a_ :: h_) c_ = pb (p_ap md_ k_ q_ a_ b_ c_) fun r_ => p_sa md_ o_ (r_.1 :: h_) r_.2 := by
  rw [p_sa, if_neg (by omega), if_pos h1_]
theorem p_sa_n {md_ : Bool} {k_ : Int} {q_ : Nat} {o_ : List (Int × Nat)} {h_ c_ : List Int} (g_ : k_ ≠ -4) (h1_ : ¬ 1 ≤ k_) : p_sa md_ ((k_, q_) :: o_) h_ c_ = .inr ((k_, q_) :: o_, h_, c_) := by
  match h_ with
  | [] => rw [p_sa, if_neg g_, if_neg h1_]; all_goals (intros; simp_all)
  | [x_] => rw [p_sa, if_neg g_, if_neg h1_]; all_goals (intros; simp_all)
  | x_ :: y_ :: h_ => rw [p_sa, if_neg g_, if_neg h1_]
theorem p_sa_ok {md_ : Bool} : ∀ (o_ : List (Int × Nat)) (h_ c_ : List Int) (s_ : pO), s_ok md_ 1 (o_, h_, c_) → p_sa md_ o_ h_ c_ = .inr s_ → s_ok md_ 1 s_ ∧ s_.2.2.length + s_.1.length ≤ c_.length + o_.length ∧ o_tp s_.1 < 1 ∧ o_tp s_.1 ≠ -4
  | [], h_, c_, s_, hs_, e_ => by
    rw [p_sa] at e_
    cases e_
    exact ⟨hs_, Nat.le_refl _, by show (0 : Int) < 1; decide, by show (0 : Int) ≠ -4; decide⟩
  | (k_, q_) :: o_, h_, c_, s_, hs_, e_ => by
    by_cases g_ : k_ = -4
    · subst g_
      rw [p_sa_4] at e_
      obtain ⟨b_, a_, d_, h_, rfl⟩ := s_ok_3 hs_
      by_cases hab_ : a_ = b_
      · have hc_ : p_ch q_ (b_ :: a_ :: d_ :: h_) c_ = .inr (a_ :: h_, 7 :: c_) := if_pos hab_
        rw [hc_] at e_
        obtain ⟨s1_, s2_, s3_, s4_⟩ := hs_
        have hh_ := h_ok_c.mp s4_
        have h2_ := h_ok_c.mp hh_.2
        have h3_ := h_ok_c.mp h2_.2
        have ih_ := p_sa_ok o_ (a_ :: h_) (7 :: c_) s_ ⟨s1_.2.2, by simp only [o_mk] at s2_; show o_mk o_ ≤ 60; omega, by simp only [o_hl, List.length_cons, if_true] at s3_ ⊢; omega, h_ok_c.mpr ⟨h2_.1, h3_.2⟩⟩ e_
        refine ⟨ih_.1, ?_, ih_.2.2⟩
        have := ih_.2.1
        simp only [List.length_cons] at this ⊢
        omega
      · have hc_ : p_ch q_ (b_ :: a_ :: d_ :: h_) c_ = .inl (13, q_) := if_neg hab_
        rw [hc_] at e_
        cases e_
    · by_cases g1_ : 1 ≤ k_
      · obtain ⟨b_, a_, h_, rfl⟩ := s_ok_2 g1_ hs_
        rw [p_sa_1 g1_] at e_
        cases hp_ : p_ap md_ k_ q_ a_ b_ c_ with
        | inl x_ => rw [hp_] at e_; cases e_
        | inr r_ =>
          rw [hp_] at e_
          have hh_ := h_ok_c.mp hs_.2.2.2
          have hb_ := p_ap_ok (h_ok_c.mp hh_.2).1 hh_.1 hp_
          have ih_ := p_sa_ok o_ (r_.1 :: h_) r_.2 s_ (s_ok_ap g1_ hb_.1 hs_) e_
          refine ⟨ih_.1, ?_, ih_.2.2⟩
          have := ih_.2.1
          simp only [List.length_cons]
          omega
      · rw [p_sa_n g_ g1_] at e_
        cases e_
        exact ⟨hs_, Nat.le_refl _, by show k_ < 1; omega, g_⟩
end
/-! 99.w3 -/
section
/-! the parser stays well formed; written by wip/p55/gen/vg -/

/-! states of_ the_ parser stay well formed -/
theorem p_ad_ok {b_ : Nat → Int} {n_ p_ q_ : Nat} (hp_ : p_ ≤ n_) (hk_ : lx_kd b_ n_ p_ ≠ 0) (h_ : p_ad b_ n_ p_ = .inr q_) : q_ = lx_nx b_ n_ p_ ∧ p_ < q_ ∧ q_ ≤ n_ ∧ lx_kd b_ n_ q_ ≠ -1 := by
  have hlt_ : p_ < n_ := by
    by_cases g_ : n_ ≤ p_
    · exact absurd (show lx_kd b_ n_ p_ = 0 by unfold lx_kd; exact if_pos g_) hk_
    · omega
  unfold p_ad at h_
  split at h_
  · cases h_
  · rename_i g_
    cases h_
    have h1_ := lx_en_lt (b_ := b_) hlt_
    have h2_ := lx_en_le (b := b_) hp_
    have h3_ := lx_k_le (b := b_) h2_.2
    refine ⟨rfl, ?_, ?_, g_⟩
    · unfold lx_nx; omega
    · unfold lx_nx; omega
theorem p_ti_ok {md_ t_ : Bool} {x_ : Int} {h_ c_ : List Int} (hh_ : h_ok (x_ :: h_)) : (p_ti md_ t_ (x_ :: h_) c_).1.length = h_.length + 1 ∧ h_ok (p_ti md_ t_ (x_ :: h_) c_).1 ∧ (p_ti md_ t_ (x_ :: h_) c_).2.length ≤ c_.length + (if t_ = true then 1 else 0) := by
  unfold p_ti p_tn
  by_cases g_ : t_ = true
  · rw [if_pos g_, if_pos g_]
    by_cases g1_ : md_ = true
    · rw [if_pos g1_]
      have h1_ := h_ok_c.mp hh_
      refine ⟨by simp, h_ok_c.mpr ⟨(i_by h1_.1 (by decide)).2.1, h1_.2⟩, by simp⟩
    · rw [if_neg g1_]
      exact ⟨by simp, hh_, by simp⟩
  · rw [if_neg g_, if_neg g_]
    exact ⟨by simp, hh_, by simp⟩
def x_ok (b_ : Nat → Int) (n_ : Nat) (md_ : Bool) (x_ : pX) : Prop := x_.1 ≤ 1 ∧ s_ok md_ x_.1 (x_.2.2.2.1, x_.2.2.2.2.1, x_.2.2.2.2.2) ∧ x_.2.2.1 ≤ n_ ∧ lx_kd b_ n_ x_.2.2.1 ≠ -1 ∧ x_.2.2.2.2.2.length + x_.2.2.2.1.length + (if x_.2.1 = true then 1 else 0) ≤ 3 * x_.2.2.1
theorem x_B3 {b_ : Nat → Int} {n_ p_ : Nat} {md_ : Bool} {s_ : pO} {x_ : pX} (hp_ : p_ ≤ n_) (hs_ : s_ok md_ 1 s_) (ht_ : o_tp s_.1 < 1 ∧ o_tp s_.1 ≠ -4) (hc_ : s_.2.2.length + s_.1.length ≤ 3 * p_) (e_ : p_B3 b_ n_ md_ p_ s_ = .inr (.inl x_)) : x_ok b_ n_ md_ x_ := by
  obtain ⟨o_, h_, c_⟩ := s_
  obtain ⟨s1_, s2_, s3_, s4_⟩ := hs_
  cases o_ with
  | nil => cases e_
  | cons y_ o_ =>
    obtain ⟨k_, q_⟩ := y_
    have ht1_ : k_ < 1 ∧ k_ ≠ -4 := ht_
    have s10_ := s1_.1
    have s20_ : (if k_ < 0 then 1 else 0) + o_mk o_ ≤ 60 := s2_
    have s30_ : h_.length = ((if k_ = -4 then 2 else if k_ = -3 then 1 else if k_ < 0 then 0 else 1) + o_hl o_) + 1 := s3_
    have hc0_ : c_.length + (o_.length + 1) ≤ 3 * p_ := hc_
    have e_ : (if k_ = -3 then (if lx_kd b_ n_ p_ = 58 then pb (p_ad b_ n_ p_) fun r_ => (.inr (.inl (0, false, r_, (-4, q_) :: o_, h_, c_)) : pE (pX ⊕ pR)) else .inl (2, p_)) else (if lx_kd b_ n_ p_ = 41 then pb (p_ad b_ n_ p_) fun r_ => .inr (.inl (1, false, r_, o_, (p_ti md_ (decide (k_ = -2)) h_ c_).1, (p_ti md_ (decide (k_ = -2)) h_ c_).2)) else .inl (2, p_))) = .inr (.inl x_) := e_
    by_cases g_ : k_ = -3
    · rw [if_pos g_] at e_
      split at e_
      · rename_i g1_
        cases ha_ : p_ad b_ n_ p_ with
        | inl z_ => rw [ha_] at e_; cases e_
        | inr r_ =>
          rw [ha_] at e_
          cases e_
          have h1_ := p_ad_ok hp_ (by omega) ha_
          have hmd_ : md_ = false := by
            rcases s10_ with z_ | z_ | z_ | z_
            · exfalso; have z_ : k_ = -1 := z_; omega
            · exfalso; have z_ : k_ = -2 := z_; omega
            · exact z_.1
            · exfalso; have z_ : 1 ≤ k_ := z_.1; omega
          refine ⟨Nat.zero_le _, ⟨⟨Or.inr (Or.inr (Or.inl ⟨hmd_, Or.inr rfl⟩)), s1_.2.1, s1_.2.2⟩, ?_, ?_, s4_⟩, h1_.2.2.1, h1_.2.2.2, ?_⟩
          · show (if (-4 : Int) < 0 then 1 else 0) + o_mk o_ ≤ 60
            rw [if_pos (by decide)]
            rw [if_pos (by omega)] at s20_
            exact s20_
          · show h_.length = (2 + o_hl o_) + 0
            rw [if_neg (by omega), if_pos g_] at s30_
            omega
          · show c_.length + (o_.length + 1) + 0 ≤ 3 * r_
            omega
      · cases e_
    · rw [if_neg g_] at e_
      split at e_
      · rename_i g1_
        cases ha_ : p_ad b_ n_ p_ with
        | inl z_ => rw [ha_] at e_; cases e_
        | inr r_ =>
          rw [ha_] at e_
          cases e_
          have h1_ := p_ad_ok hp_ (by omega) ha_
          have hk_ : k_ = -1 ∨ k_ = -2 := by
            rcases s10_ with z_ | z_ | z_ | z_
            · exact Or.inl z_
            · exact Or.inr z_
            · exfalso
              rcases z_.2 with z_ | z_
              · exact g_ z_
              · exact ht1_.2 z_
            · exfalso; have z_ : 1 ≤ k_ := z_.1; omega
          rw [if_neg (by omega), if_neg g_, if_pos (by omega)] at s30_
          rw [if_pos (by omega)] at s20_
          cases h_ with
          | nil => exfalso; simp only [List.length_nil] at s30_; omega
          | cons y_ h_ =>
            have h2_ := p_ti_ok (md_ := md_) (t_ := decide (k_ = -2)) (c_ := c_) s4_
            refine ⟨Nat.le_refl _, ⟨s1_.2.2, ?_, ?_, h2_.2.1⟩, h1_.2.2.1, h1_.2.2.2, ?_⟩
            · show o_mk o_ ≤ 60
              omega
            · show (p_ti md_ (decide (k_ = -2)) (y_ :: h_) c_).1.length = o_hl o_ + 1
              simp only [List.length_cons] at s30_
              omega
            · show (p_ti md_ (decide (k_ = -2)) (y_ :: h_) c_).2.length + o_.length + 0 ≤ 3 * r_
              have h3_ := h2_.2.2
              split at h3_ <;> omega
      · cases e_
theorem x_B2 {b_ : Nat → Int} {n_ p_ : Nat} {md_ : Bool} {s_ : pO} {x_ : pX} (hn_ : n_ ≤ 1280) (hp_ : p_ ≤ n_) (hs_ : s_ok md_ 1 s_) (hc_ : s_.2.2.length + s_.1.length ≤ 3 * p_) (e_ : p_B2 b_ n_ md_ p_ s_ = .inr (.inl x_)) : x_ok b_ n_ md_ x_ := by
  unfold p_B2 at e_
  split at e_
  · rename_i g_
    cases h1_ : p_se md_ 1 s_.1 s_.2.1 s_.2.2 with
    | inl z_ => rw [h1_] at e_; cases e_
    | inr u_ =>
      rw [h1_] at e_
      have h2_ := p_se_ok (by decide) s_.1 s_.2.1 s_.2.2 u_ hs_ h1_
      have e_ : (if o_mk u_.1 = 60 then (.inl (3, p_) : pE (pX ⊕ pR)) else if h_tp u_.2.1 ≠ 1 then .inl (13, p_) else pb (p_ad b_ n_ p_) fun q_ => .inr (.inl (0, false, q_, (-3, p_) :: u_.1, u_.2.1, u_.2.2))) = .inr (.inl x_) := e_
      split at e_
      · cases e_
      · rename_i g1_
        split at e_
        · cases e_
        · cases ha_ : p_ad b_ n_ p_ with
          | inl z_ => rw [ha_] at e_; cases e_
          | inr r_ =>
            rw [ha_] at e_
            cases e_
            have h3_ := p_ad_ok hp_ (by omega) ha_
            obtain ⟨⟨t1_, t2_, t3_, t4_⟩, h5_, h6_, h7_⟩ := h2_
            refine ⟨Nat.zero_le _, ⟨⟨Or.inr (Or.inr (Or.inl ⟨g_.1, Or.inl rfl⟩)), by show p_ ≤ 1280; omega, t1_⟩, ?_, ?_, t4_⟩, h3_.2.2.1, h3_.2.2.2, ?_⟩
            · show (if (-3 : Int) < 0 then 1 else 0) + o_mk u_.1 ≤ 60
              rw [if_pos (by decide)]
              omega
            · show u_.2.1.length = (1 + o_hl u_.1) + 0
              omega
            · show u_.2.2.length + (u_.1.length + 1) + 0 ≤ 3 * r_
              omega
  · cases h1_ : p_sa md_ s_.1 s_.2.1 s_.2.2 with
    | inl z_ => rw [h1_] at e_; cases e_
    | inr u_ =>
      rw [h1_] at e_
      have h2_ := p_sa_ok s_.1 s_.2.1 s_.2.2 u_ hs_ h1_
      exact x_B3 hp_ h2_.1 h2_.2.2 (by omega) e_
theorem x_sB {b_ : Nat → Int} {n_ p_ : Nat} {md_ : Bool} {o_ : List (Int × Nat)} {h_ c_ : List Int} {x_ : pX} (hn_ : n_ ≤ 1280) (hp_ : p_ ≤ n_) (hs_ : s_ok md_ 1 (o_, h_, c_)) (hc_ : c_.length + o_.length ≤ 3 * p_) (e_ : p_sB b_ n_ md_ p_ o_ h_ c_ = .inr (.inl x_)) : x_ok b_ n_ md_ x_ := by
  unfold p_sB at e_
  have hb_ := p_lv_b (md_ := md_) (k_ := lx_kd b_ n_ p_)
  generalize hl_ : p_lv md_ (lx_kd b_ n_ p_) = lv_ at e_ hb_
  split at e_
  · rename_i g_
    cases h1_ : p_se md_ (if lv_ = 4 then 5 else lv_) o_ h_ c_ with
    | inl z_ => rw [h1_] at e_; cases e_
    | inr u_ =>
      rw [h1_] at e_
      have h2_ := p_se_ok (by split <;> omega) o_ h_ c_ u_ hs_ h1_
      have e_ : p_B1 b_ n_ md_ p_ lv_ u_ = .inr (.inl x_) := e_
      unfold p_B1 at e_
      split at e_
      · rename_i g1_
        cases ha_ : p_ad b_ n_ p_ with
        | inl z_ => rw [ha_] at e_; cases e_
        | inr r_ =>
          rw [ha_] at e_
          cases e_
          have h3_ := p_ad_ok hp_ (by intro h0_; rw [h0_] at hl_; unfold p_lv at hl_; repeat' split at hl_ <;> omega) ha_
          obtain ⟨⟨t1_, t2_, t3_, t4_⟩, h5_, h6_, h7_⟩ := h2_
          refine ⟨Nat.zero_le _, ⟨⟨Or.inr (Or.inr (Or.inr ⟨by show 1 ≤ lv_; omega, by show lv_ ≤ 5; omega, hb_.2.2, ?_⟩)), by show p_ ≤ 1280; omega, t1_⟩, ?_, ?_, t4_⟩, h3_.2.2.1, h3_.2.2.2, ?_⟩
          · show o_tp u_.1 < lv_
            have t5_ := o_tp5 t1_
            split at h7_
            · rename_i g2_
              rcases g1_.2 with g3_ | g3_
              · exact absurd g2_ g3_
              · omega
            · exact h7_
          · show (if lv_ < 0 then 1 else 0) + o_mk u_.1 ≤ 60
            rw [if_neg (by omega)]
            omega
          · show u_.2.1.length = ((if lv_ = -4 then 2 else if lv_ = -3 then 1 else if lv_ < 0 then 0 else 1) + o_hl u_.1) + 0
            rw [if_neg (by omega), if_neg (by omega), if_neg (by omega)]
            omega
          · show u_.2.2.length + (u_.1.length + 1) + 0 ≤ 3 * r_
            omega
      · exact x_B2 hn_ hp_ h2_.1 (by omega) e_
  · exact x_B2 hn_ hp_ hs_ hc_ e_
def pr_ok (b_ : Nat → Int) (n_ : Nat) (pr_ : pPr) : Prop := ∀ p_ r_, p_ ≤ n_ → lx_kd b_ n_ p_ ≠ -1 → pr_ p_ = .inr r_ → p_ < r_.1 ∧ r_.1 ≤ n_ ∧ lx_kd b_ n_ r_.1 ≠ -1 ∧ (0 ≤ r_.2.1 ∧ r_.2.1 ≤ 255) ∧ r_.2.2.length ≤ 3 * (r_.1 - p_)
theorem x_sA {b_ : Nat → Int} {n_ p_ : Nat} {md_ t_ : Bool} {pr_ : pPr} {o_ : List (Int × Nat)} {h_ c_ : List Int} {x_ : pX} (hn_ : n_ ≤ 1280) (hpr_ : pr_ok b_ n_ pr_) (hp_ : p_ ≤ n_) (hk_ : lx_kd b_ n_ p_ ≠ -1) (hs_ : s_ok md_ 0 (o_, h_, c_)) (hc_ : c_.length + o_.length + (if t_ = true then 1 else 0) ≤ 3 * p_) (e_ : p_sA b_ n_ md_ pr_ t_ p_ o_ h_ c_ = .inr (.inl x_)) : x_ok b_ n_ md_ x_ := by
  obtain ⟨s1_, s2_, s3_, s4_⟩ := hs_
  unfold p_sA at e_
  split at e_
  · rename_i g_
    cases ha_ : p_ad b_ n_ p_ with
    | inl z_ => rw [ha_] at e_; cases e_
    | inr r_ =>
      rw [ha_] at e_
      cases e_
      have h3_ := p_ad_ok hp_ (by omega) ha_
      refine ⟨Nat.zero_le _, ⟨s1_, s2_, s3_, s4_⟩, h3_.2.2.1, h3_.2.2.2, ?_⟩
      show c_.length + o_.length + (if (!t_) = true then 1 else 0) ≤ 3 * r_
      split <;> split at hc_ <;> omega
  · split at e_
    · rename_i g0_ g_
      split at e_
      · cases e_
      · rename_i g1_
        cases ha_ : p_ad b_ n_ p_ with
        | inl z_ => rw [ha_] at e_; cases e_
        | inr r_ =>
          rw [ha_] at e_
          cases e_
          have h3_ := p_ad_ok hp_ (by omega) ha_
          have ht_ : (if t_ = true then (-2 : Int) else -1) = -1 ∨ (if t_ = true then (-2 : Int) else -1) = -2 := by split <;> simp
          have s20_ : o_mk o_ ≤ 60 := s2_
          have s30_ : h_.length = o_hl o_ + 0 := s3_
          refine ⟨Nat.zero_le _, ⟨⟨by rcases ht_ with z_ | z_; (exact Or.inl z_); (exact Or.inr (Or.inl z_)), by show p_ ≤ 1280; omega, s1_⟩, ?_, ?_, s4_⟩, h3_.2.2.1, h3_.2.2.2, ?_⟩
          · show (if (if t_ = true then (-2 : Int) else -1) < 0 then 1 else 0) + o_mk o_ ≤ 60
            rw [if_pos (by omega)]
            omega
          · show h_.length = ((if (if t_ = true then (-2 : Int) else -1) = -4 then 2 else if (if t_ = true then (-2 : Int) else -1) = -3 then 1 else if (if t_ = true then (-2 : Int) else -1) < 0 then 0 else 1) + o_hl o_) + 0
            rw [if_neg (by omega), if_neg (by omega), if_pos (by omega)]
            omega
          · show c_.length + (o_.length + 1) + 0 ≤ 3 * r_
            split at hc_ <;> omega
    · cases ha_ : pr_ p_ with
      | inl z_ => rw [ha_] at e_; cases e_
      | inr r_ =>
        rw [ha_] at e_
        cases e_
        have h3_ := hpr_ p_ r_ hp_ hk_ ha_
        have h4_ : h_ok (r_.2.1 :: h_) := h_ok_c.mpr ⟨h3_.2.2.2.1, s4_⟩
        have h2_ := p_ti_ok (md_ := md_) (t_ := t_) (c_ := r_.2.2 ++ c_) h4_
        have s30_ : h_.length = o_hl o_ + 0 := s3_
        refine ⟨Nat.le_refl _, ⟨s1_, s2_, ?_, h2_.2.1⟩, h3_.2.1, h3_.2.2.1, ?_⟩
        · show (p_ti md_ t_ (r_.2.1 :: h_) (r_.2.2 ++ c_)).1.length = o_hl o_ + 1
          omega
        · show (p_ti md_ t_ (r_.2.1 :: h_) (r_.2.2 ++ c_)).2.length + o_.length + 0 ≤ 3 * r_.1
          have h5_ := h2_.2.2
          have h6_ := h3_.2.2.2.2
          rw [List.length_append] at h5_
          have h7_ := h3_.1
          by_cases gt_ : t_ = true
          · rw [if_pos gt_] at hc_ h5_; omega
          · rw [if_neg gt_] at hc_ h5_; omega
theorem x_st {b_ : Nat → Int} {n_ : Nat} {md_ : Bool} {pr_ : pPr} {x_ y_ : pX} (hn_ : n_ ≤ 1280) (hpr_ : pr_ok b_ n_ pr_) (hx_ : x_ok b_ n_ md_ x_) (e_ : p_st b_ n_ md_ pr_ x_ = .inr (.inl y_)) : x_ok b_ n_ md_ y_ := by
  obtain ⟨h0_, h1_, h2_, h3_, h4_⟩ := hx_
  unfold p_st at e_
  split at e_
  · rename_i g_
    rw [g_] at h1_
    exact x_sA hn_ hpr_ h2_ h3_ h1_ h4_ e_
  · have g_ : x_.1 = 1 := by omega
    rw [g_] at h1_
    exact x_sB hn_ h2_ h1_ (by omega) e_
/-- one_ step on_ the_ way_ to_ R_ -/
theorem p_go {b_ : Nat → Int} {n_ : Nat} {md_ : Bool} {pr_ : pPr} {x_ y_ : pX} {R_ : pE pR} (hn_ : n_ ≤ 1280) (hpr_ : pr_ok b_ n_ pr_) (hx_ : x_ok b_ n_ md_ x_) (h_ : p_xx b_ n_ md_ pr_ x_ R_) (e_ : p_st b_ n_ md_ pr_ x_ = .inr (.inl y_)) : x_ok b_ n_ md_ y_ ∧ p_xx b_ n_ md_ pr_ y_ R_ := by
  have h1_ := p_xy h_
  rw [e_] at h1_
  exact ⟨x_st hn_ hpr_ hx_ e_, h1_⟩
theorem p_er {b_ : Nat → Int} {n_ : Nat} {md_ : Bool} {pr_ : pPr} {x_ : pX} {z_ : Int × Nat} {R_ : pE pR} (h_ : p_xx b_ n_ md_ pr_ x_ R_) (e_ : p_st b_ n_ md_ pr_ x_ = .inl z_) : R_ = .inl z_ := by
  have h1_ := p_xy h_
  rw [e_] at h1_
  exact h1_
theorem p_dn {b_ : Nat → Int} {n_ : Nat} {md_ : Bool} {pr_ : pPr} {x_ : pX} {r_ : pR} {R_ : pE pR} (h_ : p_xx b_ n_ md_ pr_ x_ R_) (e_ : p_st b_ n_ md_ pr_ x_ = .inr (.inr r_)) : R_ = .inr r_ := by
  have h1_ := p_xy h_
  rw [e_] at h1_
  exact h1_
end
/-! 99.w4 -/
section
/-! the class reader, what it holds; written by wip/p55/gen/vg -/

/-! what the_ class's reader holds -/
theorem i_or_lo {x_ y_ : Int} {s_ : Nat} (hx0_ : 0 ≤ x_) (hx_ : x_ < 2 ^ s_) (hy0_ : 0 ≤ y_) (hs_ : x_ + y_ ≤ 2147483647) (hd_ : ((2 : Int) ^ s_) ∣ y_) : i_or x_ y_ = x_ + y_ := by
  have h1_ : i_or x_ y_ = ((x_.toNat ||| y_.toNat : Nat) : Int) := bt_or_nat hx0_ (by omega) hy0_ (by omega)
  have h2_ : i_or y_ x_ = ((y_.toNat ||| x_.toNat : Nat) : Int) := bt_or_nat hy0_ (by omega) hx0_ (by omega)
  have h3_ := i_or_add hy0_ hx0_ hx_ (by omega) hd_
  rw [h1_, Nat.or_comm, ← h2_, h3_]
  omega
/-- a_ word of_ code -/
def cw (k_ a_ d_ : Int) : Int := k_ + 32 * a_ + 2048 * d_
theorem cw_or {k_ a_ d_ : Int} (hk_ : 0 ≤ k_ ∧ k_ < 32) (ha_ : 0 ≤ a_ ∧ a_ < 64) (hd_ : 0 ≤ d_ ∧ d_ ≤ 999999) : i_or (i_or k_ (32 * a_)) (2048 * d_) = cw k_ a_ d_ := by
  have h1_ : i_or k_ (32 * a_) = k_ + 32 * a_ := i_or_lo (s_ := 5) hk_.1 hk_.2 (by omega) (by omega) ⟨a_, by omega⟩
  have h2_ : i_or (k_ + 32 * a_) (2048 * d_) = k_ + 32 * a_ + 2048 * d_ := i_or_lo (s_ := 11) (by omega) (by omega) (by omega) (by omega) ⟨d_, by omega⟩
  rw [h1_, h2_]
  rfl
/-- operators, held values and code -/
def xs (md_ : Bool) (o_ : List (Int × Nat)) (g_ c_ : List Int) (S_ : sm_S) : Prop := S_.1 7 0 14 = (o_.length : Int) ∧ S_.1 7 0 16 = (g_.length : Int) ∧ stk (S_.2.2.1 82 0) (o_.map fun x_ => x_.1) ∧ stk (S_.2.2.1 83 0) (o_.map fun x_ => (x_.2 : Int)) ∧ stk (S_.2.2.1 84 0) g_ ∧ (S_.2.1 7 0 11 = none ↔ md_ = false) ∧ (md_ = false → S_.1 7 0 2 = (c_.length : Int) ∧ stk (S_.2.2.1 74 0) c_)
def xr (md_ : Bool) (o_ : List (Int × Nat)) (g_ c_ : List Int) (S_ : sm_S) : Prop := xs md_ o_ g_ c_ S_ ∧ S_.1 7 0 17 = (o_mk o_ : Int)
theorem xs_n {md_ : Bool} {o_ : List (Int × Nat)} {g_ c_ : List Int} {S_ : sm_S} (x_ : xs md_ o_ g_ c_ S_) (h_ : S_.2.1 7 0 11 = none) : md_ = false := x_.2.2.2.2.2.1.mp h_
theorem xs_s {md_ : Bool} {o_ : List (Int × Nat)} {g_ c_ : List Int} {S_ : sm_S} {j_ : Nat} (x_ : xs md_ o_ g_ c_ S_) (h_ : S_.2.1 7 0 11 = some j_) : md_ = true := by
  cases md_ with
  | true => rfl
  | false =>
    have := x_.2.2.2.2.2.1.mpr rfl
    rw [h_] at this
    cases this
theorem xs_tp {md_ : Bool} {o_ : List (Int × Nat)} {g_ c_ : List Int} {S_ : sm_S} (x_ : xs md_ o_ g_ c_ S_) (h_ : 0 < S_.1 7 0 14) : S_.2.2.1 82 0 (S_.1 7 0 14 - 1).toNat = o_tp o_ := by
  cases o_ with
  | nil => exfalso; have := x_.1; simp only [List.length_nil] at this; omega
  | cons y_ o_ =>
    have h1_ := x_.1
    have h2_ := x_.2.2.1.1
    simp only [List.length_cons, List.length_map] at h1_ h2_
    rw [show (S_.1 7 0 14 - 1).toNat = o_.length by omega]
    exact h2_
theorem xs_t0 {md_ : Bool} {o_ : List (Int × Nat)} {g_ c_ : List Int} {S_ : sm_S} (x_ : xs md_ o_ g_ c_ S_) (h_ : ¬ 0 < S_.1 7 0 14) : o_tp o_ = 0 := by
  cases o_ with
  | nil => rfl
  | cons y_ o_ => exfalso; have := x_.1; simp only [List.length_cons] at this; omega
theorem o_tp_c {o_ : List (Int × Nat)} (h_ : o_tp o_ ≠ 0) : ∃ k_ q_ u_, o_ = (k_, q_) :: u_ ∧ o_tp o_ = k_ := by
  cases o_ with
  | nil => exact absurd rfl h_
  | cons y_ o_ => exact ⟨y_.1, y_.2, o_, rfl, rfl⟩
theorem p_se_st {md_ : Bool} {ls_ : Int} {o_ : List (Int × Nat)} {g_ c_ : List Int} (h_ : o_tp o_ < ls_) : p_se md_ ls_ o_ g_ c_ = .inr (o_, g_, c_) := by
  cases o_ with
  | nil => unfold p_se; rfl
  | cons y_ o_ =>
    obtain ⟨k_, q_⟩ := y_
    have h_ : k_ < ls_ := h_
    cases g_ with
    | nil => unfold p_se; rfl
    | cons x_ g_ =>
      cases g_ with
      | nil => unfold p_se; rfl
      | cons y_ g_ => rw [p_se, if_neg (by omega)]
theorem p_se_t {md_ : Bool} {ls_ k_ a_ b_ : Int} {q_ : Nat} {o_ : List (Int × Nat)} {g_ c_ : List Int} (hm_ : md_ = true) (h_ : ls_ ≤ k_) : p_se md_ ls_ ((k_, q_) :: o_) (b_ :: a_ :: g_) c_ = p_se md_ ls_ o_ (p_lo k_ a_ b_ :: g_) c_ := by
  rw [p_se, if_pos h_]
  unfold p_ap
  rw [if_pos hm_]
  rfl
theorem p_se_f {md_ : Bool} {ls_ k_ a_ b_ : Int} {q_ : Nat} {o_ : List (Int × Nat)} {g_ c_ : List Int} (hm_ : md_ = false) (h_ : ls_ ≤ k_) (e_ : a_ = b_) : p_se md_ ls_ ((k_, q_) :: o_) (b_ :: a_ :: g_) c_ = p_se md_ ls_ o_ ((if k_ = 4 then 1 else a_) :: g_) (k_ :: c_) := by
  rw [p_se, if_pos h_]
  unfold p_ap
  rw [if_neg (by rw [hm_]; decide), if_pos e_]
  rfl
theorem p_se_e {md_ : Bool} {ls_ k_ a_ b_ : Int} {q_ : Nat} {o_ : List (Int × Nat)} {g_ c_ : List Int} (hm_ : md_ = false) (h_ : ls_ ≤ k_) (e_ : a_ ≠ b_) : p_se md_ ls_ ((k_, q_) :: o_) (b_ :: a_ :: g_) c_ = .inl (13, q_) := by
  rw [p_se, if_pos h_]
  unfold p_ap
  rw [if_neg (by rw [hm_]; decide), if_neg e_]
  rfl
theorem cw_0 (k_ : Int) : cw k_ 0 0 = k_ := by
  unfold cw
  omega
theorem ct_fr {w_ : sx_Wl} {S_ S'_ : sm_S} {b_ : Nat → Int} {n_ p_ : Nat} (h_ : ct b_ n_ p_ S_) (f_ : ai_fr (sx_W w_) S_ S'_) (h0_ : (sx_W w_).2.1 98 = false) (h1_ : (sx_W w_).1 10 1 = false) (h2_ : (sx_W w_).1 10 2 = false) (h3_ : (sx_W w_).1 10 3 = false) (h4_ : (sx_W w_).1 10 4 = false) (h5_ : (sx_W w_).1 10 5 = false) (h8_ : (sx_W w_).1 10 8 = false) : ct b_ n_ p_ S'_ := by
  unfold ct at h_ ⊢
  rw [fr_arr f_ h0_, f_.1 10 0 1 h1_, f_.1 10 0 2 h2_, f_.1 10 0 3 h3_, f_.1 10 0 4 h4_, f_.1 10 0 5 h5_, f_.1 10 0 8 h8_]
  exact h_
theorem xs_fr {w_ : sx_Wl} {S_ S'_ : sm_S} {md_ : Bool} {o_ : List (Int × Nat)} {g_ c_ : List Int} (x_ : xs md_ o_ g_ c_ S_) (f_ : ai_fr (sx_W w_) S_ S'_) (h0_ : (sx_W w_).1 7 14 = false) (h1_ : (sx_W w_).1 7 16 = false) (h3_ : (sx_W w_).1 7 2 = false) (h4_ : (sx_W w_).2.1 82 = false) (h5_ : (sx_W w_).2.1 83 = false) (h6_ : (sx_W w_).2.1 84 = false) (h7_ : (sx_W w_).2.1 74 = false) (h8_ : (sx_W w_).2.2 7 11 = false) : xs md_ o_ g_ c_ S'_ := by
  unfold xs at x_ ⊢
  rw [f_.1 7 0 14 h0_, f_.1 7 0 16 h1_, f_.1 7 0 2 h3_, fr_arr f_ h4_, fr_arr f_ h5_, fr_arr f_ h6_, fr_arr f_ h7_, f_.2.1 7 0 11 h8_]
  exact x_
theorem xr_fr {w_ : sx_Wl} {S_ S'_ : sm_S} {md_ : Bool} {o_ : List (Int × Nat)} {g_ c_ : List Int} (x_ : xr md_ o_ g_ c_ S_) (f_ : ai_fr (sx_W w_) S_ S'_) (h0_ : (sx_W w_).1 7 14 = false) (h1_ : (sx_W w_).1 7 16 = false) (h2_ : (sx_W w_).1 7 17 = false) (h3_ : (sx_W w_).1 7 2 = false) (h4_ : (sx_W w_).2.1 82 = false) (h5_ : (sx_W w_).2.1 83 = false) (h6_ : (sx_W w_).2.1 84 = false) (h7_ : (sx_W w_).2.1 74 = false) (h8_ : (sx_W w_).2.2 7 11 = false) : xr md_ o_ g_ c_ S'_ :=
  ⟨xs_fr x_.1 f_ h0_ h1_ h3_ h4_ h5_ h6_ h7_ h8_, (f_.1 7 0 17 h2_).trans x_.2⟩
/-- a_ place where a_ name stands -/
def nmp (b_ : Nat → Int) (n_ p_ : Nat) : Prop := p_ ≤ n_ ∧ lx_kd b_ n_ p_ = 1
theorem nmp_sz {b_ : Nat → Int} {n_ p_ : Nat} (h_ : nmp b_ n_ p_) : lx_sz b_ n_ p_ ≤ 12 ∧ p_ + lx_sz b_ n_ p_ ≤ n_ := by
  obtain ⟨h1_, h2_⟩ := h_
  unfold lx_kd at h2_
  unfold lx_sz
  have h3_ := lx_ne_le (b := b_) h1_
  have h4_ := lx_de_le (b := b_) h1_
  by_cases g_ : n_ ≤ p_
  · rw [if_pos g_] at h2_; omega
  · rw [if_neg g_] at h2_ ⊢
    by_cases g1_ : lx_l (b_ p_)
    · rw [if_pos g1_] at h2_ ⊢
      split at h2_ <;> omega
    · rw [if_neg g1_] at h2_ ⊢
      by_cases g2_ : lx_g (b_ p_)
      · rw [if_pos g2_] at h2_
        split at h2_ <;> omega
      · rw [if_neg g2_]
        omega
/-- the_ names of_ a_ row_ -/
def nmr (b_ : Nat → Int) (n_ m_ K_ : Nat) (f_ : Nat → Nat) (S_ : sm_S) : Prop := S_.2.2.1 77 0 m_ = (K_ : Int) ∧ K_ ≤ 40 ∧ m_ ≤ 15 ∧ ∀ s_, s_ < K_ → S_.2.2.1 78 0 (40 * m_ + s_) = (16 * f_ s_ + lx_sz b_ n_ (f_ s_) : Nat) ∧ nmp b_ n_ (f_ s_)
theorem nmr_fr {w_ : sx_Wl} {S_ S'_ : sm_S} {b_ : Nat → Int} {n_ m_ K_ : Nat} {f_ : Nat → Nat} (x_ : nmr b_ n_ m_ K_ f_ S_) (g_ : ai_fr (sx_W w_) S_ S'_) (h0_ : (sx_W w_).2.1 77 = false) (h1_ : (sx_W w_).2.1 78 = false) : nmr b_ n_ m_ K_ f_ S'_ := by
  unfold nmr at x_ ⊢
  rw [fr_arr g_ h0_, fr_arr g_ h1_]
  exact x_
/-! modules: counts of_ names, their places, sorts, widths, details -/
abbrev pA : Type := (Nat → Nat) × (Nat → Nat) × (Nat → Int) × (Nat → Int) × (Nat → Int)
/-- what holds of_ modules that are_ told -/
def a_ok (b_ : Nat → Int) (n_ : Nat) (A_ : pA) (M_ : Nat) : Prop := M_ ≤ 15 ∧ ∀ m_, m_ ≤ M_ → A_.1 m_ ≤ 40 ∧ ∀ s_, s_ < A_.1 m_ → nmp b_ n_ (A_.2.1 (40 * m_ + s_)) ∧ (0 ≤ A_.2.2.1 (40 * m_ + s_) ∧ A_.2.2.1 (40 * m_ + s_) ≤ 5) ∧ (0 ≤ A_.2.2.2.1 (40 * m_ + s_) ∧ A_.2.2.2.1 (40 * m_ + s_) ≤ 8) ∧ (A_.2.2.1 (40 * m_ + s_) ≠ 5 → 1 ≤ A_.2.2.2.1 (40 * m_ + s_)) ∧ (A_.2.2.1 (40 * m_ + s_) = 5 → 0 ≤ A_.2.2.2.2 (40 * m_ + s_) ∧ A_.2.2.2.2 (40 * m_ + s_) < m_) ∧ (0 ≤ A_.2.2.2.2 (40 * m_ + s_) ∧ A_.2.2.2.2 (40 * m_ + s_) ≤ 255)
def er1 (b_ : Nat → Int) (n_ : Nat) (A_ : pA) (m_ : Nat) (S_ : sm_S) : Prop := S_.2.2.1 77 0 m_ = (A_.1 m_ : Int) ∧ ∀ s_, s_ < A_.1 m_ → S_.2.2.1 78 0 (40 * m_ + s_) = (16 * A_.2.1 (40 * m_ + s_) + lx_sz b_ n_ (A_.2.1 (40 * m_ + s_)) : Nat) ∧ S_.2.2.1 79 0 (40 * m_ + s_) = A_.2.2.1 (40 * m_ + s_) ∧ S_.2.2.1 80 0 (40 * m_ + s_) = A_.2.2.2.1 (40 * m_ + s_) ∧ S_.2.2.1 81 0 (40 * m_ + s_) = A_.2.2.2.2 (40 * m_ + s_)
def er (b_ : Nat → Int) (n_ : Nat) (A_ : pA) (M_ : Nat) (S_ : sm_S) : Prop := S_.1 7 0 3 = (M_ : Int) ∧ a_ok b_ n_ A_ M_ ∧ ∀ m_, m_ ≤ M_ → er1 b_ n_ A_ m_ S_
theorem er_nmr {b_ : Nat → Int} {n_ M_ m_ : Nat} {A_ : pA} {S_ : sm_S} (h_ : er b_ n_ A_ M_ S_) (hm_ : m_ ≤ M_) : nmr b_ n_ m_ (A_.1 m_) (fun s_ => A_.2.1 (40 * m_ + s_)) S_ := by
  have h1_ := h_.2.1.2 m_ hm_
  have h2_ := h_.2.2 m_ hm_
  refine ⟨h2_.1, h1_.1, by have := h_.2.1.1; omega, fun s_ hs_ => ⟨(h2_.2 s_ hs_).1, (h1_.2 s_ hs_).1⟩⟩
theorem er_fr {w_ : sx_Wl} {S_ S'_ : sm_S} {b_ : Nat → Int} {n_ M_ : Nat} {A_ : pA} (x_ : er b_ n_ A_ M_ S_) (g_ : ai_fr (sx_W w_) S_ S'_) (h0_ : (sx_W w_).2.1 77 = false) (h1_ : (sx_W w_).2.1 78 = false) (h2_ : (sx_W w_).2.1 79 = false) (h3_ : (sx_W w_).2.1 80 = false) (h4_ : (sx_W w_).2.1 81 = false) (h5_ : (sx_W w_).1 7 3 = false) : er b_ n_ A_ M_ S'_ := by
  refine ⟨(g_.1 7 0 3 h5_).trans x_.1, x_.2.1, fun m_ hm_ => ?_⟩
  have y_ := x_.2.2 m_ hm_
  unfold er1 at y_ ⊢
  rw [fr_arr g_ h0_, fr_arr g_ h1_, fr_arr g_ h2_, fr_arr g_ h3_, fr_arr g_ h4_]
  exact y_
/-! what stands between operators -/
def p_nu (b_ : Nat → Int) (n_ : Nat) (lo_ hi_ : Int) (p_ : Nat) : pE Int := if lx_kd b_ n_ p_ = 2 then (if lx_vl b_ n_ p_ < lo_ ∨ hi_ < lx_vl b_ n_ p_ then .inl (12, p_) else .inr (lx_vl b_ n_ p_)) else .inl (2, p_)
def p_co (b_ : Nat → Int) (n_ p_ : Nat) : pE (Nat × Int × List Int) := pb (p_ad b_ n_ p_) fun q_ => if lx_kd b_ n_ q_ = 64 then pb (p_ad b_ n_ q_) fun r_ => pb (p_nu b_ n_ 1 8 r_) fun w_ => pb (p_ad b_ n_ r_) fun u_ => if lx_vl b_ n_ p_ / 2 ^ w_.toNat = 0 then .inr (u_, w_, [cw 8 w_ (lx_vl b_ n_ p_)]) else .inl (12, p_) else .inl (2, q_)
def p_bi (b_ : Nat → Int) (n_ : Nat) (wd_ : Int) (l_ : List Int) (p_ : Nat) : pE (Nat × Int × List Int) := pb (p_nu b_ n_ 0 (wd_ - 1) p_) fun v_ => pb (p_ad b_ n_ p_) fun q_ => .inr (q_, 1, cw 11 v_ 0 :: l_)
def p_fn (b_ : Nat → Int) (n_ : Nat) (A_ : pA) (m_ p_ : Nat) : Int := p_fd (fun s_ => nm_q b_ n_ (A_.2.1 (40 * m_ + s_)) p_) (A_.1 m_)
def p_pa (b_ : Nat → Int) (n_ : Nat) (A_ : pA) (s_ : Int) (d_ p_ : Nat) : pE (Nat × Int × List Int) :=
  if p_fn b_ n_ A_ d_ p_ = -1 ∨ A_.2.2.1 (40 * d_ + (p_fn b_ n_ A_ d_ p_).toNat) ≠ 1 then .inl (11, p_)
  else pb (p_ad b_ n_ p_) fun q_ => if lx_kd b_ n_ q_ = 46 then pb (p_ad b_ n_ q_) fun r_ => p_bi b_ n_ (A_.2.2.2.1 (40 * d_ + (p_fn b_ n_ A_ d_ p_).toNat)) [cw 10 s_ (p_fn b_ n_ A_ d_ p_)] r_
    else .inr (q_, A_.2.2.2.1 (40 * d_ + (p_fn b_ n_ A_ d_ p_).toNat), [cw 10 s_ (p_fn b_ n_ A_ d_ p_)])
def p_na (b_ : Nat → Int) (n_ : Nat) (A_ : pA) (M_ p_ : Nat) : pE (Nat × Int × List Int) :=
  if p_fn b_ n_ A_ M_ p_ = -1 then .inl (11, p_)
  else pb (p_ad b_ n_ p_) fun q_ => if lx_kd b_ n_ q_ = 46 then pb (p_ad b_ n_ q_) fun r_ =>
      if lx_kd b_ n_ r_ = 1 then (if A_.2.2.1 (40 * M_ + (p_fn b_ n_ A_ M_ p_).toNat) = 5 then p_pa b_ n_ A_ (p_fn b_ n_ A_ M_ p_) (A_.2.2.2.2 (40 * M_ + (p_fn b_ n_ A_ M_ p_).toNat)).toNat r_ else .inl (11, p_))
      else if lx_kd b_ n_ r_ = 2 then (if A_.2.2.1 (40 * M_ + (p_fn b_ n_ A_ M_ p_).toNat) = 5 then .inl (11, p_) else p_bi b_ n_ (A_.2.2.2.1 (40 * M_ + (p_fn b_ n_ A_ M_ p_).toNat)) [cw 9 (p_fn b_ n_ A_ M_ p_) 0] r_)
      else .inl (2, r_)
    else if A_.2.2.1 (40 * M_ + (p_fn b_ n_ A_ M_ p_).toNat) = 5 then .inl (11, p_) else .inr (q_, A_.2.2.2.1 (40 * M_ + (p_fn b_ n_ A_ M_ p_).toNat), [cw 9 (p_fn b_ n_ A_ M_ p_) 0])
def p_pd (b_ : Nat → Int) (n_ : Nat) (A_ : pA) (M_ : Nat) : pPr := fun p_ => if lx_kd b_ n_ p_ = 2 then p_co b_ n_ p_ else if lx_kd b_ n_ p_ = 1 then p_na b_ n_ A_ M_ p_ else .inl (2, p_)
def p_pl (b_ : Nat → Int) (n_ K_ : Nat) (f_ : Nat → Nat) : pPr := fun p_ => if lx_kd b_ n_ p_ = 1 then (if p_fd (fun s_ => nm_q b_ n_ (f_ s_) p_) K_ = -1 then .inl (11, p_) else pb (p_ad b_ n_ p_) fun q_ => .inr (q_, if p_fd (fun s_ => nm_q b_ n_ (f_ s_) p_) K_ = 0 then 170 else if p_fd (fun s_ => nm_q b_ n_ (f_ s_) p_) K_ = 1 then 204 else 240, [])) else .inl (2, p_)
theorem pb_inr {α β : Type} {x_ : pE α} {f_ : α → pE β} {r_ : β} (h_ : pb x_ f_ = .inr r_) : ∃ a_, x_ = .inr a_ ∧ f_ a_ = .inr r_ := by
  cases x_ with
  | inl e_ => cases h_
  | inr a_ => exact ⟨a_, rfl, h_⟩
theorem p_nu_ok {b_ : Nat → Int} {n_ p_ : Nat} {lo_ hi_ v_ : Int} (h_ : p_nu b_ n_ lo_ hi_ p_ = .inr v_) : lx_kd b_ n_ p_ = 2 ∧ v_ = lx_vl b_ n_ p_ ∧ lo_ ≤ v_ ∧ v_ ≤ hi_ := by
  unfold p_nu at h_
  split at h_
  · rename_i g_
    split at h_
    · cases h_
    · cases h_
      exact ⟨g_, rfl, by omega, by omega⟩
  · cases h_
theorem p_bi_ok {b_ : Nat → Int} {n_ p_ : Nat} {wd_ : Int} {l_ : List Int} {r_ : Nat × Int × List Int} (hp_ : p_ ≤ n_) (h_ : p_bi b_ n_ wd_ l_ p_ = .inr r_) : p_ < r_.1 ∧ r_.1 ≤ n_ ∧ lx_kd b_ n_ r_.1 ≠ -1 ∧ r_.2.1 = 1 ∧ r_.2.2.length = l_.length + 1 := by
  obtain ⟨v_, h1_, h_⟩ := pb_inr h_
  obtain ⟨q_, h2_, h_⟩ := pb_inr h_
  cases h_
  have h3_ := p_nu_ok h1_
  have h4_ := p_ad_ok hp_ (by omega) h2_
  exact ⟨h4_.2.1, h4_.2.2.1, h4_.2.2.2, rfl, rfl⟩
theorem p_co_ok {b_ : Nat → Int} {n_ p_ : Nat} {r_ : Nat × Int × List Int} (hp_ : p_ ≤ n_) (hk_ : lx_kd b_ n_ p_ = 2) (h_ : p_co b_ n_ p_ = .inr r_) : p_ < r_.1 ∧ r_.1 ≤ n_ ∧ lx_kd b_ n_ r_.1 ≠ -1 ∧ (0 ≤ r_.2.1 ∧ r_.2.1 ≤ 255) ∧ r_.2.2.length ≤ 3 * (r_.1 - p_) := by
  obtain ⟨q_, h1_, h_⟩ := pb_inr h_
  have k1_ := p_ad_ok hp_ (by omega) h1_
  split at h_
  · rename_i g_
    obtain ⟨u_, h2_, h_⟩ := pb_inr h_
    have k2_ := p_ad_ok k1_.2.2.1 (by omega) h2_
    obtain ⟨w_, h3_, h_⟩ := pb_inr h_
    have k3_ := p_nu_ok h3_
    obtain ⟨v_, h4_, h_⟩ := pb_inr h_
    have k4_ := p_ad_ok k2_.2.2.1 (by omega) h4_
    split at h_
    · cases h_
      refine ⟨by show p_ < v_; omega, k4_.2.2.1, k4_.2.2.2, by show 0 ≤ w_ ∧ w_ ≤ 255; omega, by show 1 ≤ 3 * (v_ - p_); omega⟩
    · cases h_
  · cases h_
theorem p_fn_b {b_ : Nat → Int} {n_ : Nat} {A_ : pA} {m_ p_ : Nat} (h_ : p_fn b_ n_ A_ m_ p_ ≠ -1) : ∃ s_ : Nat, p_fn b_ n_ A_ m_ p_ = (s_ : Int) ∧ s_ < A_.1 m_ ∧ (p_fn b_ n_ A_ m_ p_).toNat = s_ ∧ nm_q b_ n_ (A_.2.1 (40 * m_ + s_)) p_ = true := by
  have h1_ := p_fd_b (f_ := fun s_ => nm_q b_ n_ (A_.2.1 (40 * m_ + s_)) p_) (A_.1 m_)
  have h2_ : p_fn b_ n_ A_ m_ p_ = p_fd (fun s_ => nm_q b_ n_ (A_.2.1 (40 * m_ + s_)) p_) (A_.1 m_) := rfl
  obtain ⟨s_, hs_⟩ : ∃ s_ : Nat, p_fn b_ n_ A_ m_ p_ = (s_ : Int) := ⟨(p_fn b_ n_ A_ m_ p_).toNat, by omega⟩
  have h3_ := p_fd_f (h2_.symm.trans hs_)
  exact ⟨s_, hs_, h3_.2, by omega, h3_.1⟩
theorem p_na_ok {b_ : Nat → Int} {n_ M_ p_ : Nat} {A_ : pA} {r_ : Nat × Int × List Int} (hA_ : a_ok b_ n_ A_ M_) (hp_ : p_ ≤ n_) (hk_ : lx_kd b_ n_ p_ = 1) (h_ : p_na b_ n_ A_ M_ p_ = .inr r_) : p_ < r_.1 ∧ r_.1 ≤ n_ ∧ lx_kd b_ n_ r_.1 ≠ -1 ∧ (0 ≤ r_.2.1 ∧ r_.2.1 ≤ 255) ∧ r_.2.2.length ≤ 3 * (r_.1 - p_) := by
  unfold p_na at h_
  split at h_
  · cases h_
  · rename_i g_
    obtain ⟨s_, e1_, e2_, e3_, -⟩ := p_fn_b g_
    have w1_ := (hA_.2 M_ (Nat.le_refl _)).2 s_ e2_
    rw [e3_] at h_
    obtain ⟨q_, h1_, h_⟩ := pb_inr h_
    have k1_ := p_ad_ok hp_ (by omega) h1_
    split at h_
    · rename_i g1_
      obtain ⟨u_, h2_, h_⟩ := pb_inr h_
      have k2_ := p_ad_ok k1_.2.2.1 (by omega) h2_
      split at h_
      · rename_i g2_
        split at h_
        · rename_i g3_
          unfold p_pa at h_
          split at h_
          · cases h_
          · rename_i g4_
            generalize hd_ : (A_.2.2.2.2 (40 * M_ + s_)).toNat = d_ at h_ g4_
            have hdM_ : d_ < M_ := by have := w1_.2.2.2.2.1 g3_; omega
            obtain ⟨s'_, f1_, f2_, f3_, -⟩ := p_fn_b (fun z_ => g4_ (Or.inl z_))
            have w2_ := (hA_.2 d_ (by omega)).2 s'_ f2_
            rw [f3_] at h_
            obtain ⟨v_, h3_, h_⟩ := pb_inr h_
            have k3_ := p_ad_ok k2_.2.2.1 (by omega) h3_
            split at h_
            · rename_i g5_
              obtain ⟨v1_, h4_, h_⟩ := pb_inr h_
              have k4_ := p_ad_ok k3_.2.2.1 (by omega) h4_
              have k5_ := p_bi_ok k4_.2.2.1 h_
              simp only [List.length_cons, List.length_nil] at k5_
              refine ⟨by omega, k5_.2.1, k5_.2.2.1, by omega, by omega⟩
            · cases h_
              refine ⟨by show p_ < v_; omega, k3_.2.2.1, k3_.2.2.2, ?_, by show 1 ≤ 3 * (v_ - p_); omega⟩
              show 0 ≤ A_.2.2.2.1 (40 * d_ + s'_) ∧ A_.2.2.2.1 (40 * d_ + s'_) ≤ 255
              have := w2_.2.2.1
              omega
        · cases h_
      · split at h_
        · split at h_
          · cases h_
          · have k5_ := p_bi_ok k2_.2.2.1 h_
            simp only [List.length_cons, List.length_nil] at k5_
            refine ⟨by omega, k5_.2.1, k5_.2.2.1, by omega, by omega⟩
        · cases h_
    · split at h_
      · cases h_
      · cases h_
        refine ⟨k1_.2.1, k1_.2.2.1, k1_.2.2.2, ?_, by show 1 ≤ 3 * (q_ - p_); omega⟩
        show 0 ≤ A_.2.2.2.1 (40 * M_ + s_) ∧ A_.2.2.2.1 (40 * M_ + s_) ≤ 255
        have := w1_.2.2.1
        omega
theorem pd_ok {b_ : Nat → Int} {n_ M_ : Nat} {A_ : pA} (hA_ : a_ok b_ n_ A_ M_) : pr_ok b_ n_ (p_pd b_ n_ A_ M_) := by
  intro p_ r_ hp_ hk_ h_
  unfold p_pd at h_
  split at h_
  · rename_i g_
    exact p_co_ok hp_ g_ h_
  · split at h_
    · rename_i g_
      exact p_na_ok hA_ hp_ g_ h_
    · cases h_
theorem pl_ok {b_ : Nat → Int} {n_ K_ : Nat} {f_ : Nat → Nat} : pr_ok b_ n_ (p_pl b_ n_ K_ f_) := by
  intro p_ r_ hp_ hk_ h_
  unfold p_pl at h_
  split at h_
  · rename_i g_
    split at h_
    · cases h_
    · obtain ⟨q_, h1_, h_⟩ := pb_inr h_
      have k1_ := p_ad_ok hp_ (by omega) h1_
      cases h_
      refine ⟨k1_.2.1, k1_.2.2.1, k1_.2.2.2, ?_, Nat.zero_le _⟩
      generalize p_fd (fun s_ => nm_q b_ n_ (f_ s_) p_) K_ = v_
      show 0 ≤ (if v_ = 0 then (170 : Int) else if v_ = 1 then 204 else 240) ∧ (if v_ = 0 then (170 : Int) else if v_ = 1 then 204 else 240) ≤ 255
      split
      · decide
      · split <;> decide
  · cases h_
/-! every expression comes to_ something -/
theorem p_st_lt {b_ : Nat → Int} {n_ : Nat} {md_ : Bool} {pr_ : pPr} {x_ y_ : pX} (hpr_ : pr_ok b_ n_ pr_) (hx_ : x_ok b_ n_ md_ x_) (e_ : p_st b_ n_ md_ pr_ x_ = .inr (.inl y_)) : x_.2.2.1 < y_.2.2.1 := by
  obtain ⟨h0_, h1_, h2_, h3_, h4_⟩ := hx_
  obtain ⟨ph_, t_, p_, o_, h_, c_⟩ := x_
  have adv_ : ∀ {q_ : Nat}, lx_kd b_ n_ p_ ≠ 0 → p_ad b_ n_ p_ = .inr q_ → p_ < q_ := fun k_ z_ => (p_ad_ok h2_ k_ z_).2.1
  have cB3_ : ∀ {s_ : pO}, p_B3 b_ n_ md_ p_ s_ = .inr (.inl y_) → p_ < y_.2.2.1 := by
    intro s_ e_
    obtain ⟨so_, sh_, sc_⟩ := s_
    cases so_ with
    | nil => cases e_
    | cons z_ so_ =>
      obtain ⟨k_, q_⟩ := z_
      have e_ : (if k_ = -3 then (if lx_kd b_ n_ p_ = 58 then pb (p_ad b_ n_ p_) fun r_ => (.inr (.inl (0, false, r_, (-4, q_) :: so_, sh_, sc_)) : pE (pX ⊕ pR)) else .inl (2, p_)) else (if lx_kd b_ n_ p_ = 41 then pb (p_ad b_ n_ p_) fun r_ => .inr (.inl (1, false, r_, so_, (p_ti md_ (decide (k_ = -2)) sh_ sc_).1, (p_ti md_ (decide (k_ = -2)) sh_ sc_).2)) else .inl (2, p_))) = .inr (.inl y_) := e_
      split at e_
      · split at e_
        · obtain ⟨r_, a1_, a2_⟩ := pb_inr e_
          cases a2_
          exact adv_ (by omega) a1_
        · cases e_
      · split at e_
        · obtain ⟨r_, a1_, a2_⟩ := pb_inr e_
          cases a2_
          exact adv_ (by omega) a1_
        · cases e_
  have cB2_ : ∀ {s_ : pO}, p_B2 b_ n_ md_ p_ s_ = .inr (.inl y_) → p_ < y_.2.2.1 := by
    intro s_ e_
    unfold p_B2 at e_
    split at e_
    · rename_i g_
      obtain ⟨u_, a1_, e_⟩ := pb_inr e_
      split at e_
      · cases e_
      · split at e_
        · cases e_
        · obtain ⟨r_, a1_, a2_⟩ := pb_inr e_
          cases a2_
          exact adv_ (by omega) a1_
    · obtain ⟨u_, a1_, e_⟩ := pb_inr e_
      exact cB3_ e_
  unfold p_st at e_
  show p_ < y_.2.2.1
  split at e_
  · unfold p_sA at e_
    split at e_
    · obtain ⟨r_, a1_, a2_⟩ := pb_inr e_
      cases a2_
      rename_i g_
      exact adv_ (by intro z_; have g_ : lx_kd b_ n_ p_ = 33 := g_; omega) a1_
    · split at e_
      · rename_i g_
        split at e_
        · cases e_
        · obtain ⟨r_, a1_, a2_⟩ := pb_inr e_
          cases a2_
          exact adv_ (by intro z_; have g_ : lx_kd b_ n_ p_ = 40 := g_; omega) a1_
      · obtain ⟨r_, a1_, a2_⟩ := pb_inr e_
        cases a2_
        exact (hpr_ p_ r_ h2_ h3_ a1_).1
  · unfold p_sB at e_
    split at e_
    · rename_i g0_ g_
      obtain ⟨u_, a1_, e_⟩ := pb_inr e_
      unfold p_B1 at e_
      split at e_
      · obtain ⟨r_, a1_, a2_⟩ := pb_inr e_
        cases a2_
        refine adv_ ?_ a1_
        intro z_
        have g_ : 0 < p_lv md_ (lx_kd b_ n_ p_) := g_
        rw [z_] at g_
        unfold p_lv at g_
        repeat' split at g_ <;> omega
      · exact cB2_ e_
    · exact cB2_ e_
theorem p_tot {b_ : Nat → Int} {n_ : Nat} {md_ : Bool} {pr_ : pPr} (hn_ : n_ ≤ 1280) (hpr_ : pr_ok b_ n_ pr_) : ∀ (f_ : Nat) (x_ : pX), n_ < x_.2.2.1 + f_ → x_ok b_ n_ md_ x_ → ∃ R_, p_xr b_ n_ md_ pr_ f_ x_ = some R_
  | 0, x_, hf_, hx_ => by
    exfalso
    have := hx_.2.2.1
    omega
  | f_ + 1, x_, hf_, hx_ => by
    cases hs_ : p_st b_ n_ md_ pr_ x_ with
    | inl e_ => exact ⟨.inl e_, by rw [p_xr, hs_]⟩
    | inr z_ =>
      cases z_ with
      | inr r_ => exact ⟨.inr r_, by rw [p_xr, hs_]⟩
      | inl y_ =>
        have h1_ := x_st hn_ hpr_ hx_ hs_
        have h2_ := p_st_lt hpr_ hx_ hs_
        obtain ⟨R_, hR_⟩ := p_tot hn_ hpr_ f_ y_ (by omega) h1_
        exact ⟨R_, by rw [p_xr, hs_]; exact hR_⟩
/-- an_ expression from a_ place on_: where it_ ends, what is_ held, the_ code -/
def p_ex (b_ : Nat → Int) (n_ : Nat) (md_ : Bool) (pr_ : pPr) (c_ : List Int) (p_ : Nat) : pE pR := (p_xr b_ n_ md_ pr_ (n_ + 1) (0, false, p_, [], [], c_)).getD (.inl (0, 0))
theorem x_ok_0 {b_ : Nat → Int} {n_ p_ : Nat} {md_ : Bool} {c_ : List Int} (hp_ : p_ ≤ n_) (hk_ : lx_kd b_ n_ p_ ≠ -1) (hc_ : c_.length ≤ 3 * p_) : x_ok b_ n_ md_ (0, false, p_, [], [], c_) :=
  ⟨Nat.zero_le _, ⟨trivial, Nat.zero_le _, rfl, fun x_ hx_ => by cases hx_⟩, hp_, hk_, by show c_.length + 0 + 0 ≤ 3 * p_; exact hc_⟩
theorem p_ex_x {b_ : Nat → Int} {n_ p_ : Nat} {md_ : Bool} {pr_ : pPr} {c_ : List Int} (hn_ : n_ ≤ 1280) (hpr_ : pr_ok b_ n_ pr_) (hp_ : p_ ≤ n_) (hk_ : lx_kd b_ n_ p_ ≠ -1) (hc_ : c_.length ≤ 3 * p_) : p_xx b_ n_ md_ pr_ (0, false, p_, [], [], c_) (p_ex b_ n_ md_ pr_ c_ p_) := by
  obtain ⟨R_, hR_⟩ := p_tot (md_ := md_) hn_ hpr_ (n_ + 1) (0, false, p_, [], [], c_) (by show n_ < p_ + (n_ + 1); omega) (x_ok_0 hp_ hk_ hc_)
  refine ⟨n_ + 1, ?_⟩
  unfold p_ex
  rw [hR_]
  rfl
end
/-! 99.w5 -/
section
/-! steps of the parser; written by wip/p55/gen/vg -/

/-! steps of_ the_ parser, one_ by one_ -/
theorem o_ok_lt {md_ : Bool} {k_ : Int} {q_ : Nat} {o_ : List (Int × Nat)} (h_ : o_ok md_ ((k_, q_) :: o_)) (hk_ : 1 ≤ k_) : o_tp o_ < k_ ∧ k_ ≤ 5 := by
  rcases h_.1 with z_ | z_ | z_ | z_
  · exfalso; have z_ : k_ = -1 := z_; omega
  · exfalso; have z_ : k_ = -2 := z_; omega
  · exfalso
    rcases z_.2 with z_ | z_
    · have z_ : k_ = -3 := z_; omega
    · have z_ : k_ = -4 := z_; omega
  · exact ⟨z_.2.2.2, z_.2.1⟩
theorem p_ad_c {b_ : Nat → Int} {n_ q_ : Nat} {S_ : sm_S} (h_ : ct b_ n_ (lx_k b_ n_ (lx_en b_ n_ q_)) S_) : p_ad b_ n_ q_ = .inr (lx_nx b_ n_ q_) := by
  unfold p_ad
  exact if_neg h_.2.2.2.2.1
theorem p_ad_x {b_ : Nat → Int} {n_ q_ : Nat} (h_ : lx_kd b_ n_ (lx_k b_ n_ (lx_en b_ n_ q_)) = -1) : p_ad b_ n_ q_ = .inl (1, lx_nx b_ n_ q_) := by
  unfold p_ad
  exact if_pos h_
theorem pA_b {b_ : Nat → Int} {n_ : Nat} {md_ t_ : Bool} {pr_ : pPr} {q_ : Nat} {o_ : List (Int × Nat)} {g_ c_ : List Int} (h_ : lx_kd b_ n_ q_ = 33) : p_st b_ n_ md_ pr_ (0, t_, q_, o_, g_, c_) = pb (p_ad b_ n_ q_) fun r_ => .inr (.inl (0, !t_, r_, o_, g_, c_)) := by
  show p_sA b_ n_ md_ pr_ t_ q_ o_ g_ c_ = _
  unfold p_sA
  exact if_pos h_
theorem pA_x {b_ : Nat → Int} {n_ : Nat} {md_ t_ : Bool} {pr_ : pPr} {q_ : Nat} {o_ : List (Int × Nat)} {g_ c_ : List Int} (h_ : lx_kd b_ n_ q_ = 40) (h1_ : o_mk o_ = 60) : p_st b_ n_ md_ pr_ (0, t_, q_, o_, g_, c_) = .inl (3, q_) := by
  show p_sA b_ n_ md_ pr_ t_ q_ o_ g_ c_ = _
  unfold p_sA
  rw [if_neg (by omega), if_pos h_, if_pos h1_]
theorem pA_o {b_ : Nat → Int} {n_ : Nat} {md_ t_ : Bool} {pr_ : pPr} {q_ : Nat} {o_ : List (Int × Nat)} {g_ c_ : List Int} (h_ : lx_kd b_ n_ q_ = 40) (h1_ : o_mk o_ ≠ 60) : p_st b_ n_ md_ pr_ (0, t_, q_, o_, g_, c_) = pb (p_ad b_ n_ q_) fun r_ => .inr (.inl (0, false, r_, (if t_ = true then -2 else -1, q_) :: o_, g_, c_)) := by
  show p_sA b_ n_ md_ pr_ t_ q_ o_ g_ c_ = _
  unfold p_sA
  rw [if_neg (by omega), if_pos h_, if_neg h1_]
theorem pA_p {b_ : Nat → Int} {n_ : Nat} {md_ t_ : Bool} {pr_ : pPr} {q_ : Nat} {o_ : List (Int × Nat)} {g_ c_ : List Int} (h_ : lx_kd b_ n_ q_ ≠ 33) (h1_ : lx_kd b_ n_ q_ ≠ 40) : p_st b_ n_ md_ pr_ (0, t_, q_, o_, g_, c_) = pb (pr_ q_) fun r_ => .inr (.inl (1, false, r_.1, o_, (p_ti md_ t_ (r_.2.1 :: g_) (r_.2.2 ++ c_)).1, (p_ti md_ t_ (r_.2.1 :: g_) (r_.2.2 ++ c_)).2)) := by
  show p_sA b_ n_ md_ pr_ t_ q_ o_ g_ c_ = _
  unfold p_sA
  rw [if_neg h_, if_neg h1_]
theorem pB_l {b_ : Nat → Int} {n_ : Nat} {md_ t_ : Bool} {pr_ : pPr} {q_ : Nat} {o_ : List (Int × Nat)} {g_ c_ : List Int} (h_ : 0 < p_lv md_ (lx_kd b_ n_ q_)) : p_st b_ n_ md_ pr_ (1, t_, q_, o_, g_, c_) = pb (p_se md_ (if p_lv md_ (lx_kd b_ n_ q_) = 4 then 5 else p_lv md_ (lx_kd b_ n_ q_)) o_ g_ c_) (p_B1 b_ n_ md_ q_ (p_lv md_ (lx_kd b_ n_ q_))) := by
  show p_sB b_ n_ md_ q_ o_ g_ c_ = _
  unfold p_sB
  exact if_pos h_
theorem pB_n {b_ : Nat → Int} {n_ : Nat} {md_ t_ : Bool} {pr_ : pPr} {q_ : Nat} {o_ : List (Int × Nat)} {g_ c_ : List Int} (h_ : ¬ 0 < p_lv md_ (lx_kd b_ n_ q_)) : p_st b_ n_ md_ pr_ (1, t_, q_, o_, g_, c_) = p_B2 b_ n_ md_ q_ (o_, g_, c_) := by
  show p_sB b_ n_ md_ q_ o_ g_ c_ = _
  unfold p_sB
  exact if_neg h_
/-- what an_ unfinished step comes to_ -/
theorem p_yo {b_ : Nat → Int} {n_ : Nat} {md_ : Bool} {pr_ : pPr} {x_ : pX} {s_ : pE (pX ⊕ pR)} {R_ : pE pR} (h_ : p_xx b_ n_ md_ pr_ x_ R_) (e_ : p_st b_ n_ md_ pr_ x_ = s_) : p_yy b_ n_ md_ pr_ s_ R_ := by
  rw [← e_]; exact p_xy h_
theorem er_at {b_ : Nat → Int} {n_ M_ s_ : Nat} {A_ : pA} {S_ : sm_S} {i_ : Int} (h_ : er b_ n_ A_ M_ S_) (hs_ : s_ < A_.1 M_) (hi_ : i_.toNat = 40 * M_ + s_) : S_.2.2.1 79 0 i_.toNat = A_.2.2.1 (40 * M_ + s_) ∧ S_.2.2.1 80 0 i_.toNat = A_.2.2.2.1 (40 * M_ + s_) ∧ S_.2.2.1 81 0 i_.toNat = A_.2.2.2.2 (40 * M_ + s_) := by
  have h1_ := (h_.2.2 M_ (Nat.le_refl _)).2 s_ hs_
  rw [hi_]
  exact h1_.2
theorem p_se_le {md_ : Bool} {ls_ : Int} : ∀ (o_ : List (Int × Nat)) (g_ c_ : List Int) (s_ : pO), p_se md_ ls_ o_ g_ c_ = .inr s_ → s_.1.length ≤ o_.length
  | [], g_, c_, s_, e_ => by
    have : p_se md_ ls_ [] g_ c_ = .inr ([], g_, c_) := by unfold p_se; rfl
    rw [this] at e_
    cases e_
    exact Nat.le_refl _
  | (k_, q_) :: o_, [], c_, s_, e_ => by
    have : p_se md_ ls_ ((k_, q_) :: o_) [] c_ = .inr ((k_, q_) :: o_, [], c_) := by unfold p_se; rfl
    rw [this] at e_
    cases e_
    exact Nat.le_refl _
  | (k_, q_) :: o_, [x_], c_, s_, e_ => by
    have : p_se md_ ls_ ((k_, q_) :: o_) [x_] c_ = .inr ((k_, q_) :: o_, [x_], c_) := by unfold p_se; rfl
    rw [this] at e_
    cases e_
    exact Nat.le_refl _
  | (k_, q_) :: o_, b_ :: a_ :: g_, c_, s_, e_ => by
    rw [p_se] at e_
    split at e_
    · cases hp_ : p_ap md_ k_ q_ a_ b_ c_ with
      | inl z_ => rw [hp_] at e_; cases e_
      | inr r_ =>
        rw [hp_] at e_
        have := p_se_le o_ (r_.1 :: g_) r_.2 s_ e_
        simp only [List.length_cons]
        omega
    · cases e_
      exact Nat.le_refl _
theorem p_sa_st {md_ : Bool} {o_ : List (Int × Nat)} {g_ c_ : List Int} (h_ : o_tp o_ < 1) (h1_ : o_tp o_ ≠ -4) : p_sa md_ o_ g_ c_ = .inr (o_, g_, c_) := by
  cases o_ with
  | nil => rfl
  | cons y_ o_ =>
    obtain ⟨k_, q_⟩ := y_
    have h_ : k_ < 1 := h_
    have h1_ : k_ ≠ -4 := h1_
    exact p_sa_n h1_ (by omega)
theorem p_sa_ch {md_ : Bool} {q_ : Nat} {o_ : List (Int × Nat)} {x_ y_ z_ : Int} {g_ c_ : List Int} (h_ : y_ = x_) : p_sa md_ ((-4, q_) :: o_) (x_ :: y_ :: z_ :: g_) c_ = p_sa md_ o_ (y_ :: g_) (7 :: c_) := by
  rw [p_sa_4, show p_ch q_ (x_ :: y_ :: z_ :: g_) c_ = .inr (y_ :: g_, 7 :: c_) from if_pos h_]
  rfl
theorem p_sa_cx {md_ : Bool} {q_ : Nat} {o_ : List (Int × Nat)} {x_ y_ z_ : Int} {g_ c_ : List Int} (h_ : y_ ≠ x_) : p_sa md_ ((-4, q_) :: o_) (x_ :: y_ :: z_ :: g_) c_ = .inl (13, q_) := by
  rw [p_sa_4, show p_ch q_ (x_ :: y_ :: z_ :: g_) c_ = .inl (13, q_) from if_neg h_]
  rfl
theorem o_tp_0 {md_ : Bool} {o_ : List (Int × Nat)} (h_ : o_ok md_ o_) (h0_ : o_tp o_ = 0) : o_ = [] := by
  cases o_ with
  | nil => rfl
  | cons y_ o_ =>
    exfalso
    have h0_ : y_.1 = 0 := h0_
    have h1_ := h_.1
    omega
theorem s_ok_1 {md_ : Bool} {s_ : pO} (h_ : s_ok md_ 1 s_) : ∃ z_ g_, s_.2.1 = z_ :: g_ := by
  have h1_ := h_.2.2.1
  cases hs_ : s_.2.1 with
  | nil => rw [hs_] at h1_; simp only [List.length_nil] at h1_; omega
  | cons z_ g_ => exact ⟨z_, g_, rfl⟩
theorem o_md {md_ : Bool} {q_ : Nat} {o_ : List (Int × Nat)} (h_ : o_ok md_ ((-4, q_) :: o_)) : md_ = false := by
  rcases h_.1 with z_ | z_ | z_ | z_
  · exfalso; have z_ : (-4 : Int) = -1 := z_; omega
  · exfalso; have z_ : (-4 : Int) = -2 := z_; omega
  · exact z_.1
  · exfalso; have z_ : (1 : Int) ≤ -4 := z_.1; omega
theorem pB3_g {b_ : Nat → Int} {n_ q_ t_ : Nat} {md_ : Bool} {k_ : Int} {o_ : List (Int × Nat)} {g_ c_ : List Int} : p_B3 b_ n_ md_ q_ ((k_, t_) :: o_, g_, c_) = if k_ = -3 then (if lx_kd b_ n_ q_ = 58 then pb (p_ad b_ n_ q_) fun r_ => .inr (.inl (0, false, r_, (-4, t_) :: o_, g_, c_)) else .inl (2, q_)) else (if lx_kd b_ n_ q_ = 41 then pb (p_ad b_ n_ q_) fun r_ => .inr (.inl (1, false, r_, o_, (p_ti md_ (decide (k_ = -2)) g_ c_).1, (p_ti md_ (decide (k_ = -2)) g_ c_).2)) else .inl (2, q_)) := rfl
theorem pB3_q {b_ : Nat → Int} {n_ q_ t_ : Nat} {md_ : Bool} {o_ : List (Int × Nat)} {g_ c_ : List Int} : p_B3 b_ n_ md_ q_ ((-3, t_) :: o_, g_, c_) = if lx_kd b_ n_ q_ = 58 then pb (p_ad b_ n_ q_) fun r_ => .inr (.inl (0, false, r_, (-4, t_) :: o_, g_, c_)) else .inl (2, q_) := by
  rw [pB3_g, if_pos rfl]
theorem pB3_c {b_ : Nat → Int} {n_ q_ t_ : Nat} {md_ : Bool} {k_ : Int} {o_ : List (Int × Nat)} {g_ c_ : List Int} (h_ : k_ ≠ -3) : p_B3 b_ n_ md_ q_ ((k_, t_) :: o_, g_, c_) = if lx_kd b_ n_ q_ = 41 then pb (p_ad b_ n_ q_) fun r_ => .inr (.inl (1, false, r_, o_, (p_ti md_ (decide (k_ = -2)) g_ c_).1, (p_ti md_ (decide (k_ = -2)) g_ c_).2)) else .inl (2, q_) := if_neg h_
theorem pB2_n {b_ : Nat → Int} {n_ q_ : Nat} {md_ : Bool} {s_ : pO} (h_ : ¬ (md_ = false ∧ lx_kd b_ n_ q_ = 63)) : p_B2 b_ n_ md_ q_ s_ = pb (p_sa md_ s_.1 s_.2.1 s_.2.2) (p_B3 b_ n_ md_ q_) := if_neg h_
theorem pB2_q {b_ : Nat → Int} {n_ q_ : Nat} {md_ : Bool} {o_ : List (Int × Nat)} {g_ c_ : List Int} {s_ : pO} (h_ : md_ = false ∧ lx_kd b_ n_ q_ = 63) (e_ : p_se md_ 1 o_ g_ c_ = .inr s_) : p_B2 b_ n_ md_ q_ (o_, g_, c_) = if o_mk s_.1 = 60 then .inl (3, q_) else if h_tp s_.2.1 ≠ 1 then .inl (13, q_) else pb (p_ad b_ n_ q_) fun r_ => .inr (.inl (0, false, r_, (-3, q_) :: s_.1, s_.2.1, s_.2.2)) := by
  unfold p_B2
  rw [if_pos h_]
  show pb (p_se md_ 1 o_ g_ c_) _ = _
  rw [e_]
  rfl
theorem pB2_e {b_ : Nat → Int} {n_ q_ : Nat} {md_ : Bool} {o_ : List (Int × Nat)} {g_ c_ : List Int} {z_ : Int × Nat} (h_ : md_ = false ∧ lx_kd b_ n_ q_ = 63) (e_ : p_se md_ 1 o_ g_ c_ = .inl z_) : p_B2 b_ n_ md_ q_ (o_, g_, c_) = .inl z_ := by
  unfold p_B2
  rw [if_pos h_]
  show pb (p_se md_ 1 o_ g_ c_) _ = _
  rw [e_]
  rfl
variable {b_ : Nat → Int} {n_ M_ p_ q_ r_ s_ d_ : Nat} {A_ : pA} {e_ : Int × Nat}
theorem na_0 (h_ : p_fn b_ n_ A_ M_ p_ = -1) : p_na b_ n_ A_ M_ p_ = .inl (11, p_) := by
  unfold p_na; exact if_pos h_
theorem na_1 (h_ : p_fn b_ n_ A_ M_ p_ = (s_ : Int)) (h1_ : p_ad b_ n_ p_ = .inl e_) : p_na b_ n_ A_ M_ p_ = .inl e_ := by
  unfold p_na; rw [if_neg (by omega), h1_]; rfl
theorem na_2 (h_ : p_fn b_ n_ A_ M_ p_ = (s_ : Int)) (h1_ : p_ad b_ n_ p_ = .inr q_) (h2_ : lx_kd b_ n_ q_ ≠ 46) : p_na b_ n_ A_ M_ p_ = if A_.2.2.1 (40 * M_ + s_) = 5 then .inl (11, p_) else .inr (q_, A_.2.2.2.1 (40 * M_ + s_), [cw 9 s_ 0]) := by
  unfold p_na; rw [if_neg (by omega), h1_, h_, Int.toNat_natCast]; exact if_neg h2_
theorem na_3 (h_ : p_fn b_ n_ A_ M_ p_ = (s_ : Int)) (h1_ : p_ad b_ n_ p_ = .inr q_) (h2_ : lx_kd b_ n_ q_ = 46) (h3_ : p_ad b_ n_ q_ = .inl e_) : p_na b_ n_ A_ M_ p_ = .inl e_ := by
  unfold p_na; rw [if_neg (by omega), h1_, h_, Int.toNat_natCast]; show (if _ then _ else _) = _; rw [if_pos h2_, h3_]; rfl
theorem na_4 (h_ : p_fn b_ n_ A_ M_ p_ = (s_ : Int)) (h1_ : p_ad b_ n_ p_ = .inr q_) (h2_ : lx_kd b_ n_ q_ = 46) (h3_ : p_ad b_ n_ q_ = .inr r_) (h4_ : lx_kd b_ n_ r_ = 1) : p_na b_ n_ A_ M_ p_ = if A_.2.2.1 (40 * M_ + s_) = 5 then p_pa b_ n_ A_ s_ (A_.2.2.2.2 (40 * M_ + s_)).toNat r_ else .inl (11, p_) := by
  unfold p_na; rw [if_neg (by omega), h1_, h_, Int.toNat_natCast]; show (if _ then _ else _) = _; rw [if_pos h2_, h3_]; exact if_pos h4_
theorem na_5 (h_ : p_fn b_ n_ A_ M_ p_ = (s_ : Int)) (h1_ : p_ad b_ n_ p_ = .inr q_) (h2_ : lx_kd b_ n_ q_ = 46) (h3_ : p_ad b_ n_ q_ = .inr r_) (h4_ : lx_kd b_ n_ r_ = 2) : p_na b_ n_ A_ M_ p_ = if A_.2.2.1 (40 * M_ + s_) = 5 then .inl (11, p_) else p_bi b_ n_ (A_.2.2.2.1 (40 * M_ + s_)) [cw 9 s_ 0] r_ := by
  unfold p_na; rw [if_neg (by omega), h1_, h_, Int.toNat_natCast]; show (if _ then _ else _) = _; rw [if_pos h2_, h3_]; show (if _ then _ else _) = _; rw [if_neg (by omega)]; exact if_pos h4_
theorem na_6 (h_ : p_fn b_ n_ A_ M_ p_ = (s_ : Int)) (h1_ : p_ad b_ n_ p_ = .inr q_) (h2_ : lx_kd b_ n_ q_ = 46) (h3_ : p_ad b_ n_ q_ = .inr r_) (h4_ : lx_kd b_ n_ r_ ≠ 1) (h5_ : lx_kd b_ n_ r_ ≠ 2) : p_na b_ n_ A_ M_ p_ = .inl (2, r_) := by
  unfold p_na; rw [if_neg (by omega), h1_, h_, Int.toNat_natCast]; show (if _ then _ else _) = _; rw [if_pos h2_, h3_]; show (if _ then _ else _) = _; rw [if_neg h4_]; exact if_neg h5_
theorem pa_1 {s_ : Int} (h_ : p_fn b_ n_ A_ d_ p_ = -1 ∨ A_.2.2.1 (40 * d_ + (p_fn b_ n_ A_ d_ p_).toNat) ≠ 1) : p_pa b_ n_ A_ s_ d_ p_ = .inl (11, p_) := by
  unfold p_pa; exact if_pos h_
theorem pa_2 {s_ : Int} (h_ : ¬ (p_fn b_ n_ A_ d_ p_ = -1 ∨ A_.2.2.1 (40 * d_ + (p_fn b_ n_ A_ d_ p_).toNat) ≠ 1)) (h1_ : p_ad b_ n_ p_ = .inl e_) : p_pa b_ n_ A_ s_ d_ p_ = .inl e_ := by
  unfold p_pa; rw [if_neg h_, h1_]; rfl
theorem pa_3 {s_ : Int} (h_ : ¬ (p_fn b_ n_ A_ d_ p_ = -1 ∨ A_.2.2.1 (40 * d_ + (p_fn b_ n_ A_ d_ p_).toNat) ≠ 1)) (h1_ : p_ad b_ n_ p_ = .inr q_) (h2_ : lx_kd b_ n_ q_ ≠ 46) : p_pa b_ n_ A_ s_ d_ p_ = .inr (q_, A_.2.2.2.1 (40 * d_ + (p_fn b_ n_ A_ d_ p_).toNat), [cw 10 s_ (p_fn b_ n_ A_ d_ p_)]) := by
  unfold p_pa; rw [if_neg h_, h1_]; exact if_neg h2_
theorem pa_4 {s_ : Int} (h_ : ¬ (p_fn b_ n_ A_ d_ p_ = -1 ∨ A_.2.2.1 (40 * d_ + (p_fn b_ n_ A_ d_ p_).toNat) ≠ 1)) (h1_ : p_ad b_ n_ p_ = .inr q_) (h2_ : lx_kd b_ n_ q_ = 46) (h3_ : p_ad b_ n_ q_ = .inl e_) : p_pa b_ n_ A_ s_ d_ p_ = .inl e_ := by
  unfold p_pa; rw [if_neg h_, h1_]; show (if _ then _ else _) = _; rw [if_pos h2_, h3_]; rfl
theorem pa_5 {s_ : Int} (h_ : ¬ (p_fn b_ n_ A_ d_ p_ = -1 ∨ A_.2.2.1 (40 * d_ + (p_fn b_ n_ A_ d_ p_).toNat) ≠ 1)) (h1_ : p_ad b_ n_ p_ = .inr q_) (h2_ : lx_kd b_ n_ q_ = 46) (h3_ : p_ad b_ n_ q_ = .inr r_) : p_pa b_ n_ A_ s_ d_ p_ = p_bi b_ n_ (A_.2.2.2.1 (40 * d_ + (p_fn b_ n_ A_ d_ p_).toNat)) [cw 10 s_ (p_fn b_ n_ A_ d_ p_)] r_ := by
  unfold p_pa; rw [if_neg h_, h1_]; show (if _ then _ else _) = _; rw [if_pos h2_, h3_]; rfl
end
/-! 99.x1 -/
section
/-! the class reader: names; written by wip/p55/gen/vg -/
/-! Text.packedName -/
def vw_189 : sx_Wl := ([], [], [])
def vq_189 (b_ : Nat → Int) (n_ : Nat) (p_ : Nat) (S0_ : sm_S) (u_ : Option sm_V) (S1_ : sm_S) : Prop := S0_ = S1_ ∧ ∃ v_ : Int, u_ = some (.inl v_) ∧ (v_ = (16 * p_ + lx_sz b_ n_ p_ : Nat))
theorem vc_189 {sc_ : Nat × (Nat → Int)} (b_ : Nat → Int) (n_ : Nat) (p_ : Nat) (S0_ : sm_S) (hI_ : gi S0_) (hc_ : ct b_ n_ p_ S0_) (hk_ : lx_kd b_ n_ p_ = 1) : sm_T (mt_P sc_) 0 189 (0, [some (.inr (.inr (some (10, 0))))], [], S0_) (fun r_ => ∃ u_ S1_, r_ = (.inl u_, S1_, 0) ∧ vq_189 b_ n_ p_ S0_ u_ S1_) := by
  have hF_ : ai_fr (sx_W vw_189) S0_ S0_ := ai_fr_rf
  have hz_ := nmp_sz (b_ := b_) (n_ := n_) (p_ := p_) ⟨hc_.2.2.2.1, hk_⟩
  have e3_ := hc_.2.2.2.2.2.1
  have e4_ := hc_.2.2.2.2.2.2.2.2.1
  have hn1_ := hc_.2.2.1
  have b1_ : 0 ≤ S0_.1 10 0 3 ∧ S0_.1 10 0 3 ≤ 1280 := hI_.1 10 0 3 rfl
  refine sm_T_go 3 (c1 := (5, [some (.inr (.inr (some (10, 0))))], [.inl 4, .inl (S0_.1 10 0 3)], S0_)) rfl ?_
  refine sm_T_bin (w := 16 * (S0_.1 10 0 3)) rfl (bi_shl (k := 4) (by decide) (by omega) (by omega) (by omega)) ?_
  have b2_ : 0 ≤ S0_.1 10 0 4 ∧ S0_.1 10 0 4 ≤ 1280 := hI_.1 10 0 4 rfl
  refine sm_T_go 2 (c1 := (10, [some (.inr (.inr (some (10, 0))))], [.inl (S0_.1 10 0 4), .inl (16 * (S0_.1 10 0 3))], S0_)) rfl ?_
  refine sm_T_bin (w := (i_or (16 * (S0_.1 10 0 3)) (S0_.1 10 0 4))) rfl rfl ?_
  have b3_ : (i_or (16 * (S0_.1 10 0 3)) (S0_.1 10 0 4)) = (16 * (S0_.1 10 0 3)) + (S0_.1 10 0 4) := i_or_add (s := 4) (by omega) (by omega) (by omega) (by omega) ⟨S0_.1 10 0 3, by omega⟩
  refine sm_T_ri rfl ⟨_, _, rfl, rfl, _, rfl, ?_⟩
  push_cast
  omega
/-! Text.sameNames -/
def vw_190 : sx_Wl := ([], [], [])
def vq_190 (x_ : Int) (y_ : Int) (b_ : Nat → Int) (n_ : Nat) (p_ : Nat) (q_ : Nat) (S0_ : sm_S) (u_ : Option sm_V) (S1_ : sm_S) : Prop := S0_ = S1_ ∧ ∃ v_ : Int, u_ = some (.inl v_) ∧ (v_ = if nm_q b_ n_ p_ q_ = true then 1 else 0)
theorem vl_190 {sc_ : Nat × (Nat → Int)} (x_ : Int) (y_ : Int) (b_ : Nat → Int) (n_ : Nat) (p_ : Nat) (q_ : Nat) (S0_ : sm_S) (hb_ : S0_.2.2.1 98 0 = b_) (hn1_ : n_ ≤ 1280) (hx_ : x_ = (16 * p_ + lx_sz b_ n_ p_ : Nat)) (hy_ : y_ = (16 * q_ + lx_sz b_ n_ q_ : Nat)) (hp_ : nmp b_ n_ p_) (hq_ : nmp b_ n_ q_) : ∀ nn_ : Nat, (∀ (l_ : Int) (u_ : Int) (w_ : Int) (k_ : Int) (S_ : sm_S), gi S_ → ai_fr (sx_W vw_190) S0_ S_ → ((l_ = (lx_sz b_ n_ p_ : Int) ∧ lx_sz b_ n_ p_ = lx_sz b_ n_ q_ ∧ u_ = (p_ : Int) ∧ w_ = (q_ : Int)) ∧ (0 ≤ k_ ∧ k_ ≤ l_) ∧ (∀ j_ : Nat, j_ < k_.toNat → b_ (p_ + j_) = b_ (q_ + j_)) ∧ (S_ = S0_) ∧ True) → ((l_ - k_).toNat) < nn_ → sm_T (mt_P sc_) 0 190 (28, [some (.inr (.inr (some (10, 0)))), some (.inl x_), some (.inl y_), some (.inl l_), some (.inl u_), some (.inl w_), some (.inl k_)], [], S_) (fun r_ => ∃ u_ S1_, r_ = (.inl u_, S1_, 0) ∧ vq_190 x_ y_ b_ n_ p_ q_ S0_ u_ S1_)) := by
  intro nn_
  induction nn_ with
  | zero => exact fun _ _ _ _ _ _ _ _ h_ => absurd h_ (Nat.not_lt_zero _)
  | succ nn_ ih_ =>
    rintro l_ u_ w_ k_ S_ hI_ hF_ ⟨h0_, h1_, h2_, hS_, -⟩ hm_
    have zp_ := nmp_sz hp_
    have zq_ := nmp_sz hq_
    have hb1_ : S_.2.2.1 98 0 = b_ := by rw [hS_]; exact hb_
    have e1_ : (u_ + k_).toNat = p_ + k_.toNat := by omega
    have e2_ : (w_ + k_).toNat = q_ + k_.toNat := by omega
    refine sm_T_go 2 (c1 := (31, [some (.inr (.inr (some (10, 0)))), some (.inl x_), some (.inl y_), some (.inl l_), some (.inl u_), some (.inl w_), some (.inl k_)], [.inl l_, .inl k_], S_)) rfl ?_
    refine sm_T_br (a := 3) (z := 34) rfl (fun c1_ => ?_) (fun c1_ => ?_)
    · have c1_ : l_ ≤ k_ := of_decide_eq_true c1_
      refine sm_T_go 1 (c1 := (66, [some (.inr (.inr (some (10, 0)))), some (.inl x_), some (.inl y_), some (.inl l_), some (.inl u_), some (.inl w_), some (.inl k_)], [.inl 1], S_)) rfl ?_
      refine sm_T_rz rfl (by omega) ⟨_, _, rfl, (by first | rfl | exact hS_.symm), _, rfl, ?_⟩
      rw [if_pos]
      rw [nm_q_t]
      exact ⟨h0_.2.1, fun j_ hj_ => h2_ j_ (by omega)⟩
    · have c1_ : ¬ (l_ ≤ k_) := of_decide_eq_false c1_
      refine sm_T_go 4 (c1 := (42, [some (.inr (.inr (some (10, 0)))), some (.inl x_), some (.inl y_), some (.inl l_), some (.inl u_), some (.inl w_), some (.inl k_)], [.inl k_, .inl u_, .inr (.inr (some (98, 0)))], S_)) rfl ?_
      refine sm_T_bin (w := u_ + k_) rfl (bi_add (by omega) (by omega) (by omega)) ?_
      refine sm_T_bald (n := 65536) rfl rfl (by omega) (by omega) ?_
      have b2_ : (-128) ≤ S_.2.2.1 98 0 (u_ + k_).toNat ∧ S_.2.2.1 98 0 (u_ + k_).toNat ≤ 127 := hI_.2 98 0 _
      refine sm_T_go 4 (c1 := (52, [some (.inr (.inr (some (10, 0)))), some (.inl x_), some (.inl y_), some (.inl l_), some (.inl u_), some (.inl w_), some (.inl k_)], [.inl k_, .inl w_, .inr (.inr (some (98, 0))), .inl (S_.2.2.1 98 0 (u_ + k_).toNat)], S_)) rfl ?_
      refine sm_T_bin (w := w_ + k_) rfl (bi_add (by omega) (by omega) (by omega)) ?_
      refine sm_T_bald (n := 65536) rfl rfl (by omega) (by omega) ?_
      have b3_ : (-128) ≤ S_.2.2.1 98 0 (w_ + k_).toNat ∧ S_.2.2.1 98 0 (w_ + k_).toNat ≤ 127 := hI_.2 98 0 _
      refine sm_T_br (a := 0) (z := 5) rfl (fun c4_ => ?_) (fun c4_ => ?_)
      · have c4_ : (S_.2.2.1 98 0 (u_ + k_).toNat) = (S_.2.2.1 98 0 (w_ + k_).toNat) := of_decide_eq_true c4_
        refine sm_T_inc (a := 6) (z := 1) (v := k_) (w := k_ + 1) rfl rfl (by omega) (by omega) (by omega) ?_
        refine sm_T_go 1 (c1 := (28, [some (.inr (.inr (some (10, 0)))), some (.inl x_), some (.inl y_), some (.inl l_), some (.inl u_), some (.inl w_), some (.inl (k_ + 1))], [], S_)) rfl ?_
        refine ih_ l_ u_ w_ (k_ + 1) S_ hI_ hF_ ⟨?_, ?_, ?_, ?_, trivial⟩ ?_
        · exact h0_
        · omega
        · intro j_ hj_
          by_cases g_ : j_ < k_.toNat
          · exact h2_ j_ g_
          · have : j_ = k_.toNat := by omega
            rw [e1_, e2_, hb1_] at c4_
            rw [this]
            exact c4_
        · first | rfl | exact hS_
        · omega
      · have c4_ : ¬ ((S_.2.2.1 98 0 (u_ + k_).toNat) = (S_.2.2.1 98 0 (w_ + k_).toNat)) := of_decide_eq_false c4_
        refine sm_T_go 1 (c1 := (58, [some (.inr (.inr (some (10, 0)))), some (.inl x_), some (.inl y_), some (.inl l_), some (.inl u_), some (.inl w_), some (.inl k_)], [.inl 0], S_)) rfl ?_
        refine sm_T_rz rfl (by omega) ⟨_, _, rfl, (by first | rfl | exact hS_.symm), _, rfl, ?_⟩
        rw [if_neg]
        rw [nm_q_t]
        intro z_
        have z1_ := z_.2 k_.toNat (by omega)
        rw [e1_, e2_, hb1_] at c4_
        exact c4_ z1_
theorem vc_190 {sc_ : Nat × (Nat → Int)} (x_ : Int) (y_ : Int) (b_ : Nat → Int) (n_ : Nat) (p_ : Nat) (q_ : Nat) (S0_ : sm_S) (hI_ : gi S0_) (hb_ : S0_.2.2.1 98 0 = b_) (hn1_ : n_ ≤ 1280) (hx_ : x_ = (16 * p_ + lx_sz b_ n_ p_ : Nat)) (hy_ : y_ = (16 * q_ + lx_sz b_ n_ q_ : Nat)) (hp_ : nmp b_ n_ p_) (hq_ : nmp b_ n_ q_) : sm_T (mt_P sc_) 0 190 (0, [some (.inr (.inr (some (10, 0)))), some (.inl x_), some (.inl y_), none, none, none, none], [], S0_) (fun r_ => ∃ u_ S1_, r_ = (.inl u_, S1_, 0) ∧ vq_190 x_ y_ b_ n_ p_ q_ S0_ u_ S1_) := by
  have hF_ : ai_fr (sx_W vw_190) S0_ S0_ := ai_fr_rf
  have zp_ := nmp_sz hp_
  have zq_ := nmp_sz hq_
  refine sm_T_go 2 (c1 := (3, [some (.inr (.inr (some (10, 0)))), some (.inl x_), some (.inl y_), none, none, none, none], [.inl 15, .inl x_], S0_)) rfl ?_
  refine sm_T_bin (w := (x_ % 16)) rfl (bi_msk (k := 4) (by decide)) ?_
  refine sm_T_go 4 (c1 := (9, [some (.inr (.inr (some (10, 0)))), some (.inl x_), some (.inl y_), some (.inl (x_ % 16)), none, none, none], [.inl 15, .inl y_, .inl (x_ % 16)], S0_)) rfl ?_
  refine sm_T_bin (w := (y_ % 16)) rfl (bi_msk (k := 4) (by decide)) ?_
  refine sm_T_br (a := 0) (z := 5) rfl (fun c1_ => ?_) (fun c1_ => ?_)
  · have c1_ : (x_ % 16) = (y_ % 16) := of_decide_eq_true c1_
    refine sm_T_go 2 (c1 := (17, [some (.inr (.inr (some (10, 0)))), some (.inl x_), some (.inl y_), some (.inl (x_ % 16)), none, none, none], [.inl 4, .inl x_], S0_)) rfl ?_
    refine sm_T_bin (w := (x_ / 16)) rfl (bi_shr (k := 4) (by decide) (by omega) (by omega)) ?_
    refine sm_T_go 3 (c1 := (22, [some (.inr (.inr (some (10, 0)))), some (.inl x_), some (.inl y_), some (.inl (x_ % 16)), some (.inl (x_ / 16)), none, none], [.inl 4, .inl y_], S0_)) rfl ?_
    refine sm_T_bin (w := (y_ / 16)) rfl (bi_shr (k := 4) (by decide) (by omega) (by omega)) ?_
    refine sm_T_go 3 (c1 := (28, [some (.inr (.inr (some (10, 0)))), some (.inl x_), some (.inl y_), some (.inl (x_ % 16)), some (.inl (x_ / 16)), some (.inl (y_ / 16)), some (.inl 0)], [], S0_)) rfl ?_
    refine (vl_190 x_ y_ b_ n_ p_ q_ S0_ hb_ hn1_ hx_ hy_ hp_ hq_ _) (x_ % 16) (x_ / 16) (y_ / 16) 0 S0_ hI_ hF_ ⟨?_, ?_, ?_, ?_, trivial⟩ (Nat.lt_succ_self _)
    · refine ⟨?_, ?_, ?_, ?_⟩ <;> omega
    · omega
    · intro j_ hj_; omega
    · first | rfl | exact hS_
  · have c1_ : ¬ ((x_ % 16) = (y_ % 16)) := of_decide_eq_false c1_
    refine sm_T_go 1 (c1 := (14, [some (.inr (.inr (some (10, 0)))), some (.inl x_), some (.inl y_), some (.inl (x_ % 16)), none, none, none], [.inl 0], S0_)) rfl ?_
    refine sm_T_rz rfl (by omega) ⟨_, _, rfl, (by first | rfl | exact hS_.symm), _, rfl, ?_⟩
    rw [if_neg]
    rw [nm_q_t]
    intro z_
    omega
/-! Reader.find -/
def vw_119 : sx_Wl := ([], [], [])
def vq_119 (m_ : Int) (y_ : Int) (b_ : Nat → Int) (n_ : Nat) (mm_ : Nat) (K_ : Nat) (f_ : Nat → Nat) (q_ : Nat) (S0_ : sm_S) (u_ : Option sm_V) (S1_ : sm_S) : Prop := S0_ = S1_ ∧ ∃ v_ : Int, u_ = some (.inl v_) ∧ (v_ = p_fd (fun s_ => nm_q b_ n_ (f_ s_) q_) K_)
theorem vl_119 {sc_ : Nat × (Nat → Int)} (m_ : Int) (y_ : Int) (b_ : Nat → Int) (n_ : Nat) (mm_ : Nat) (K_ : Nat) (f_ : Nat → Nat) (q_ : Nat) (S0_ : sm_S) (hb_ : S0_.2.2.1 98 0 = b_) (hn1_ : n_ ≤ 1280) (hm_ : m_ = (mm_ : Int)) (hr_ : nmr b_ n_ mm_ K_ f_ S0_) (hy_ : y_ = (16 * q_ + lx_sz b_ n_ q_ : Nat)) (hq_ : nmp b_ n_ q_) : ∀ nn_ : Nat, (∀ (s_ : Int) (S_ : sm_S), gi S_ → ai_fr (sx_W vw_119) S0_ S_ → ((0 ≤ s_ ∧ s_ ≤ (K_ : Int)) ∧ (p_fd (fun s_ => nm_q b_ n_ (f_ s_) q_) s_.toNat = -1) ∧ (S_ = S0_) ∧ True) → (((K_ : Int) - s_).toNat) < nn_ → sm_T (mt_P sc_) 1 119 (2, [some (.inr (.inr (some (7, 0)))), some (.inl m_), some (.inl y_), some (.inl s_)], [], S_) (fun r_ => ∃ u_ S1_, r_ = (.inl u_, S1_, 0) ∧ vq_119 m_ y_ b_ n_ mm_ K_ f_ q_ S0_ u_ S1_)) := by
  intro nn_
  induction nn_ with
  | zero => exact fun _ _ _ _ _ h_ => absurd h_ (Nat.not_lt_zero _)
  | succ nn_ ih_ =>
    rintro s_ S_ hI_ hF_ ⟨h0_, h1_, hS_, -⟩ hm_
    have hb1_ : S_.2.2.1 98 0 = b_ := by rw [hS_]; exact hb_
    obtain ⟨r1_, r2_, r3_, r4_⟩ := hr_
    have hK_ : S_.2.2.1 77 0 m_.toNat = (K_ : Int) := by rw [hS_, show m_.toNat = mm_ by omega]; exact r1_
    refine sm_T_go 4 (c1 := (8, [some (.inr (.inr (some (7, 0)))), some (.inl m_), some (.inl y_), some (.inl s_)], [.inl m_, .inr (.inr (some (77, 0))), .inl s_], S_)) rfl ?_
    refine sm_T_iald (n := 17) rfl rfl (by omega) (by omega) ?_
    have b1_ : 0 ≤ S_.2.2.1 77 0 m_.toNat ∧ S_.2.2.1 77 0 m_.toNat ≤ 40 := hI_.2 77 0 _
    refine sm_T_br (a := 3) (z := 33) rfl (fun c2_ => ?_) (fun c2_ => ?_)
    · have c2_ : (S_.2.2.1 77 0 m_.toNat) ≤ s_ := of_decide_eq_true c2_
      refine sm_T_go 1 (c1 := (43, [some (.inr (.inr (some (7, 0)))), some (.inl m_), some (.inl y_), some (.inl s_)], [.inl (-1)], S_)) rfl ?_
      refine sm_T_ri rfl ⟨_, _, rfl, (by first | rfl | exact hS_.symm), _, rfl, ?_⟩
      rw [show K_ = s_.toNat by omega]
      exact h1_.symm
    · have c2_ : ¬ ((S_.2.2.1 77 0 m_.toNat) ≤ s_) := of_decide_eq_false c2_
      refine sm_T_go 6 (c1 := (23, [some (.inr (.inr (some (7, 0)))), some (.inl m_), some (.inl y_), some (.inl s_)], [.inl 40, .inl m_, .inr (.inr (some (78, 0))), .inr (.inr (some (10, 0)))], S_)) rfl ?_
      refine sm_T_bin (w := 40 * m_) rfl (bi_mul (by omega) (by omega) (by omega)) ?_
      refine sm_T_go 1 (c1 := (25, [some (.inr (.inr (some (7, 0)))), some (.inl m_), some (.inl y_), some (.inl s_)], [.inl s_, .inl (40 * m_), .inr (.inr (some (78, 0))), .inr (.inr (some (10, 0)))], S_)) rfl ?_
      refine sm_T_bin (w := 40 * m_ + s_) rfl (bi_add (by omega) (by omega) (by omega)) ?_
      refine sm_T_iald (n := 640) rfl rfl (by omega) (by omega) ?_
      have b3_ : 0 ≤ S_.2.2.1 78 0 (40 * m_ + s_).toNat ∧ S_.2.2.1 78 0 (40 * m_ + s_).toNat ≤ 65535 := hI_.2 78 0 _
      refine sm_T_go 1 (c1 := (28, [some (.inr (.inr (some (7, 0)))), some (.inl m_), some (.inl y_), some (.inl s_)], [.inl y_, .inl (S_.2.2.1 78 0 (40 * m_ + s_).toNat), .inr (.inr (some (10, 0)))], S_)) rfl ?_
      refine sm_T_cal (d1 := 0) (Q1 := vq_190 (S_.2.2.1 78 0 (40 * m_ + s_).toNat) y_ b_ n_ (f_ s_.toNat) q_ S_) rfl rfl (by decide) (vc_190 (S_.2.2.1 78 0 (40 * m_ + s_).toNat) y_ b_ n_ (f_ s_.toNat) q_ S_ hI_ (by exact hb1_) (by exact hn1_) (by rw [hS_, show (40 * m_ + s_).toNat = 40 * mm_ + s_.toNat by omega]; exact (r4_ s_.toNat (by omega)).1) (by exact hy_) (by exact (r4_ s_.toNat (by omega)).2) (by exact hq_)) (fun u_ S4_ p7_ => ?_)
      obtain ⟨rfl, v9_, rfl, p7_⟩ := p7_
      have e28_ := p7_
      refine sm_T_b0 (a := 0) (z := 5) rfl (fun c10_ => ?_) (fun c10_ => ?_)
      · have c10_ : v9_ = 0 := of_decide_eq_true c10_
        refine sm_T_inc (a := 3) (z := 1) (v := s_) (w := s_ + 1) rfl rfl (by omega) (by omega) (by omega) ?_
        refine sm_T_go 1 (c1 := (2, [some (.inr (.inr (some (7, 0)))), some (.inl m_), some (.inl y_), some (.inl (s_ + 1))], [], S_)) rfl ?_
        refine ih_ (s_ + 1) S_ hI_ hF_ ⟨?_, ?_, ?_, trivial⟩ ?_
        · omega
        · rw [show (s_ + 1).toNat = s_.toNat + 1 by omega]
          refine p_fd_nx h1_ ?_
          by_cases g_ : nm_q b_ n_ (f_ s_.toNat) q_ = true
          · rw [if_pos g_] at e28_
            omega
          · exact Bool.eq_false_iff.mpr g_
        · first | rfl | exact hS_
        · omega
      · have c10_ : ¬ (v9_ = 0) := of_decide_eq_false c10_
        refine sm_T_go 1 (c1 := (35, [some (.inr (.inr (some (7, 0)))), some (.inl m_), some (.inl y_), some (.inl s_)], [.inl s_], S_)) rfl ?_
        refine sm_T_ri rfl ⟨_, _, rfl, (by first | rfl | exact hS_.symm), _, rfl, ?_⟩
        rw [p_fd_go h1_ ?_ (show s_.toNat < K_ by omega)]
        · omega
        · by_cases g_ : nm_q b_ n_ (f_ s_.toNat) q_ = true
          · exact g_
          · rw [if_neg g_] at e28_
            omega
theorem vc_119 {sc_ : Nat × (Nat → Int)} (m_ : Int) (y_ : Int) (b_ : Nat → Int) (n_ : Nat) (mm_ : Nat) (K_ : Nat) (f_ : Nat → Nat) (q_ : Nat) (S0_ : sm_S) (hI_ : gi S0_) (hb_ : S0_.2.2.1 98 0 = b_) (hn1_ : n_ ≤ 1280) (hm_ : m_ = (mm_ : Int)) (hr_ : nmr b_ n_ mm_ K_ f_ S0_) (hy_ : y_ = (16 * q_ + lx_sz b_ n_ q_ : Nat)) (hq_ : nmp b_ n_ q_) : sm_T (mt_P sc_) 1 119 (0, [some (.inr (.inr (some (7, 0)))), some (.inl m_), some (.inl y_), none], [], S0_) (fun r_ => ∃ u_ S1_, r_ = (.inl u_, S1_, 0) ∧ vq_119 m_ y_ b_ n_ mm_ K_ f_ q_ S0_ u_ S1_) := by
  have hF_ : ai_fr (sx_W vw_119) S0_ S0_ := ai_fr_rf
  refine sm_T_go 2 (c1 := (2, [some (.inr (.inr (some (7, 0)))), some (.inl m_), some (.inl y_), some (.inl 0)], [], S0_)) rfl ?_
  refine (vl_119 m_ y_ b_ n_ mm_ K_ f_ q_ S0_ hb_ hn1_ hm_ hr_ hy_ hq_ _) 0 S0_ hI_ hF_ ⟨?_, ?_, ?_, trivial⟩ (Nat.lt_succ_self _)
  · omega
  · rfl
  · first | rfl | exact hS_

def p_nn (b_ : Nat → Int) (n_ K_ : Nat) (f_ : Nat → Nat) (w_ : Int) (p_ : Nat) : pE Nat := if lx_kd b_ n_ p_ = 1 then (if p_fd (fun s_ => nm_q b_ n_ (f_ s_) p_) K_ = -1 then (if (K_ : Int) = w_ then .inl (15, p_) else p_ad b_ n_ p_) else .inl (10, p_)) else .inl (2, p_)
/-! Reader.newName -/
def vw_120 : sx_Wl := ([(10, 2), (10, 3), (10, 4), (10, 5), (10, 6), (10, 7), (10, 8)], [], [])
def vq_120 (m_ : Int) (w_ : Int) (b_ : Nat → Int) (n_ : Nat) (p_ : Nat) (mm_ : Nat) (K_ : Nat) (f_ : Nat → Nat) (S0_ : sm_S) (u_ : Option sm_V) (S1_ : sm_S) : Prop := ∃ v_ : Int, u_ = some (.inl v_) ∧ gi S1_ ∧ ai_fr (sx_W vw_120) S0_ S1_ ∧ (v_ = (16 * p_ + lx_sz b_ n_ p_ : Nat) ∧ lx_kd b_ n_ p_ = 1 ∧ ∃ r_, p_nn b_ n_ K_ f_ w_ p_ = .inr r_ ∧ ct b_ n_ r_ S1_)
def vx_120 (m_ : Int) (w_ : Int) (b_ : Nat → Int) (n_ : Nat) (p_ : Nat) (mm_ : Nat) (K_ : Nat) (f_ : Nat → Nat) (S0_ : sm_S) (S1_ : sm_S) : Prop := gi S1_ ∧ ai_fr (sx_W vw_120) S0_ S1_ ∧ (∃ e_, p_nn b_ n_ K_ f_ w_ p_ = .inl e_ ∧ ter S1_ e_)
theorem vc_120 {sc_ : Nat × (Nat → Int)} (m_ : Int) (w_ : Int) (b_ : Nat → Int) (n_ : Nat) (p_ : Nat) (mm_ : Nat) (K_ : Nat) (f_ : Nat → Nat) (S0_ : sm_S) (hI_ : gi S0_) (hc_ : ct b_ n_ p_ S0_) (hm_ : m_ = (mm_ : Int)) (hr_ : nmr b_ n_ mm_ K_ f_ S0_) : sm_T (mt_P sc_) 2 120 (0, [some (.inr (.inr (some (7, 0)))), some (.inl m_), some (.inl w_), none], [], S0_) (fun r_ => (∃ u_ S1_, r_ = (.inl u_, S1_, 0) ∧ vq_120 m_ w_ b_ n_ p_ mm_ K_ f_ S0_ u_ S1_) ∨ ∃ S1_, r_ = (.inr 2, S1_, 1) ∧ vx_120 m_ w_ b_ n_ p_ mm_ K_ f_ S0_ S1_) := by
  have hF_ : ai_fr (sx_W vw_120) S0_ S0_ := ai_fr_rf
  obtain ⟨hb_, hn_, hn1_, hpn_, hk_, hst_, hnx_, hkd_, hsz_, hvl_⟩ := id hc_
  obtain ⟨r1_, r2_, r3_, r4_⟩ := id hr_
  have hK_ : S0_.2.2.1 77 0 m_.toNat = (K_ : Int) := by rw [show m_.toNat = mm_ by omega]; exact r1_
  have b1_ : (-128) ≤ S0_.1 10 0 2 ∧ S0_.1 10 0 2 ≤ 257 := hI_.1 10 0 2 rfl
  refine sm_T_go 4 (c1 := (8, [some (.inr (.inr (some (7, 0)))), some (.inl m_), some (.inl w_), none], [.inl 1, .inl (S0_.1 10 0 2)], S0_)) rfl ?_
  refine sm_T_br (a := 0) (z := 18) rfl (fun c2_ => ?_) (fun c2_ => ?_)
  · have c2_ : (S0_.1 10 0 2) = 1 := of_decide_eq_true c2_
    refine sm_T_go 2 (c1 := (30, [some (.inr (.inr (some (7, 0)))), some (.inl m_), some (.inl w_), none], [.inr (.inr (some (10, 0)))], S0_)) rfl ?_
    refine sm_T_cal (d1 := 0) (Q1 := vq_189 b_ n_ p_ S0_) rfl rfl (by decide) (vc_189 b_ n_ p_ S0_ hI_ (by exact hc_) (by omega)) (fun u_ S3_ p6_ => ?_)
    obtain ⟨rfl, v8_, rfl, p6_⟩ := p6_
    have e30_ := p6_
    have hk1_ : lx_kd b_ n_ p_ = 1 := by omega
    refine sm_T_go 4 (c1 := (37, [some (.inr (.inr (some (7, 0)))), some (.inl m_), some (.inl w_), some (.inl v8_)], [.inl v8_, .inl m_, .inr (.inr (some (7, 0)))], S0_)) rfl ?_
    refine sm_T_cal (d1 := 1) (Q1 := vq_119 m_ v8_ b_ n_ mm_ K_ f_ p_ S0_) rfl rfl (by decide) (vc_119 m_ v8_ b_ n_ mm_ K_ f_ p_ S0_ hI_ (by exact hb_) (by exact hn1_) (by exact hm_) (by exact hr_) (by exact e30_) (by exact ⟨hpn_, hk1_⟩)) (fun u_ S9_ p12_ => ?_)
    obtain ⟨rfl, v14_, rfl, p12_⟩ := p12_
    have e37_ := p12_
    refine sm_T_go 1 (c1 := (41, [some (.inr (.inr (some (7, 0)))), some (.inl m_), some (.inl w_), some (.inl v8_)], [.inl (-1), .inl v14_], S0_)) rfl ?_
    refine sm_T_br (a := 0) (z := 19) rfl (fun c15_ => ?_) (fun c15_ => ?_)
    · have c15_ : v14_ = (-1) := of_decide_eq_true c15_
      refine sm_T_go 3 (c1 := (65, [some (.inr (.inr (some (7, 0)))), some (.inl m_), some (.inl w_), some (.inl v8_)], [.inl m_, .inr (.inr (some (77, 0)))], S0_)) rfl ?_
      refine sm_T_iald (n := 17) rfl rfl (by omega) (by omega) ?_
      have b16_ : 0 ≤ S0_.2.2.1 77 0 m_.toNat ∧ S0_.2.2.1 77 0 m_.toNat ≤ 40 := hI_.2 77 0 _
      refine sm_T_go 1 (c1 := (67, [some (.inr (.inr (some (7, 0)))), some (.inl m_), some (.inl w_), some (.inl v8_)], [.inl w_, .inl (S0_.2.2.1 77 0 m_.toNat)], S0_)) rfl ?_
      refine sm_T_br (a := 1) (z := 19) rfl (fun c17_ => ?_) (fun c17_ => ?_)
      · have c17_ : (S0_.2.2.1 77 0 m_.toNat) ≠ w_ := of_decide_eq_true c17_
        refine sm_T_go 2 (c1 := (90, [some (.inr (.inr (some (7, 0)))), some (.inl m_), some (.inl w_), some (.inl v8_)], [.inr (.inr (some (10, 0)))], S0_)) rfl ?_
        refine sm_T_calx (d1 := 1) (Q1 := vq_191 b_ n_ (lx_en b_ n_ p_) S0_) (Q2 := vx_191 b_ n_ (lx_en b_ n_ p_) S0_) rfl rfl (by decide) (vc_191 b_ n_ (lx_en b_ n_ p_) S0_ hI_ (by exact hc_.1) (by exact hc_.2.1) (by exact hc_.2.2.1) (by exact hc_.2.2.2.2.2.2.1) (by exact (lx_en_le (b := b_) hc_.2.2.2.1).2)) rfl (fun S18_ p21_ => ?_) (fun u_ S18_ p21_ => ?_)
        · obtain ⟨hI19_, hF20_, p21_⟩ := p21_
          refine Or.inr ⟨_, rfl, hI19_, ai_fr_tr hF_ (fr_le hF20_ rfl), ?_⟩
          refine ⟨(1, lx_nx b_ n_ p_), ?_, p21_.2⟩
          unfold p_nn p_ad lx_nx; rw [if_pos hk1_, if_pos (by omega), if_neg (by omega), if_pos p21_.1]
        obtain ⟨rfl, hI19_, hF20_, p21_⟩ := p21_
        have hF22_ : ai_fr (sx_W vw_120) S0_ S18_ := ai_fr_tr hF_ (fr_le hF20_ rfl)
        have hct_ := p21_
        refine sm_T_go 1 (c1 := (94, [some (.inr (.inr (some (7, 0)))), some (.inl m_), some (.inl w_), some (.inl v8_)], [.inl v8_], S18_)) rfl ?_
        refine sm_T_ri rfl (Or.inl ⟨_, _, rfl, _, rfl, hI19_, hF22_, ?_⟩)
        exact ⟨e30_, hk1_, lx_nx b_ n_ p_, by unfold p_nn p_ad lx_nx; rw [if_pos hk1_, if_pos (by omega), if_neg (by omega), if_neg hct_.2.2.2.2.1], hct_⟩
      · have c17_ : ¬ ((S0_.2.2.1 77 0 m_.toNat) ≠ w_) := of_decide_eq_false c17_
        have b23_ : 0 ≤ S0_.1 10 0 3 ∧ S0_.1 10 0 3 ≤ 1280 := hI_.1 10 0 3 rfl
        refine sm_T_go 6 (c1 := (83, [some (.inr (.inr (some (7, 0)))), some (.inl m_), some (.inl w_), some (.inl v8_)], [.inl (S0_.1 10 0 3), .inl 15, .inr (.inr (some (10, 0)))], S0_)) rfl ?_
        refine sm_T_calx (d1 := 0) (Q1 := vq_187 15 (S0_.1 10 0 3) S0_) (Q2 := vx_187 15 (S0_.1 10 0 3) S0_) rfl rfl (by decide) (vc_187 15 (S0_.1 10 0 3) S0_ hI_ (by decide) (by omega)) rfl (fun S24_ p27_ => ?_) (fun u_ S24_ p27_ => ?_)
        · obtain ⟨hI25_, hF26_, p27_⟩ := p27_
          refine Or.inr ⟨_, rfl, hI25_, ai_fr_tr hF_ (fr_le hF26_ rfl), ?_⟩
          refine ⟨(15, p_), ?_, p27_.1, p27_.2.trans hst_⟩
          unfold p_nn; rw [if_pos hk1_, if_pos (by omega), if_pos (by omega)]
        · exact (p27_.2.2.2).elim
    · have c15_ : ¬ (v14_ = (-1)) := of_decide_eq_false c15_
      have b29_ : 0 ≤ S0_.1 10 0 3 ∧ S0_.1 10 0 3 ≤ 1280 := hI_.1 10 0 3 rfl
      refine sm_T_go 6 (c1 := (57, [some (.inr (.inr (some (7, 0)))), some (.inl m_), some (.inl w_), some (.inl v8_)], [.inl (S0_.1 10 0 3), .inl 10, .inr (.inr (some (10, 0)))], S0_)) rfl ?_
      refine sm_T_calx (d1 := 0) (Q1 := vq_187 10 (S0_.1 10 0 3) S0_) (Q2 := vx_187 10 (S0_.1 10 0 3) S0_) rfl rfl (by decide) (vc_187 10 (S0_.1 10 0 3) S0_ hI_ (by decide) (by omega)) rfl (fun S30_ p33_ => ?_) (fun u_ S30_ p33_ => ?_)
      · obtain ⟨hI31_, hF32_, p33_⟩ := p33_
        refine Or.inr ⟨_, rfl, hI31_, ai_fr_tr hF_ (fr_le hF32_ rfl), ?_⟩
        refine ⟨(10, p_), ?_, p33_.1, p33_.2.trans hst_⟩
        unfold p_nn; rw [if_pos hk1_, if_neg (by omega)]
      · exact (p33_.2.2.2).elim
  · have c2_ : ¬ ((S0_.1 10 0 2) = 1) := of_decide_eq_false c2_
    have b35_ : 0 ≤ S0_.1 10 0 3 ∧ S0_.1 10 0 3 ≤ 1280 := hI_.1 10 0 3 rfl
    refine sm_T_go 6 (c1 := (23, [some (.inr (.inr (some (7, 0)))), some (.inl m_), some (.inl w_), none], [.inl (S0_.1 10 0 3), .inl 2, .inr (.inr (some (10, 0)))], S0_)) rfl ?_
    refine sm_T_calx (d1 := 0) (Q1 := vq_187 2 (S0_.1 10 0 3) S0_) (Q2 := vx_187 2 (S0_.1 10 0 3) S0_) rfl rfl (by decide) (vc_187 2 (S0_.1 10 0 3) S0_ hI_ (by decide) (by omega)) rfl (fun S36_ p39_ => ?_) (fun u_ S36_ p39_ => ?_)
    · obtain ⟨hI37_, hF38_, p39_⟩ := p39_
      refine Or.inr ⟨_, rfl, hI37_, ai_fr_tr hF_ (fr_le hF38_ rfl), ?_⟩
      refine ⟨(2, p_), ?_, p39_.1, p39_.2.trans hst_⟩
      unfold p_nn; rw [if_neg (by omega)]
    · exact (p39_.2.2.2).elim
/-! Reader.numberAtHand -/
def vw_122 : sx_Wl := ([(10, 6), (10, 7)], [], [])
def vq_122 (lo_ : Int) (hi_ : Int) (b_ : Nat → Int) (n_ : Nat) (p_ : Nat) (S0_ : sm_S) (u_ : Option sm_V) (S1_ : sm_S) : Prop := ∃ v_ : Int, u_ = some (.inl v_) ∧ gi S1_ ∧ ai_fr (sx_W vw_122) S0_ S1_ ∧ (p_nu b_ n_ lo_ hi_ p_ = .inr v_)
def vx_122 (lo_ : Int) (hi_ : Int) (b_ : Nat → Int) (n_ : Nat) (p_ : Nat) (S0_ : sm_S) (S1_ : sm_S) : Prop := gi S1_ ∧ ai_fr (sx_W vw_122) S0_ S1_ ∧ (∃ e_, p_nu b_ n_ lo_ hi_ p_ = .inl e_ ∧ ter S1_ e_)
theorem vc_122 {sc_ : Nat × (Nat → Int)} (lo_ : Int) (hi_ : Int) (b_ : Nat → Int) (n_ : Nat) (p_ : Nat) (S0_ : sm_S) (hI_ : gi S0_) (hc_ : ct b_ n_ p_ S0_) : sm_T (mt_P sc_) 1 122 (0, [some (.inr (.inr (some (7, 0)))), some (.inl lo_), some (.inl hi_)], [], S0_) (fun r_ => (∃ u_ S1_, r_ = (.inl u_, S1_, 0) ∧ vq_122 lo_ hi_ b_ n_ p_ S0_ u_ S1_) ∨ ∃ S1_, r_ = (.inr 2, S1_, 1) ∧ vx_122 lo_ hi_ b_ n_ p_ S0_ S1_) := by
  have hF_ : ai_fr (sx_W vw_122) S0_ S0_ := ai_fr_rf
  obtain ⟨hb_, hn_, hn1_, hpn_, hk_, hst_, hnx_, hkd_, hsz_, hvl_⟩ := id hc_
  have b1_ : (-128) ≤ S0_.1 10 0 2 ∧ S0_.1 10 0 2 ≤ 257 := hI_.1 10 0 2 rfl
  refine sm_T_go 4 (c1 := (8, [some (.inr (.inr (some (7, 0)))), some (.inl lo_), some (.inl hi_)], [.inl 2, .inl (S0_.1 10 0 2)], S0_)) rfl ?_
  refine sm_T_br (a := 0) (z := 18) rfl (fun c2_ => ?_) (fun c2_ => ?_)
  · have c2_ : (S0_.1 10 0 2) = 2 := of_decide_eq_true c2_
    have b3_ : 0 ≤ S0_.1 10 0 5 ∧ S0_.1 10 0 5 ≤ 999999 := hI_.1 10 0 5 rfl
    refine sm_T_go 4 (c1 := (34, [some (.inr (.inr (some (7, 0)))), some (.inl lo_), some (.inl hi_)], [.inl lo_, .inl (S0_.1 10 0 5)], S0_)) rfl ?_
    refine sm_T_br (a := 2) (z := 14) rfl (fun c4_ => ?_) (fun c4_ => ?_)
    · have c4_ : (S0_.1 10 0 5) < lo_ := of_decide_eq_true c4_
      have b5_ : 0 ≤ S0_.1 10 0 3 ∧ S0_.1 10 0 3 ≤ 1280 := hI_.1 10 0 3 rfl
      refine sm_T_go 6 (c1 := (61, [some (.inr (.inr (some (7, 0)))), some (.inl lo_), some (.inl hi_)], [.inl (S0_.1 10 0 3), .inl 12, .inr (.inr (some (10, 0)))], S0_)) rfl ?_
      refine sm_T_calx (d1 := 0) (Q1 := vq_187 12 (S0_.1 10 0 3) S0_) (Q2 := vx_187 12 (S0_.1 10 0 3) S0_) rfl rfl (by decide) (vc_187 12 (S0_.1 10 0 3) S0_ hI_ (by decide) (by omega)) rfl (fun S6_ p9_ => ?_) (fun u_ S6_ p9_ => ?_)
      · obtain ⟨hI7_, hF8_, p9_⟩ := p9_
        refine Or.inr ⟨_, rfl, hI7_, ai_fr_tr hF_ (fr_le hF8_ rfl), ?_⟩
        have hv_ := hvl_ (by omega)
        refine ⟨(12, p_), ?_, p9_.1, p9_.2.trans hst_⟩
        unfold p_nu; rw [if_pos (by omega), if_pos (by omega)]
      · exact (p9_.2.2.2).elim
    · have c4_ : ¬ ((S0_.1 10 0 5) < lo_) := of_decide_eq_false c4_
      refine sm_T_go 4 (c1 := (45, [some (.inr (.inr (some (7, 0)))), some (.inl lo_), some (.inl hi_)], [.inl hi_, .inl (S0_.1 10 0 5)], S0_)) rfl ?_
      refine sm_T_br (a := 5) (z := 19) rfl (fun c11_ => ?_) (fun c11_ => ?_)
      · have c11_ : (S0_.1 10 0 5) ≤ hi_ := of_decide_eq_true c11_
        refine sm_T_go 3 (c1 := (71, [some (.inr (.inr (some (7, 0)))), some (.inl lo_), some (.inl hi_)], [.inl (S0_.1 10 0 5)], S0_)) rfl ?_
        refine sm_T_ri rfl (Or.inl ⟨_, _, rfl, _, rfl, hI_, hF_, ?_⟩)
        have hv_ := hvl_ (by omega)
        unfold p_nu; rw [if_pos (by omega), if_neg (by omega), hv_]
      · have c11_ : ¬ ((S0_.1 10 0 5) ≤ hi_) := of_decide_eq_false c11_
        have b12_ : 0 ≤ S0_.1 10 0 3 ∧ S0_.1 10 0 3 ≤ 1280 := hI_.1 10 0 3 rfl
        refine sm_T_go 6 (c1 := (61, [some (.inr (.inr (some (7, 0)))), some (.inl lo_), some (.inl hi_)], [.inl (S0_.1 10 0 3), .inl 12, .inr (.inr (some (10, 0)))], S0_)) rfl ?_
        refine sm_T_calx (d1 := 0) (Q1 := vq_187 12 (S0_.1 10 0 3) S0_) (Q2 := vx_187 12 (S0_.1 10 0 3) S0_) rfl rfl (by decide) (vc_187 12 (S0_.1 10 0 3) S0_ hI_ (by decide) (by omega)) rfl (fun S13_ p16_ => ?_) (fun u_ S13_ p16_ => ?_)
        · obtain ⟨hI14_, hF15_, p16_⟩ := p16_
          refine Or.inr ⟨_, rfl, hI14_, ai_fr_tr hF_ (fr_le hF15_ rfl), ?_⟩
          have hv_ := hvl_ (by omega)
          refine ⟨(12, p_), ?_, p16_.1, p16_.2.trans hst_⟩
          unfold p_nu; rw [if_pos (by omega), if_pos (by omega)]
        · exact (p16_.2.2.2).elim
  · have c2_ : ¬ ((S0_.1 10 0 2) = 2) := of_decide_eq_false c2_
    have b18_ : 0 ≤ S0_.1 10 0 3 ∧ S0_.1 10 0 3 ≤ 1280 := hI_.1 10 0 3 rfl
    refine sm_T_go 6 (c1 := (23, [some (.inr (.inr (some (7, 0)))), some (.inl lo_), some (.inl hi_)], [.inl (S0_.1 10 0 3), .inl 2, .inr (.inr (some (10, 0)))], S0_)) rfl ?_
    refine sm_T_calx (d1 := 0) (Q1 := vq_187 2 (S0_.1 10 0 3) S0_) (Q2 := vx_187 2 (S0_.1 10 0 3) S0_) rfl rfl (by decide) (vc_187 2 (S0_.1 10 0 3) S0_ hI_ (by decide) (by omega)) rfl (fun S19_ p22_ => ?_) (fun u_ S19_ p22_ => ?_)
    · obtain ⟨hI20_, hF21_, p22_⟩ := p22_
      refine Or.inr ⟨_, rfl, hI20_, ai_fr_tr hF_ (fr_le hF21_ rfl), ?_⟩
      refine ⟨(2, p_), ?_, p22_.1, p22_.2.trans hst_⟩
      unfold p_nu; rw [if_neg (by omega)]
    · exact (p22_.2.2.2).elim
end
/-! 99.x2a -/
section
/-! the class reader: stacks; written by wip/p55/gen/vg -/
/-! Reader.push -/
def vw_137 : sx_Wl := ([(7, 14)], [82, 83], [])
def vq_137 (k_ : Int) (md_ : Bool) (o_ : List (Int × Nat)) (g_ : List Int) (c_ : List Int) (b_ : Nat → Int) (n_ : Nat) (p_ : Nat) (S0_ : sm_S) (u_ : Option sm_V) (S1_ : sm_S) : Prop := u_ = none ∧ gi S1_ ∧ ai_fr (sx_W vw_137) S0_ S1_ ∧ (xs md_ ((k_, p_) :: o_) g_ c_ S1_)
theorem vc_137 {sc_ : Nat × (Nat → Int)} (k_ : Int) (md_ : Bool) (o_ : List (Int × Nat)) (g_ : List Int) (c_ : List Int) (b_ : Nat → Int) (n_ : Nat) (p_ : Nat) (S0_ : sm_S) (hI_ : gi S0_) (hx_ : xs md_ o_ g_ c_ S0_) (hc_ : ct b_ n_ p_ S0_) (hk_ : -4 ≤ k_ ∧ k_ ≤ 5) (ho_ : o_.length ≤ 487) : sm_T (mt_P sc_) 0 137 (0, [some (.inr (.inr (some (7, 0)))), some (.inl k_)], [], S0_) (fun r_ => ∃ u_ S1_, r_ = (.inl u_, S1_, 0) ∧ vq_137 k_ md_ o_ g_ c_ b_ n_ p_ S0_ u_ S1_) := by
  have hF_ : ai_fr (sx_W vw_137) S0_ S0_ := ai_fr_rf
  obtain ⟨x1_, x2_, x3_, x4_, x5_, x6_, x7_⟩ := id hx_
  have e3_ := hc_.2.2.2.2.2.1
  have hn1_ := hc_.2.2.1
  have hp1_ := hc_.2.2.2.1
  have hl_ : (S0_.1 7 0 14).toNat = (o_.map fun x_ => x_.1).length := by rw [List.length_map]; omega
  have hl2_ : (S0_.1 7 0 14).toNat = (o_.map fun x_ => (x_.2 : Int)).length := by rw [List.length_map]; omega
  have b1_ : 0 ≤ S0_.1 7 0 14 ∧ S0_.1 7 0 14 ≤ 488 := hI_.1 7 0 14 rfl
  refine sm_T_go 5 (c1 := (9, [some (.inr (.inr (some (7, 0)))), some (.inl k_)], [.inl 488, .inl (S0_.1 7 0 14)], S0_)) rfl ?_
  refine sm_T_br (a := 3) (z := 39) rfl (fun c2_ => ?_) (fun c2_ => ?_)
  · have c2_ : 488 ≤ (S0_.1 7 0 14) := of_decide_eq_true c2_
    exfalso; omega
  · have c2_ : ¬ (488 ≤ (S0_.1 7 0 14)) := of_decide_eq_false c2_
    refine sm_T_go 5 (c1 := (21, [some (.inr (.inr (some (7, 0)))), some (.inl k_)], [.inl k_, .inl (S0_.1 7 0 14), .inr (.inr (some (82, 0)))], S0_)) rfl ?_
    refine sm_T_iast (n := 488) rfl rfl (by omega) (by omega) ?_
    have hI3_ : gi (sm_aI S0_ 82 0 (S0_.1 7 0 14).toNat k_) := gi_aI hI_ (show (-4) ≤ k_ ∧ k_ ≤ 5 from ⟨by omega, by omega⟩)
    have hF4_ : ai_fr (sx_W vw_137) S0_ (sm_aI S0_ 82 0 (S0_.1 7 0 14).toNat k_) := ai_fr_tr hF_ (ai_fr_aI rfl)
    have b5_ : 0 ≤ S0_.1 10 0 3 ∧ S0_.1 10 0 3 ≤ 1280 := hI_.1 10 0 3 rfl
    refine sm_T_go 7 (c1 := (37, [some (.inr (.inr (some (7, 0)))), some (.inl k_)], [.inl (S0_.1 10 0 3), .inl (S0_.1 7 0 14), .inr (.inr (some (83, 0)))], sm_aI S0_ 82 0 (S0_.1 7 0 14).toNat k_)) rfl ?_
    refine sm_T_iast (n := 488) rfl rfl (by omega) (by omega) ?_
    have hI6_ : gi (sm_aI (sm_aI S0_ 82 0 (S0_.1 7 0 14).toNat k_) 83 0 (S0_.1 7 0 14).toNat (S0_.1 10 0 3)) := gi_aI hI3_ (show 0 ≤ (S0_.1 10 0 3) ∧ (S0_.1 10 0 3) ≤ 1280 from ⟨by omega, by omega⟩)
    have hF7_ : ai_fr (sx_W vw_137) S0_ (sm_aI (sm_aI S0_ 82 0 (S0_.1 7 0 14).toNat k_) 83 0 (S0_.1 7 0 14).toNat (S0_.1 10 0 3)) := ai_fr_tr hF4_ (ai_fr_aI rfl)
    refine sm_T_go 4 (c1 := (44, [some (.inr (.inr (some (7, 0)))), some (.inl k_)], [.inl 1, .inl (S0_.1 7 0 14), .inr (.inr (some (7, 0)))], sm_aI (sm_aI S0_ 82 0 (S0_.1 7 0 14).toNat k_) 83 0 (S0_.1 7 0 14).toNat (S0_.1 10 0 3))) rfl ?_
    refine sm_T_bin (w := (S0_.1 7 0 14) + 1) rfl (bi_add (by omega) (by omega) (by omega)) ?_
    have hI8_ : gi (sm_pI (sm_aI (sm_aI S0_ 82 0 (S0_.1 7 0 14).toNat k_) 83 0 (S0_.1 7 0 14).toNat (S0_.1 10 0 3)) 7 0 14 ((S0_.1 7 0 14) + 1)) := gi_pI hI6_ (show 0 ≤ (S0_.1 7 0 14) + 1 ∧ (S0_.1 7 0 14) + 1 ≤ 488 from ⟨by omega, by omega⟩)
    have hF9_ : ai_fr (sx_W vw_137) S0_ (sm_pI (sm_aI (sm_aI S0_ 82 0 (S0_.1 7 0 14).toNat k_) 83 0 (S0_.1 7 0 14).toNat (S0_.1 10 0 3)) 7 0 14 ((S0_.1 7 0 14) + 1)) := ai_fr_tr hF7_ (ai_fr_pI rfl)
    refine sm_T_go 1 (c1 := (48, [some (.inr (.inr (some (7, 0)))), some (.inl k_)], [], sm_pI (sm_aI (sm_aI S0_ 82 0 (S0_.1 7 0 14).toNat k_) 83 0 (S0_.1 7 0 14).toNat (S0_.1 10 0 3)) 7 0 14 ((S0_.1 7 0 14) + 1))) rfl ?_
    refine sm_T_rv rfl ⟨_, _, rfl, rfl, hI8_, hF9_, ?_⟩
    refine ⟨?_, x2_, ?_, ?_, ?_, x6_, fun z_ => ⟨(x7_ z_).1, ?_⟩⟩
    · (try simp only [rd_eq, rd_ne, rf_eq, rf_nk, rf_nt, rd_fa, rd_af, rd_fl, rd_al, rd_lf, rd_la, rd_leq, rd_lne, rd_fr, rd_ar, ne_eq, Nat.reduceEqDiff, not_false_eq_true]); simp only [List.length_cons]; push_cast; omega
    · exact stk_ot (stk_pu hl_ rfl x3_) (by decide)
    · exact stk_pu (S_ := sm_aI S0_ 82 0 (S0_.1 7 0 14).toNat k_) hl2_ e3_ (stk_ot x4_ (by decide))
    · exact stk_ot (stk_ot x5_ (by decide)) (by decide)
    · exact stk_ot (stk_ot (x7_ z_).2 (by decide)) (by decide)
end
/-! 99.x2b -/
section
/-! Reader.hold -/
def vw_138 : sx_Wl := ([(7, 16)], [84], [])
def vq_138 (k_ : Int) (md_ : Bool) (o_ : List (Int × Nat)) (g_ : List Int) (c_ : List Int) (S0_ : sm_S) (u_ : Option sm_V) (S1_ : sm_S) : Prop := u_ = none ∧ gi S1_ ∧ ai_fr (sx_W vw_138) S0_ S1_ ∧ (xs md_ o_ (k_ :: g_) c_ S1_)
theorem vc_138 {sc_ : Nat × (Nat → Int)} (k_ : Int) (md_ : Bool) (o_ : List (Int × Nat)) (g_ : List Int) (c_ : List Int) (S0_ : sm_S) (hI_ : gi S0_) (hx_ : xs md_ o_ g_ c_ S0_) (hk_ : 0 ≤ k_ ∧ k_ ≤ 255) (ho_ : g_.length ≤ 487) : sm_T (mt_P sc_) 0 138 (0, [some (.inr (.inr (some (7, 0)))), some (.inl k_)], [], S0_) (fun r_ => ∃ u_ S1_, r_ = (.inl u_, S1_, 0) ∧ vq_138 k_ md_ o_ g_ c_ S0_ u_ S1_) := by
  have hF_ : ai_fr (sx_W vw_138) S0_ S0_ := ai_fr_rf
  obtain ⟨x1_, x2_, x3_, x4_, x5_, x6_, x7_⟩ := id hx_
  have hl_ : (S0_.1 7 0 16).toNat = g_.length := by omega
  have b1_ : 0 ≤ S0_.1 7 0 16 ∧ S0_.1 7 0 16 ≤ 488 := hI_.1 7 0 16 rfl
  refine sm_T_go 5 (c1 := (9, [some (.inr (.inr (some (7, 0)))), some (.inl k_)], [.inl 488, .inl (S0_.1 7 0 16)], S0_)) rfl ?_
  refine sm_T_br (a := 3) (z := 23) rfl (fun c2_ => ?_) (fun c2_ => ?_)
  · have c2_ : 488 ≤ (S0_.1 7 0 16) := of_decide_eq_true c2_
    exfalso; omega
  · have c2_ : ¬ (488 ≤ (S0_.1 7 0 16)) := of_decide_eq_false c2_
    refine sm_T_go 5 (c1 := (21, [some (.inr (.inr (some (7, 0)))), some (.inl k_)], [.inl k_, .inl (S0_.1 7 0 16), .inr (.inr (some (84, 0)))], S0_)) rfl ?_
    refine sm_T_iast (n := 488) rfl rfl (by omega) (by omega) ?_
    have hI3_ : gi (sm_aI S0_ 84 0 (S0_.1 7 0 16).toNat k_) := gi_aI hI_ (show 0 ≤ k_ ∧ k_ ≤ 255 from ⟨by omega, by omega⟩)
    have hF4_ : ai_fr (sx_W vw_138) S0_ (sm_aI S0_ 84 0 (S0_.1 7 0 16).toNat k_) := ai_fr_tr hF_ (ai_fr_aI rfl)
    refine sm_T_go 4 (c1 := (28, [some (.inr (.inr (some (7, 0)))), some (.inl k_)], [.inl 1, .inl (S0_.1 7 0 16), .inr (.inr (some (7, 0)))], sm_aI S0_ 84 0 (S0_.1 7 0 16).toNat k_)) rfl ?_
    refine sm_T_bin (w := (S0_.1 7 0 16) + 1) rfl (bi_add (by omega) (by omega) (by omega)) ?_
    have hI5_ : gi (sm_pI (sm_aI S0_ 84 0 (S0_.1 7 0 16).toNat k_) 7 0 16 ((S0_.1 7 0 16) + 1)) := gi_pI hI3_ (show 0 ≤ (S0_.1 7 0 16) + 1 ∧ (S0_.1 7 0 16) + 1 ≤ 488 from ⟨by omega, by omega⟩)
    have hF6_ : ai_fr (sx_W vw_138) S0_ (sm_pI (sm_aI S0_ 84 0 (S0_.1 7 0 16).toNat k_) 7 0 16 ((S0_.1 7 0 16) + 1)) := ai_fr_tr hF4_ (ai_fr_pI rfl)
    refine sm_T_go 1 (c1 := (32, [some (.inr (.inr (some (7, 0)))), some (.inl k_)], [], sm_pI (sm_aI S0_ 84 0 (S0_.1 7 0 16).toNat k_) 7 0 16 ((S0_.1 7 0 16) + 1))) rfl ?_
    refine sm_T_rv rfl ⟨_, _, rfl, rfl, hI5_, hF6_, ?_⟩
    refine ⟨x1_, ?_, ?_, ?_, ?_, x6_, fun z_ => ⟨(x7_ z_).1, ?_⟩⟩
    · (try simp only [rd_eq, rd_ne, rf_eq, rf_nk, rf_nt, rd_fa, rd_af, rd_fl, rd_al, rd_lf, rd_la, rd_leq, rd_lne, rd_fr, rd_ar, ne_eq, Nat.reduceEqDiff, not_false_eq_true]); simp only [List.length_cons]; push_cast; omega
    · exact stk_ot x3_ (by decide)
    · exact stk_ot x4_ (by decide)
    · exact stk_pu hl_ rfl x5_
    · exact stk_ot (x7_ z_).2 (by decide)
end
/-! 99.x2c -/
section
/-! Reader.emit -/
def vw_140 : sx_Wl := ([(7, 2)], [74], [])
def vq_140 (k_ : Int) (a_ : Int) (d_ : Int) (o_ : List (Int × Nat)) (g_ : List Int) (c_ : List Int) (S0_ : sm_S) (u_ : Option sm_V) (S1_ : sm_S) : Prop := u_ = none ∧ gi S1_ ∧ ai_fr (sx_W vw_140) S0_ S1_ ∧ (xs false o_ g_ (cw k_ a_ d_ :: c_) S1_)
theorem vc_140 {sc_ : Nat × (Nat → Int)} (k_ : Int) (a_ : Int) (d_ : Int) (o_ : List (Int × Nat)) (g_ : List Int) (c_ : List Int) (S0_ : sm_S) (hI_ : gi S0_) (hx_ : xs false o_ g_ c_ S0_) (hk_ : 0 ≤ k_ ∧ k_ < 32) (ha_ : 0 ≤ a_ ∧ a_ < 64) (hd_ : 0 ≤ d_ ∧ d_ ≤ 999999) (ho_ : c_.length ≤ 65535) : sm_T (mt_P sc_) 0 140 (0, [some (.inr (.inr (some (7, 0)))), some (.inl k_), some (.inl a_), some (.inl d_)], [], S0_) (fun r_ => ∃ u_ S1_, r_ = (.inl u_, S1_, 0) ∧ vq_140 k_ a_ d_ o_ g_ c_ S0_ u_ S1_) := by
  have hF_ : ai_fr (sx_W vw_140) S0_ S0_ := ai_fr_rf
  obtain ⟨x1_, x2_, x3_, x4_, x5_, x6_, x7_⟩ := id hx_
  have x8_ := (x7_ rfl).1
  have x9_ := (x7_ rfl).2
  have hl_ : (S0_.1 7 0 2).toNat = c_.length := by omega
  have b1_ : 0 ≤ S0_.1 7 0 2 ∧ S0_.1 7 0 2 ≤ 65536 := hI_.1 7 0 2 rfl
  refine sm_T_go 5 (c1 := (9, [some (.inr (.inr (some (7, 0)))), some (.inl k_), some (.inl a_), some (.inl d_)], [.inl 65536, .inl (S0_.1 7 0 2)], S0_)) rfl ?_
  refine sm_T_br (a := 3) (z := 32) rfl (fun c2_ => ?_) (fun c2_ => ?_)
  · have c2_ : 65536 ≤ (S0_.1 7 0 2) := of_decide_eq_true c2_
    exfalso; omega
  · have c2_ : ¬ (65536 ≤ (S0_.1 7 0 2)) := of_decide_eq_false c2_
    refine sm_T_go 7 (c1 := (23, [some (.inr (.inr (some (7, 0)))), some (.inl k_), some (.inl a_), some (.inl d_)], [.inl 5, .inl a_, .inl k_, .inl (S0_.1 7 0 2), .inr (.inr (some (74, 0)))], S0_)) rfl ?_
    refine sm_T_bin (w := 32 * a_) rfl (bi_shl (k := 5) (by decide) (by omega) (by omega) (by omega)) ?_
    refine sm_T_bin (w := (i_or k_ (32 * a_))) rfl rfl ?_
    refine sm_T_go 2 (c1 := (28, [some (.inr (.inr (some (7, 0)))), some (.inl k_), some (.inl a_), some (.inl d_)], [.inl 11, .inl d_, .inl (i_or k_ (32 * a_)), .inl (S0_.1 7 0 2), .inr (.inr (some (74, 0)))], S0_)) rfl ?_
    refine sm_T_bin (w := 2048 * d_) rfl (bi_shl (k := 11) (by decide) (by omega) (by omega) (by omega)) ?_
    refine sm_T_bin (w := (i_or (i_or k_ (32 * a_)) (2048 * d_))) rfl rfl ?_
    refine sm_T_iast (n := 65536) rfl rfl (by omega) (by omega) ?_
    have hI3_ : gi (sm_aI S0_ 74 0 (S0_.1 7 0 2).toNat (i_or (i_or k_ (32 * a_)) (2048 * d_))) := gi_aI hI_ (show 0 ≤ (i_or (i_or k_ (32 * a_)) (2048 * d_)) ∧ (i_or (i_or k_ (32 * a_)) (2048 * d_)) ≤ 2147483647 from ⟨by rw [cw_or hk_ ha_ hd_]; unfold cw; omega, by rw [cw_or hk_ ha_ hd_]; unfold cw; omega⟩)
    have hF4_ : ai_fr (sx_W vw_140) S0_ (sm_aI S0_ 74 0 (S0_.1 7 0 2).toNat (i_or (i_or k_ (32 * a_)) (2048 * d_))) := ai_fr_tr hF_ (ai_fr_aI rfl)
    refine sm_T_go 4 (c1 := (37, [some (.inr (.inr (some (7, 0)))), some (.inl k_), some (.inl a_), some (.inl d_)], [.inl 1, .inl (S0_.1 7 0 2), .inr (.inr (some (7, 0)))], sm_aI S0_ 74 0 (S0_.1 7 0 2).toNat (i_or (i_or k_ (32 * a_)) (2048 * d_)))) rfl ?_
    refine sm_T_bin (w := (S0_.1 7 0 2) + 1) rfl (bi_add (by omega) (by omega) (by omega)) ?_
    have hI5_ : gi (sm_pI (sm_aI S0_ 74 0 (S0_.1 7 0 2).toNat (i_or (i_or k_ (32 * a_)) (2048 * d_))) 7 0 2 ((S0_.1 7 0 2) + 1)) := gi_pI hI3_ (show 0 ≤ (S0_.1 7 0 2) + 1 ∧ (S0_.1 7 0 2) + 1 ≤ 65536 from ⟨by omega, by omega⟩)
    have hF6_ : ai_fr (sx_W vw_140) S0_ (sm_pI (sm_aI S0_ 74 0 (S0_.1 7 0 2).toNat (i_or (i_or k_ (32 * a_)) (2048 * d_))) 7 0 2 ((S0_.1 7 0 2) + 1)) := ai_fr_tr hF4_ (ai_fr_pI rfl)
    refine sm_T_go 1 (c1 := (41, [some (.inr (.inr (some (7, 0)))), some (.inl k_), some (.inl a_), some (.inl d_)], [], sm_pI (sm_aI S0_ 74 0 (S0_.1 7 0 2).toNat (i_or (i_or k_ (32 * a_)) (2048 * d_))) 7 0 2 ((S0_.1 7 0 2) + 1))) rfl ?_
    refine sm_T_rv rfl ⟨_, _, rfl, rfl, hI5_, hF6_, ?_⟩
    refine ⟨x1_, x2_, ?_, ?_, ?_, x6_, fun z_ => ⟨?_, ?_⟩⟩
    · exact stk_ot x3_ (by decide)
    · exact stk_ot x4_ (by decide)
    · exact stk_ot x5_ (by decide)
    · (try simp only [rd_eq, rd_ne, rf_eq, rf_nk, rf_nt, rd_fa, rd_af, rd_fl, rd_al, rd_lf, rd_la, rd_leq, rd_lne, rd_fr, rd_ar, ne_eq, Nat.reduceEqDiff, not_false_eq_true]); simp only [List.length_cons]; push_cast; omega
    · exact stk_pu hl_ (cw_or hk_ ha_ hd_) x9_
end
/-! 99.x2d -/
section
/-! Reader.turnHeld -/
def vw_139 : sx_Wl := ([(7, 2)], [74, 84], [])
def vq_139 (md_ : Bool) (o_ : List (Int × Nat)) (g_ : List Int) (c_ : List Int) (z_ : Int) (S0_ : sm_S) (u_ : Option sm_V) (S1_ : sm_S) : Prop := u_ = none ∧ gi S1_ ∧ ai_fr (sx_W vw_139) S0_ S1_ ∧ (xs md_ o_ (p_tn md_ (z_ :: g_) c_).1 (p_tn md_ (z_ :: g_) c_).2 S1_)
theorem vc_139 {sc_ : Nat × (Nat → Int)} (md_ : Bool) (o_ : List (Int × Nat)) (g_ : List Int) (c_ : List Int) (z_ : Int) (S0_ : sm_S) (hI_ : gi S0_) (hx_ : xs md_ o_ (z_ :: g_) c_ S0_) (ho_ : c_.length ≤ 65535) : sm_T (mt_P sc_) 1 139 (0, [some (.inr (.inr (some (7, 0))))], [], S0_) (fun r_ => ∃ u_ S1_, r_ = (.inl u_, S1_, 0) ∧ vq_139 md_ o_ g_ c_ z_ S0_ u_ S1_) := by
  have hF_ : ai_fr (sx_W vw_139) S0_ S0_ := ai_fr_rf
  obtain ⟨x1_, x2_, x3_, x4_, x5_, x6_, x7_⟩ := id hx_
  have x8_ : S0_.1 7 0 16 = (g_.length : Int) + 1 := by rw [x2_]; simp
  have hl_ : (S0_.1 7 0 16 - 1).toNat = g_.length := by omega
  refine sm_T_go 1 (c1 := (1, [some (.inr (.inr (some (7, 0))))], [.inr (.inr (some (7, 0)))], S0_)) rfl ?_
  cases q1_ : S0_.2.1 7 0 11 with
  | none =>
    refine sm_T_gr rfl rfl q1_ ?_
    have hmd_ : md_ = false := xs_n hx_ q1_
    subst hmd_
    refine sm_T_go 5 (c1 := (12, [some (.inr (.inr (some (7, 0))))], [.inl 0, .inl 0, .inl 6, .inr (.inr (some (7, 0)))], S0_)) rfl ?_
    refine sm_T_cal (d1 := 0) (Q1 := vq_140 6 0 0 o_ (z_ :: g_) c_ S0_) rfl rfl (by decide) (vc_140 6 0 0 o_ (z_ :: g_) c_ S0_ hI_ (by exact hx_) (by decide) (by decide) (by decide) (by exact ho_)) (fun u_ S3_ p6_ => ?_)
    obtain ⟨rfl, hI4_, hF5_, p6_⟩ := p6_
    have hF7_ : ai_fr (sx_W vw_139) S0_ S3_ := ai_fr_tr hF_ (fr_le hF5_ rfl)
    have e12_ := p6_
    refine sm_T_go 1 (c1 := (35, [some (.inr (.inr (some (7, 0))))], [], S3_)) rfl ?_
    refine sm_T_rv rfl ⟨_, _, rfl, rfl, hI4_, hF7_, ?_⟩
    first | (rw [cw_0] at e12_; exact e12_) | (refine ⟨x1_, x2_, stk_ot x3_ (by decide), stk_ot x4_ (by decide), stk_pu hl_ (by rw [hl_, x5_.1]) x5_.2, x6_, fun y_ => absurd y_ (by decide)⟩)
  | some j2_ =>
    refine sm_T_gr rfl rfl q1_ ?_
    have hmd_ : md_ = true := xs_s hx_ q1_
    subst hmd_
    have b8_ : 0 ≤ S0_.1 7 0 16 ∧ S0_.1 7 0 16 ≤ 488 := hI_.1 7 0 16 rfl
    refine sm_T_go 6 (c1 := (27, [some (.inr (.inr (some (7, 0))))], [.inl 1, .inl (S0_.1 7 0 16), .inr (.inr (some (84, 0)))], S0_)) rfl ?_
    refine sm_T_bin (w := (S0_.1 7 0 16) - 1) rfl (bi_sub (by omega) (by omega) (by omega)) ?_
    refine sm_T_go 1 (c1 := (29, [some (.inr (.inr (some (7, 0))))], [.inl ((S0_.1 7 0 16) - 1), .inr (.inr (some (84, 0))), .inl ((S0_.1 7 0 16) - 1), .inr (.inr (some (84, 0)))], S0_)) rfl ?_
    refine sm_T_iald (n := 488) rfl rfl (by omega) (by omega) ?_
    have b9_ : 0 ≤ S0_.2.2.1 84 0 ((S0_.1 7 0 16) - 1).toNat ∧ S0_.2.2.1 84 0 ((S0_.1 7 0 16) - 1).toNat ≤ 255 := hI_.2 84 0 _
    refine sm_T_go 1 (c1 := (33, [some (.inr (.inr (some (7, 0))))], [.inl 255, .inl (S0_.2.2.1 84 0 ((S0_.1 7 0 16) - 1).toNat), .inl ((S0_.1 7 0 16) - 1), .inr (.inr (some (84, 0)))], S0_)) rfl ?_
    refine sm_T_bin (w := (i_xor (S0_.2.2.1 84 0 ((S0_.1 7 0 16) - 1).toNat) 255)) rfl rfl ?_
    refine sm_T_iast (n := 488) rfl rfl (by omega) (by omega) ?_
    have hI10_ : gi (sm_aI S0_ 84 0 ((S0_.1 7 0 16) - 1).toNat (i_xor (S0_.2.2.1 84 0 ((S0_.1 7 0 16) - 1).toNat) 255)) := gi_aI hI_ (show 0 ≤ (i_xor (S0_.2.2.1 84 0 ((S0_.1 7 0 16) - 1).toNat) 255) ∧ (i_xor (S0_.2.2.1 84 0 ((S0_.1 7 0 16) - 1).toNat) 255) ≤ 255 from ⟨by first | exact (i_by ⟨by omega, by omega⟩ ⟨by omega, by omega⟩).2.1.1 | exact (i_by ⟨by omega, by omega⟩ ⟨by omega, by omega⟩).2.1.2, by first | exact (i_by ⟨by omega, by omega⟩ ⟨by omega, by omega⟩).2.1.1 | exact (i_by ⟨by omega, by omega⟩ ⟨by omega, by omega⟩).2.1.2⟩)
    have hF11_ : ai_fr (sx_W vw_139) S0_ (sm_aI S0_ 84 0 ((S0_.1 7 0 16) - 1).toNat (i_xor (S0_.2.2.1 84 0 ((S0_.1 7 0 16) - 1).toNat) 255)) := ai_fr_tr hF_ (ai_fr_aI rfl)
    refine sm_T_rv rfl ⟨_, _, rfl, rfl, hI10_, hF11_, ?_⟩
    first | (rw [cw_0] at e12_; exact e12_) | (refine ⟨x1_, x2_, stk_ot x3_ (by decide), stk_ot x4_ (by decide), stk_pu hl_ (by rw [hl_, x5_.1]) x5_.2, x6_, fun y_ => absurd y_ (by decide)⟩)
end
/-! 99.x2e -/
section
/-! switch -/
theorem sm_swb {x_ lo_ : Int} {ts_ : List Nat} {df_ : Nat} (ex_ : List Nat) (h_ : ((List.range ts_.length).all fun k_ => ex_.any (fun e_ => decide (e_ = k_)) || decide (ts_[k_]? = some df_)) = true) (hy_ : ∀ k_, k_ ∈ ex_ → x_ ≠ lo_ + (k_ : Nat)) : (if x_ < lo_ then none else ts_[(x_ - lo_).toNat]?).getD df_ = df_ := by
  by_cases g_ : x_ < lo_ ∨ lo_ + (ts_.length : Nat) ≤ x_
  · exact sm_swd g_
  · have h1_ := List.all_eq_true.mp h_ (x_ - lo_).toNat (List.mem_range.mpr (by omega))
    rw [if_neg (by omega)]
    simp only [Bool.or_eq_true, decide_eq_true_eq, List.any_eq_true] at h1_
    rcases h1_ with ⟨e_, he_, h2_⟩ | h1_
    · exfalso; exact hy_ e_ he_ (by omega)
    · rw [h1_]; rfl
end
/-! 99.x2f -/
section
/-! Reader.levelOf -/
def vw_146 : sx_Wl := ([], [], [])
def vq_146 (k_ : Int) (md_ : Bool) (o_ : List (Int × Nat)) (g_ : List Int) (c_ : List Int) (S0_ : sm_S) (u_ : Option sm_V) (S1_ : sm_S) : Prop := S0_ = S1_ ∧ ∃ v_ : Int, u_ = some (.inl v_) ∧ (v_ = p_lv md_ k_)
theorem vc_146 {sc_ : Nat × (Nat → Int)} (k_ : Int) (md_ : Bool) (o_ : List (Int × Nat)) (g_ : List Int) (c_ : List Int) (S0_ : sm_S) (hI_ : gi S0_) (hx_ : xs md_ o_ g_ c_ S0_) : sm_T (mt_P sc_) 0 146 (0, [some (.inr (.inr (some (7, 0)))), some (.inl k_)], [], S0_) (fun r_ => ∃ u_ S1_, r_ = (.inl u_, S1_, 0) ∧ vq_146 k_ md_ o_ g_ c_ S0_ u_ S1_) := by
  have hF_ : ai_fr (sx_W vw_146) S0_ S0_ := ai_fr_rf
  refine sm_T_go 1 (c1 := (1, [some (.inr (.inr (some (7, 0)))), some (.inl k_)], [.inl k_], S0_)) rfl ?_
  by_cases c1_ : k_ = 38
  · refine sm_T_sw (t := 56) rfl rfl (by rw [c1_]; rfl) ?_
    refine sm_T_go 1 (c1 := (57, [some (.inr (.inr (some (7, 0)))), some (.inl k_)], [.inl 3], S0_)) rfl ?_
    refine sm_T_ri rfl ⟨_, _, rfl, rfl, _, rfl, ?_⟩
    unfold p_lv
    rw [if_neg (by omega), if_neg (by omega), if_pos (by omega)]
  by_cases c2_ : k_ = 43
  · refine sm_T_sw (t := 71) rfl rfl (by rw [c2_]; rfl) ?_
    refine sm_T_go 1 (c1 := (72, [some (.inr (.inr (some (7, 0)))), some (.inl k_)], [.inr (.inr (some (7, 0)))], S0_)) rfl ?_
    cases q3_ : S0_.2.1 7 0 11 with
    | none =>
      refine sm_T_gr rfl rfl q3_ ?_
      have hmd_ : md_ = false := xs_n hx_ q3_
      refine sm_T_go 3 (c1 := (83, [some (.inr (.inr (some (7, 0)))), some (.inl k_)], [.inl 5], S0_)) rfl ?_
      refine sm_T_ri rfl ⟨_, _, rfl, rfl, _, rfl, ?_⟩
      unfold p_lv
      rw [if_neg (by omega), if_neg (by omega), if_neg (by omega)]
      first | (rw [if_pos hmd_]) | (rw [if_neg (by rw [hmd_]; decide), if_neg (by omega), if_pos (by omega)])
    | some j4_ =>
      refine sm_T_gr rfl rfl q3_ ?_
      have hmd_ : md_ = true := xs_s hx_ q3_
      refine sm_T_go 2 (c1 := (83, [some (.inr (.inr (some (7, 0)))), some (.inl k_)], [.inl 0], S0_)) rfl ?_
      refine sm_T_ri rfl ⟨_, _, rfl, rfl, _, rfl, ?_⟩
      unfold p_lv
      rw [if_neg (by omega), if_neg (by omega), if_neg (by omega)]
      first | (rw [if_pos hmd_]) | (rw [if_neg (by rw [hmd_]; decide), if_neg (by omega), if_pos (by omega)])
  by_cases c5_ : k_ = 94
  · refine sm_T_sw (t := 54) rfl rfl (by rw [c5_]; rfl) ?_
    refine sm_T_go 1 (c1 := (55, [some (.inr (.inr (some (7, 0)))), some (.inl k_)], [.inl 2], S0_)) rfl ?_
    refine sm_T_ri rfl ⟨_, _, rfl, rfl, _, rfl, ?_⟩
    unfold p_lv
    rw [if_neg (by omega), if_pos (by omega)]
  by_cases c6_ : k_ = 124
  · refine sm_T_sw (t := 52) rfl rfl (by rw [c6_]; rfl) ?_
    refine sm_T_go 1 (c1 := (53, [some (.inr (.inr (some (7, 0)))), some (.inl k_)], [.inl 1], S0_)) rfl ?_
    refine sm_T_ri rfl ⟨_, _, rfl, rfl, _, rfl, ?_⟩
    unfold p_lv
    rw [if_pos (by omega)]
  by_cases c7_ : k_ = 257
  · refine sm_T_sw (t := 58) rfl rfl (by rw [c7_]; rfl) ?_
    refine sm_T_go 1 (c1 := (59, [some (.inr (.inr (some (7, 0)))), some (.inl k_)], [.inr (.inr (some (7, 0)))], S0_)) rfl ?_
    cases q8_ : S0_.2.1 7 0 11 with
    | none =>
      refine sm_T_gr rfl rfl q8_ ?_
      have hmd_ : md_ = false := xs_n hx_ q8_
      refine sm_T_go 3 (c1 := (70, [some (.inr (.inr (some (7, 0)))), some (.inl k_)], [.inl 4], S0_)) rfl ?_
      refine sm_T_ri rfl ⟨_, _, rfl, rfl, _, rfl, ?_⟩
      unfold p_lv
      rw [if_neg (by omega), if_neg (by omega), if_neg (by omega)]
      first | (rw [if_pos hmd_]) | (rw [if_neg (by rw [hmd_]; decide), if_pos (by omega)])
    | some j9_ =>
      refine sm_T_gr rfl rfl q8_ ?_
      have hmd_ : md_ = true := xs_s hx_ q8_
      refine sm_T_go 2 (c1 := (70, [some (.inr (.inr (some (7, 0)))), some (.inl k_)], [.inl 0], S0_)) rfl ?_
      refine sm_T_ri rfl ⟨_, _, rfl, rfl, _, rfl, ?_⟩
      unfold p_lv
      rw [if_neg (by omega), if_neg (by omega), if_neg (by omega)]
      first | (rw [if_pos hmd_]) | (rw [if_neg (by rw [hmd_]; decide), if_pos (by omega)])
  refine sm_T_sw (t := 84) rfl rfl (by exact sm_swb [0, 5, 56, 86, 219] (by decide +kernel) (by intro k_ hk_; simp only [List.mem_cons, List.not_mem_nil, or_false] at hk_; omega)) ?_
  refine sm_T_go 1 (c1 := (85, [some (.inr (.inr (some (7, 0)))), some (.inl k_)], [.inl 0], S0_)) rfl ?_
  refine sm_T_ri rfl ⟨_, _, rfl, rfl, _, rfl, ?_⟩
  unfold p_lv
  rw [if_neg (by omega), if_neg (by omega), if_neg (by omega), if_neg (c := k_ = 257) (by omega), if_neg (c := k_ = 43) (by omega)]
  split <;> rfl
end
/-! 99.x2g -/
section
/-! Reader.topKind -/
def vw_147 : sx_Wl := ([], [], [])
def vq_147 (md_ : Bool) (o_ : List (Int × Nat)) (g_ : List Int) (c_ : List Int) (S0_ : sm_S) (u_ : Option sm_V) (S1_ : sm_S) : Prop := S0_ = S1_ ∧ ∃ v_ : Int, u_ = some (.inl v_) ∧ (v_ = o_tp o_)
theorem vc_147 {sc_ : Nat × (Nat → Int)} (md_ : Bool) (o_ : List (Int × Nat)) (g_ : List Int) (c_ : List Int) (S0_ : sm_S) (hI_ : gi S0_) (hx_ : xs md_ o_ g_ c_ S0_) : sm_T (mt_P sc_) 0 147 (0, [some (.inr (.inr (some (7, 0))))], [], S0_) (fun r_ => ∃ u_ S1_, r_ = (.inl u_, S1_, 0) ∧ vq_147 md_ o_ g_ c_ S0_ u_ S1_) := by
  have hF_ : ai_fr (sx_W vw_147) S0_ S0_ := ai_fr_rf
  have x1_ := hx_.1
  have hl_ : o_.length ≤ 488 := by have := hI_.1 7 0 14 rfl; have : S0_.1 7 0 14 ≤ 488 := this.2; omega
  have b1_ : 0 ≤ S0_.1 7 0 14 ∧ S0_.1 7 0 14 ≤ 488 := hI_.1 7 0 14 rfl
  refine sm_T_go 2 (c1 := (4, [some (.inr (.inr (some (7, 0))))], [.inl (S0_.1 7 0 14)], S0_)) rfl ?_
  refine sm_T_b0 (a := 5) (z := 17) rfl (fun c2_ => ?_) (fun c2_ => ?_)
  · have c2_ : (S0_.1 7 0 14) ≤ 0 := of_decide_eq_true c2_
    refine sm_T_go 1 (c1 := (22, [some (.inr (.inr (some (7, 0))))], [.inl 0], S0_)) rfl ?_
    refine sm_T_ri rfl ⟨_, _, rfl, rfl, _, rfl, ?_⟩
    first | exact (xs_t0 hx_ (by omega)).symm | exact xs_tp hx_ (by omega)
  · have c2_ : ¬ ((S0_.1 7 0 14) ≤ 0) := of_decide_eq_false c2_
    refine sm_T_go 5 (c1 := (16, [some (.inr (.inr (some (7, 0))))], [.inl 1, .inl (S0_.1 7 0 14), .inr (.inr (some (82, 0)))], S0_)) rfl ?_
    refine sm_T_bin (w := (S0_.1 7 0 14) - 1) rfl (bi_sub (by omega) (by omega) (by omega)) ?_
    refine sm_T_iald (n := 488) rfl rfl (by omega) (by omega) ?_
    have b3_ : (-4) ≤ S0_.2.2.1 82 0 ((S0_.1 7 0 14) - 1).toNat ∧ S0_.2.2.1 82 0 ((S0_.1 7 0 14) - 1).toNat ≤ 5 := hI_.2 82 0 _
    refine sm_T_go 1 (c1 := (22, [some (.inr (.inr (some (7, 0))))], [.inl (S0_.2.2.1 82 0 ((S0_.1 7 0 14) - 1).toNat)], S0_)) rfl ?_
    refine sm_T_ri rfl ⟨_, _, rfl, rfl, _, rfl, ?_⟩
    first | exact (xs_t0 hx_ (by omega)).symm | exact xs_tp hx_ (by omega)
end
/-! 99.x2h -/
section
/-! Reader.needCondition -/
def vw_149 : sx_Wl := ([(10, 6), (10, 7)], [], [])
def vq_149 (md_ : Bool) (o_ : List (Int × Nat)) (g_ : List Int) (c_ : List Int) (z_ : Int) (b_ : Nat → Int) (n_ : Nat) (p_ : Nat) (S0_ : sm_S) (u_ : Option sm_V) (S1_ : sm_S) : Prop := u_ = none ∧ gi S1_ ∧ ai_fr (sx_W vw_149) S0_ S1_ ∧ (z_ = 1)
def vx_149 (md_ : Bool) (o_ : List (Int × Nat)) (g_ : List Int) (c_ : List Int) (z_ : Int) (b_ : Nat → Int) (n_ : Nat) (p_ : Nat) (S0_ : sm_S) (S1_ : sm_S) : Prop := gi S1_ ∧ ai_fr (sx_W vw_149) S0_ S1_ ∧ (z_ ≠ 1 ∧ ter S1_ (13, p_))
theorem vc_149 {sc_ : Nat × (Nat → Int)} (md_ : Bool) (o_ : List (Int × Nat)) (g_ : List Int) (c_ : List Int) (z_ : Int) (b_ : Nat → Int) (n_ : Nat) (p_ : Nat) (S0_ : sm_S) (hI_ : gi S0_) (hx_ : xs md_ o_ (z_ :: g_) c_ S0_) (hc_ : ct b_ n_ p_ S0_) (ho_ : g_.length ≤ 487) : sm_T (mt_P sc_) 1 149 (0, [some (.inr (.inr (some (7, 0))))], [], S0_) (fun r_ => (∃ u_ S1_, r_ = (.inl u_, S1_, 0) ∧ vq_149 md_ o_ g_ c_ z_ b_ n_ p_ S0_ u_ S1_) ∨ ∃ S1_, r_ = (.inr 2, S1_, 1) ∧ vx_149 md_ o_ g_ c_ z_ b_ n_ p_ S0_ S1_) := by
  have hF_ : ai_fr (sx_W vw_149) S0_ S0_ := ai_fr_rf
  obtain ⟨x1_, x2_, x3_, x4_, x5_, x6_, x7_⟩ := id hx_
  have x8_ : S0_.1 7 0 16 = (g_.length : Int) + 1 := by rw [x2_]; simp
  have hl_ : (S0_.1 7 0 16 - 1).toNat = g_.length := by omega
  have x9_ : S0_.2.2.1 84 0 (S0_.1 7 0 16 - 1).toNat = z_ := by rw [hl_]; exact x5_.1
  have e3_ := hc_.2.2.2.2.2.1
  have hn1_ := hc_.2.2.1
  have hp1_ := hc_.2.2.2.1
  have b1_ : 0 ≤ S0_.1 7 0 16 ∧ S0_.1 7 0 16 ≤ 488 := hI_.1 7 0 16 rfl
  refine sm_T_go 5 (c1 := (9, [some (.inr (.inr (some (7, 0))))], [.inl 1, .inl (S0_.1 7 0 16), .inr (.inr (some (84, 0)))], S0_)) rfl ?_
  refine sm_T_bin (w := (S0_.1 7 0 16) - 1) rfl (bi_sub (by omega) (by omega) (by omega)) ?_
  refine sm_T_iald (n := 488) rfl rfl (by omega) (by omega) ?_
  have b2_ : 0 ≤ S0_.2.2.1 84 0 ((S0_.1 7 0 16) - 1).toNat ∧ S0_.2.2.1 84 0 ((S0_.1 7 0 16) - 1).toNat ≤ 255 := hI_.2 84 0 _
  refine sm_T_go 1 (c1 := (12, [some (.inr (.inr (some (7, 0))))], [.inl 1, .inl (S0_.2.2.1 84 0 ((S0_.1 7 0 16) - 1).toNat)], S0_)) rfl ?_
  refine sm_T_br (a := 0) (z := 19) rfl (fun c3_ => ?_) (fun c3_ => ?_)
  · have c3_ : (S0_.2.2.1 84 0 ((S0_.1 7 0 16) - 1).toNat) = 1 := of_decide_eq_true c3_
    refine sm_T_rv rfl (Or.inl ⟨_, _, rfl, rfl, hI_, hF_, ?_⟩)
    omega
  · have c3_ : ¬ ((S0_.2.2.1 84 0 ((S0_.1 7 0 16) - 1).toNat) = 1) := of_decide_eq_false c3_
    have b4_ : 0 ≤ S0_.1 10 0 3 ∧ S0_.1 10 0 3 ≤ 1280 := hI_.1 10 0 3 rfl
    refine sm_T_go 6 (c1 := (28, [some (.inr (.inr (some (7, 0))))], [.inl (S0_.1 10 0 3), .inl 13, .inr (.inr (some (10, 0)))], S0_)) rfl ?_
    refine sm_T_calx (d1 := 0) (Q1 := vq_187 13 (S0_.1 10 0 3) S0_) (Q2 := vx_187 13 (S0_.1 10 0 3) S0_) rfl rfl (by decide) (vc_187 13 (S0_.1 10 0 3) S0_ hI_ (by decide) (by omega)) rfl (fun S5_ p8_ => ?_) (fun u_ S5_ p8_ => ?_)
    · obtain ⟨hI6_, hF7_, p8_⟩ := p8_
      refine Or.inr ⟨_, rfl, hI6_, ai_fr_tr hF_ (fr_le hF7_ rfl), ?_⟩
      exact ⟨by omega, p8_.1, p8_.2.trans e3_⟩
    · exact (p8_.2.2.2).elim
end
/-! 99.x2i -/
section
/-! Reader.turnToColon -/
def vw_150 : sx_Wl := ([(10, 6), (10, 7)], [82], [])
def vq_150 (md_ : Bool) (o_ : List (Int × Nat)) (g_ : List Int) (c_ : List Int) (t_ : Nat) (b_ : Nat → Int) (n_ : Nat) (p_ : Nat) (S0_ : sm_S) (u_ : Option sm_V) (S1_ : sm_S) : Prop := u_ = none ∧ gi S1_ ∧ ai_fr (sx_W vw_150) S0_ S1_ ∧ (lx_kd b_ n_ p_ = 58 ∧ xs md_ ((-4, t_) :: o_) g_ c_ S1_)
def vx_150 (md_ : Bool) (o_ : List (Int × Nat)) (g_ : List Int) (c_ : List Int) (t_ : Nat) (b_ : Nat → Int) (n_ : Nat) (p_ : Nat) (S0_ : sm_S) (S1_ : sm_S) : Prop := gi S1_ ∧ ai_fr (sx_W vw_150) S0_ S1_ ∧ (lx_kd b_ n_ p_ ≠ 58 ∧ ter S1_ (2, p_))
theorem vc_150 {sc_ : Nat × (Nat → Int)} (md_ : Bool) (o_ : List (Int × Nat)) (g_ : List Int) (c_ : List Int) (t_ : Nat) (b_ : Nat → Int) (n_ : Nat) (p_ : Nat) (S0_ : sm_S) (hI_ : gi S0_) (hx_ : xs md_ ((-3, t_) :: o_) g_ c_ S0_) (hc_ : ct b_ n_ p_ S0_) (ho_ : o_.length ≤ 487) : sm_T (mt_P sc_) 1 150 (0, [some (.inr (.inr (some (7, 0))))], [], S0_) (fun r_ => (∃ u_ S1_, r_ = (.inl u_, S1_, 0) ∧ vq_150 md_ o_ g_ c_ t_ b_ n_ p_ S0_ u_ S1_) ∨ ∃ S1_, r_ = (.inr 2, S1_, 1) ∧ vx_150 md_ o_ g_ c_ t_ b_ n_ p_ S0_ S1_) := by
  have hF_ : ai_fr (sx_W vw_150) S0_ S0_ := ai_fr_rf
  obtain ⟨x1_, x2_, x3_, x4_, x5_, x6_, x7_⟩ := id hx_
  have x8_ : S0_.1 7 0 14 = (o_.length : Int) + 1 := by rw [x1_]; simp
  have hl_ : (S0_.1 7 0 14 - 1).toNat = (o_.map fun x_ => x_.1).length := by rw [List.length_map]; omega
  have e3_ := hc_.2.2.2.2.2.1
  have e2_ := hc_.2.2.2.2.2.2.2.1
  have hn1_ := hc_.2.2.1
  have hp1_ := hc_.2.2.2.1
  have b1_ : (-128) ≤ S0_.1 10 0 2 ∧ S0_.1 10 0 2 ≤ 257 := hI_.1 10 0 2 rfl
  refine sm_T_go 4 (c1 := (9, [some (.inr (.inr (some (7, 0))))], [.inl 58, .inl (S0_.1 10 0 2)], S0_)) rfl ?_
  refine sm_T_br (a := 0) (z := 18) rfl (fun c2_ => ?_) (fun c2_ => ?_)
  · have c2_ : (S0_.1 10 0 2) = 58 := of_decide_eq_true c2_
    have b3_ : 0 ≤ S0_.1 7 0 14 ∧ S0_.1 7 0 14 ≤ 488 := hI_.1 7 0 14 rfl
    refine sm_T_go 5 (c1 := (36, [some (.inr (.inr (some (7, 0))))], [.inl 1, .inl (S0_.1 7 0 14), .inr (.inr (some (82, 0)))], S0_)) rfl ?_
    refine sm_T_bin (w := (S0_.1 7 0 14) - 1) rfl (bi_sub (by omega) (by omega) (by omega)) ?_
    refine sm_T_go 1 (c1 := (39, [some (.inr (.inr (some (7, 0))))], [.inl (-4), .inl ((S0_.1 7 0 14) - 1), .inr (.inr (some (82, 0)))], S0_)) rfl ?_
    refine sm_T_iast (n := 488) rfl rfl (by omega) (by omega) ?_
    have hI4_ : gi (sm_aI S0_ 82 0 ((S0_.1 7 0 14) - 1).toNat (-4)) := gi_aI hI_ (show (-4) ≤ (-4) ∧ (-4) ≤ 5 from ⟨by omega, by omega⟩)
    have hF5_ : ai_fr (sx_W vw_150) S0_ (sm_aI S0_ 82 0 ((S0_.1 7 0 14) - 1).toNat (-4)) := ai_fr_tr hF_ (ai_fr_aI rfl)
    refine sm_T_rv rfl (Or.inl ⟨_, _, rfl, rfl, hI4_, hF5_, ?_⟩)
    refine ⟨by omega, x1_, x2_, ?_, ?_, ?_, x6_, fun z_ => ⟨(x7_ z_).1, ?_⟩⟩
    · exact stk_pu hl_ rfl x3_.2
    · exact stk_ot x4_ (by decide)
    · exact stk_ot x5_ (by decide)
    · exact stk_ot (x7_ z_).2 (by decide)
  · have c2_ : ¬ ((S0_.1 10 0 2) = 58) := of_decide_eq_false c2_
    have b6_ : 0 ≤ S0_.1 10 0 3 ∧ S0_.1 10 0 3 ≤ 1280 := hI_.1 10 0 3 rfl
    refine sm_T_go 6 (c1 := (24, [some (.inr (.inr (some (7, 0))))], [.inl (S0_.1 10 0 3), .inl 2, .inr (.inr (some (10, 0)))], S0_)) rfl ?_
    refine sm_T_calx (d1 := 0) (Q1 := vq_187 2 (S0_.1 10 0 3) S0_) (Q2 := vx_187 2 (S0_.1 10 0 3) S0_) rfl rfl (by decide) (vc_187 2 (S0_.1 10 0 3) S0_ hI_ (by decide) (by omega)) rfl (fun S7_ p10_ => ?_) (fun u_ S7_ p10_ => ?_)
    · obtain ⟨hI8_, hF9_, p10_⟩ := p10_
      refine Or.inr ⟨_, rfl, hI8_, ai_fr_tr hF_ (fr_le hF9_ rfl), ?_⟩
      exact ⟨by omega, p10_.1, p10_.2.trans e3_⟩
    · exact (p10_.2.2.2).elim
end
/-! 99.x2j -/
section
/-! Reader.closeParen -/
def vw_151 : sx_Wl := ([(7, 14), (7, 17), (10, 6), (10, 7)], [], [])
def vq_151 (md_ : Bool) (o_ : List (Int × Nat)) (g_ : List Int) (c_ : List Int) (k_ : Int) (t_ : Nat) (b_ : Nat → Int) (n_ : Nat) (p_ : Nat) (S0_ : sm_S) (u_ : Option sm_V) (S1_ : sm_S) : Prop := u_ = none ∧ gi S1_ ∧ ai_fr (sx_W vw_151) S0_ S1_ ∧ (lx_kd b_ n_ p_ = 41 ∧ xs md_ o_ g_ c_ S1_ ∧ (S1_.1 7 0 17) = (S0_.1 7 0 17) - 1)
def vx_151 (md_ : Bool) (o_ : List (Int × Nat)) (g_ : List Int) (c_ : List Int) (k_ : Int) (t_ : Nat) (b_ : Nat → Int) (n_ : Nat) (p_ : Nat) (S0_ : sm_S) (S1_ : sm_S) : Prop := gi S1_ ∧ ai_fr (sx_W vw_151) S0_ S1_ ∧ (lx_kd b_ n_ p_ ≠ 41 ∧ ter S1_ (2, p_))
theorem vc_151 {sc_ : Nat × (Nat → Int)} (md_ : Bool) (o_ : List (Int × Nat)) (g_ : List Int) (c_ : List Int) (k_ : Int) (t_ : Nat) (b_ : Nat → Int) (n_ : Nat) (p_ : Nat) (S0_ : sm_S) (hI_ : gi S0_) (hx_ : xs md_ ((k_, t_) :: o_) g_ c_ S0_) (hc_ : ct b_ n_ p_ S0_) (ho_ : 1 ≤ (S0_.1 7 0 17)) : sm_T (mt_P sc_) 1 151 (0, [some (.inr (.inr (some (7, 0))))], [], S0_) (fun r_ => (∃ u_ S1_, r_ = (.inl u_, S1_, 0) ∧ vq_151 md_ o_ g_ c_ k_ t_ b_ n_ p_ S0_ u_ S1_) ∨ ∃ S1_, r_ = (.inr 2, S1_, 1) ∧ vx_151 md_ o_ g_ c_ k_ t_ b_ n_ p_ S0_ S1_) := by
  have hF_ : ai_fr (sx_W vw_151) S0_ S0_ := ai_fr_rf
  obtain ⟨x1_, x2_, x3_, x4_, x5_, x6_, x7_⟩ := id hx_
  have x8_ : S0_.1 7 0 14 = (o_.length : Int) + 1 := by rw [x1_]; simp
  have e3_ := hc_.2.2.2.2.2.1
  have e2_ := hc_.2.2.2.2.2.2.2.1
  have hn1_ := hc_.2.2.1
  have hp1_ := hc_.2.2.2.1
  have b1_ : (-128) ≤ S0_.1 10 0 2 ∧ S0_.1 10 0 2 ≤ 257 := hI_.1 10 0 2 rfl
  refine sm_T_go 4 (c1 := (9, [some (.inr (.inr (some (7, 0))))], [.inl 41, .inl (S0_.1 10 0 2)], S0_)) rfl ?_
  refine sm_T_br (a := 0) (z := 18) rfl (fun c2_ => ?_) (fun c2_ => ?_)
  · have c2_ : (S0_.1 10 0 2) = 41 := of_decide_eq_true c2_
    have b3_ : 0 ≤ S0_.1 7 0 14 ∧ S0_.1 7 0 14 ≤ 488 := hI_.1 7 0 14 rfl
    refine sm_T_go 4 (c1 := (33, [some (.inr (.inr (some (7, 0))))], [.inl 1, .inl (S0_.1 7 0 14), .inr (.inr (some (7, 0)))], S0_)) rfl ?_
    refine sm_T_bin (w := (S0_.1 7 0 14) - 1) rfl (bi_sub (by omega) (by omega) (by omega)) ?_
    have hI4_ : gi (sm_pI S0_ 7 0 14 ((S0_.1 7 0 14) - 1)) := gi_pI hI_ (show 0 ≤ (S0_.1 7 0 14) - 1 ∧ (S0_.1 7 0 14) - 1 ≤ 488 from ⟨by omega, by omega⟩)
    have hF5_ : ai_fr (sx_W vw_151) S0_ (sm_pI S0_ 7 0 14 ((S0_.1 7 0 14) - 1)) := ai_fr_tr hF_ (ai_fr_pI rfl)
    have b6_ : 0 ≤ S0_.1 7 0 17 ∧ S0_.1 7 0 17 ≤ 60 := hI_.1 7 0 17 rfl
    refine sm_T_go 5 (c1 := (43, [some (.inr (.inr (some (7, 0))))], [.inl 1, .inl (S0_.1 7 0 17), .inr (.inr (some (7, 0)))], sm_pI S0_ 7 0 14 ((S0_.1 7 0 14) - 1))) rfl ?_
    refine sm_T_bin (w := (S0_.1 7 0 17) - 1) rfl (bi_sub (by omega) (by omega) (by omega)) ?_
    have hI7_ : gi (sm_pI (sm_pI S0_ 7 0 14 ((S0_.1 7 0 14) - 1)) 7 0 17 ((S0_.1 7 0 17) - 1)) := gi_pI hI4_ (show 0 ≤ (S0_.1 7 0 17) - 1 ∧ (S0_.1 7 0 17) - 1 ≤ 60 from ⟨by omega, by omega⟩)
    have hF8_ : ai_fr (sx_W vw_151) S0_ (sm_pI (sm_pI S0_ 7 0 14 ((S0_.1 7 0 14) - 1)) 7 0 17 ((S0_.1 7 0 17) - 1)) := ai_fr_tr hF5_ (ai_fr_pI rfl)
    refine sm_T_go 1 (c1 := (47, [some (.inr (.inr (some (7, 0))))], [], sm_pI (sm_pI S0_ 7 0 14 ((S0_.1 7 0 14) - 1)) 7 0 17 ((S0_.1 7 0 17) - 1))) rfl ?_
    refine sm_T_rv rfl (Or.inl ⟨_, _, rfl, rfl, hI7_, hF8_, ?_⟩)
    refine ⟨by omega, ⟨?_, x2_, x3_.2, x4_.2, x5_, x6_, x7_⟩, ?_⟩
    · (try simp only [rd_eq, rd_ne, rf_eq, rf_nk, rf_nt, rd_fa, rd_af, rd_fl, rd_al, rd_lf, rd_la, rd_leq, rd_lne, rd_fr, rd_ar, ne_eq, Nat.reduceEqDiff, not_false_eq_true]); omega
    · (try simp only [rd_eq, rd_ne, rf_eq, rf_nk, rf_nt, rd_fa, rd_af, rd_fl, rd_al, rd_lf, rd_la, rd_leq, rd_lne, rd_fr, rd_ar, ne_eq, Nat.reduceEqDiff, not_false_eq_true])
  · have c2_ : ¬ ((S0_.1 10 0 2) = 41) := of_decide_eq_false c2_
    have b9_ : 0 ≤ S0_.1 10 0 3 ∧ S0_.1 10 0 3 ≤ 1280 := hI_.1 10 0 3 rfl
    refine sm_T_go 6 (c1 := (24, [some (.inr (.inr (some (7, 0))))], [.inl (S0_.1 10 0 3), .inl 2, .inr (.inr (some (10, 0)))], S0_)) rfl ?_
    refine sm_T_calx (d1 := 0) (Q1 := vq_187 2 (S0_.1 10 0 3) S0_) (Q2 := vx_187 2 (S0_.1 10 0 3) S0_) rfl rfl (by decide) (vc_187 2 (S0_.1 10 0 3) S0_ hI_ (by decide) (by omega)) rfl (fun S10_ p13_ => ?_) (fun u_ S10_ p13_ => ?_)
    · obtain ⟨hI11_, hF12_, p13_⟩ := p13_
      refine Or.inr ⟨_, rfl, hI11_, ai_fr_tr hF_ (fr_le hF12_ rfl), ?_⟩
      exact ⟨by omega, p13_.1, p13_.2.trans e3_⟩
    · exact (p13_.2.2.2).elim
end
