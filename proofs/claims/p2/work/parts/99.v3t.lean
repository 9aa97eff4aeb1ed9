/-! the reference: one token; written by wip/p55/gen/vg -/
/-! M_.take -/
def vw_290 : sx_Wl := ([], [119, 120, 121, 122, 123], [])
def vq_290 (f_ : Int) (b_ : Nat → Int) (n_ : Nat) (p_ : Nat) (t_ : Nat) (S0_ : sm_S) (u_ : Option sm_V) (S1_ : sm_S) : Prop := ∃ v_ : Int, u_ = some (.inl v_) ∧ gi S1_ ∧ ai_fr (sx_W vw_290) S0_ S1_ ∧ (v_ = (lx_en b_ n_ p_ : Nat) ∧ ((S1_.2.2.1 120 0 (t_)) = (p_ : Int) ∧ (S1_.2.2.1 119 0 (t_)) = r_so (lx_kd b_ n_ p_) ∧ (lx_kd b_ n_ p_ ≠ -1 → (S1_.2.2.1 121 0 (t_)) = r_nu (lx_kd b_ n_ p_) (lx_vl b_ n_ p_)) ∧ (lx_kd b_ n_ p_ = 1 → (S1_.2.2.2 122 0 (t_)) = rk1 b_ p_ (lx_sz b_ n_ p_) ∧ (S1_.2.2.1 123 0 (t_)) = rk2 b_ p_ (lx_sz b_ n_ p_))) ∧ (∀ j_ : Nat, j_ ≠ t_ → (S1_.2.2.1 119 0 (j_)) = (S0_.2.2.1 119 0 (j_)) ∧ (S1_.2.2.1 120 0 (j_)) = (S0_.2.2.1 120 0 (j_)) ∧ (S1_.2.2.1 121 0 (j_)) = (S0_.2.2.1 121 0 (j_)) ∧ (S1_.2.2.2 122 0 (j_)) = (S0_.2.2.2 122 0 (j_)) ∧ (S1_.2.2.1 123 0 (j_)) = (S0_.2.2.1 123 0 (j_))))
set_option maxHeartbeats 16000000 in
set_option maxRecDepth 20000 in
theorem vl_290 {sc_ : Nat × (Nat → Int)} (f_ : Int) (b_ : Nat → Int) (n_ : Nat) (p_ : Nat) (t_ : Nat) (S0_ : sm_S) (hb_ : S0_.2.2.1 118 0 = b_) (hn_ : (S0_.1 13 0 2) = (n_ : Int)) (hn1_ : n_ ≤ 1280) (hp_ : f_ = (p_ : Int)) (hpn_ : p_ < n_) (ht_ : (S0_.1 13 0 3) = (t_ : Int)) (ht1_ : t_ ≤ 1280) : ∀ nn_ : Nat, (∀ (tt_ : Int) (k_ : Int) (c_ : Int) (S_ : sm_S), gi S_ → ai_fr (sx_W vw_290) S0_ S_ → ((tt_ = (t_ : Int) ∧ lx_l (b_ p_)) ∧ (∃ i_ : Nat, k_ = ((p_ + i_ : Nat) : Int) ∧ p_ + i_ ≤ n_ ∧ lx_ne b_ n_ (p_ + i_) = lx_ne b_ n_ p_ ∧ (∀ j_, j_ < i_ → lx_x (b_ (p_ + j_)))) ∧ ((S_.2.2.2 122 0 (t_)) = rk1 b_ p_ (k_ - p_).toNat ∧ (S_.2.2.1 123 0 (t_)) = rk2 b_ p_ (k_ - p_).toNat) ∧ ((S_.2.2.1 121 0 (t_)) = 0 ∧ (S_.2.2.1 120 0 (t_)) = (p_ : Int)) ∧ (∀ j_ : Nat, j_ ≠ t_ → (S_.2.2.1 119 0 (j_)) = (S0_.2.2.1 119 0 (j_)) ∧ (S_.2.2.1 120 0 (j_)) = (S0_.2.2.1 120 0 (j_)) ∧ (S_.2.2.1 121 0 (j_)) = (S0_.2.2.1 121 0 (j_)) ∧ (S_.2.2.2 122 0 (j_)) = (S0_.2.2.2 122 0 (j_)) ∧ (S_.2.2.1 123 0 (j_)) = (S0_.2.2.1 123 0 (j_))) ∧ True) → ((1300 - k_).toNat) < nn_ → sm_T (mt_P sc_) 2 290 (50, [some (.inr (.inr (some (13, 0)))), some (.inl f_), some (.inl tt_), some (.inl k_), some (.inl c_), none, none], [], S_) (fun r_ => ∃ u_ S1_, r_ = (.inl u_, S1_, 0) ∧ vq_290 f_ b_ n_ p_ t_ S0_ u_ S1_)) ∧ (∀ (tt_ : Int) (k_ : Int) (c_ : Int) (S_ : sm_S), gi S_ → ai_fr (sx_W vw_290) S0_ S_ → ((tt_ = (t_ : Int) ∧ ¬ lx_l (b_ p_) ∧ lx_g (b_ p_)) ∧ (∃ i_ : Nat, k_ = ((p_ + i_ : Nat) : Int) ∧ p_ + i_ ≤ n_ ∧ lx_de b_ n_ (p_ + i_) = lx_de b_ n_ p_ ∧ (∀ j_, j_ < i_ → lx_g (b_ (p_ + j_)))) ∧ ((S_.2.2.1 121 0 (t_)) = lx_v b_ p_ (min (k_ - p_).toNat 6)) ∧ ((S_.2.2.1 120 0 (t_)) = (p_ : Int)) ∧ (∀ j_ : Nat, j_ ≠ t_ → (S_.2.2.1 119 0 (j_)) = (S0_.2.2.1 119 0 (j_)) ∧ (S_.2.2.1 120 0 (j_)) = (S0_.2.2.1 120 0 (j_)) ∧ (S_.2.2.1 121 0 (j_)) = (S0_.2.2.1 121 0 (j_)) ∧ (S_.2.2.2 122 0 (j_)) = (S0_.2.2.2 122 0 (j_)) ∧ (S_.2.2.1 123 0 (j_)) = (S0_.2.2.1 123 0 (j_))) ∧ True) → ((1300 - k_).toNat) < nn_ → sm_T (mt_P sc_) 2 290 (252, [some (.inr (.inr (some (13, 0)))), some (.inl f_), some (.inl tt_), some (.inl k_), some (.inl c_), none, none], [], S_) (fun r_ => ∃ u_ S1_, r_ = (.inl u_, S1_, 0) ∧ vq_290 f_ b_ n_ p_ t_ S0_ u_ S1_)) ∧ (∀ (tt_ : Int) (k_ : Int) (c_ : Int) (S_ : sm_S), gi S_ → ai_fr (sx_W vw_290) S0_ S_ → ((tt_ = (t_ : Int) ∧ k_ = (p_ : Int) ∧ c_ = rb b_ n_ p_) ∧ (hide (¬ lx_l (b_ p_) ∧ ¬ lx_g (b_ p_))) ∧ ((S_.2.2.1 120 0 (t_)) = (p_ : Int)) ∧ (∀ j_ : Nat, j_ ≠ t_ → (S_.2.2.1 119 0 (j_)) = (S0_.2.2.1 119 0 (j_)) ∧ (S_.2.2.1 120 0 (j_)) = (S0_.2.2.1 120 0 (j_)) ∧ (S_.2.2.1 121 0 (j_)) = (S0_.2.2.1 121 0 (j_)) ∧ (S_.2.2.2 122 0 (j_)) = (S0_.2.2.2 122 0 (j_)) ∧ (S_.2.2.1 123 0 (j_)) = (S0_.2.2.1 123 0 (j_))) ∧ True) → (0) < nn_ → sm_T (mt_P sc_) 2 290 (332, [some (.inr (.inr (some (13, 0)))), some (.inl f_), some (.inl tt_), some (.inl k_), some (.inl c_), none, none], [], S_) (fun r_ => ∃ u_ S1_, r_ = (.inl u_, S1_, 0) ∧ vq_290 f_ b_ n_ p_ t_ S0_ u_ S1_)) := by
  intro nn_
  induction nn_ with
  | zero => exact ⟨fun _ _ _ _ _ _ _ h_ => absurd h_ (Nat.not_lt_zero _), fun _ _ _ _ _ _ _ h_ => absurd h_ (Nat.not_lt_zero _), fun _ _ _ _ _ _ _ h_ => absurd h_ (Nat.not_lt_zero _)⟩
  | succ nn_ ih_ =>
    refine ⟨?_, ?_, ?_⟩
    · rintro tt_ k_ c_ S_ hI_ hF_ ⟨h0_, h1_, h4_, h5_, h6_, -⟩ hm_
      have hb1_ : S_.2.2.1 118 0 = b_ := (fr_arr hF_ rfl).trans hb_
      have hn2_ : (S_.1 13 0 2) = (n_ : Int) := (hF_.1 13 0 2 rfl).trans hn_
      have hbb_ : ∀ k_, -128 ≤ b_ k_ ∧ b_ k_ ≤ 127 := fun k_ => by rw [← hb1_]; exact hI_.2 118 0 k_
      obtain ⟨i_, hk_, hin_, h2_, h3_⟩ := h1_
      have ek_ : k_.toNat = p_ + i_ := by omega
      have ett_ : tt_.toNat = t_ := by omega
      have hbi_ := hbb_ (p_ + i_)
      have hbl_ := rb_l (n := n_) hbi_
      have hbg_ := rb_g (n := n_) hbi_
      refine sm_T_go 2 (c1 := (52, [some (.inr (.inr (some (13, 0)))), some (.inl f_), some (.inl tt_), some (.inl k_), some (.inl c_), none, none], [.inl k_, .inr (.inr (some (13, 0)))], S_)) rfl ?_
      refine sm_T_cal (d1 := 0) (Q1 := vq_282 k_ b_ n_ S_) rfl rfl (by decide) (vc_282 k_ b_ n_ S_ hI_ (by exact hb1_) (by exact hn2_) (by exact hn1_) (by omega)) (fun u_ S1_ p4_ => ?_)
      obtain ⟨rfl, v6_, rfl, p4_⟩ := p4_
      have hc52_ := p4_
      rw [ek_] at hc52_
      refine sm_T_cal (d1 := 0) (Q1 := vq_283 v6_ S_) rfl rfl (by decide) (vc_283 v6_ S_ hI_ ) (fun u_ S7_ p10_ => ?_)
      obtain ⟨rfl, v12_, rfl, p10_⟩ := p10_
      have hl55_ := if01 p10_
      rw [hc52_, hbl_] at hl55_
      refine sm_T_b0 (a := 1) (z := 14) rfl (fun c13_ => ?_) (fun c13_ => ?_)
      · have c13_ : v12_ ≠ 0 := of_decide_eq_true c13_
        refine sm_T_go 2 (c1 := (74, [some (.inr (.inr (some (13, 0)))), some (.inl f_), some (.inl tt_), some (.inl k_), some (.inl c_), none, none], [.inl f_, .inl k_], S_)) rfl ?_
        refine sm_T_bin (w := k_ - f_) rfl (bi_sub (by omega) (by omega) (by omega)) ?_
        refine sm_T_go 6 (c1 := (86, [some (.inr (.inr (some (13, 0)))), some (.inl f_), some (.inl tt_), some (.inl k_), some (.inl c_), some (.inl (k_ - f_)), none], [.inl 8, .inl (k_ - f_), .inl tt_, .inr (.inr (some (122, 0)))], S_)) rfl ?_
        refine sm_T_br (a := 3) (z := 28) rfl (fun c14_ => ?_) (fun c14_ => ?_)
        · have c14_ : 8 ≤ k_ - f_ := of_decide_eq_true c14_
          refine sm_T_go 3 (c1 := (119, [some (.inr (.inr (some (13, 0)))), some (.inl f_), some (.inl tt_), some (.inl k_), some (.inl c_), some (.inl (k_ - f_)), none], [.inl tt_, .inr (.inr (some (122, 0))), .inl tt_, .inr (.inr (some (122, 0)))], S_)) rfl ?_
          refine sm_T_lald (n := 65537) rfl rfl (by omega) (by omega) ?_
          refine sm_T_last (n := 65537) rfl rfl (by omega) (by omega) ?_
          have hI15_ : gi (sm_aL S_ 122 0 tt_.toNat ((S_.2.2.2 122 0 tt_.toNat))) := gi_aL hI_
          have hF16_ : ai_fr (sx_W vw_290) S0_ (sm_aL S_ 122 0 tt_.toNat ((S_.2.2.2 122 0 tt_.toNat))) := ai_fr_tr hF_ (ai_fr_aL rfl)
          refine sm_T_go 5 (c1 := (130, [some (.inr (.inr (some (13, 0)))), some (.inl f_), some (.inl tt_), some (.inl k_), some (.inl c_), some (.inl (k_ - f_)), none], [.inl 8, .inl (k_ - f_), .inl tt_, .inr (.inr (some (123, 0)))], sm_aL S_ 122 0 tt_.toNat ((S_.2.2.2 122 0 tt_.toNat)))) rfl ?_
          refine sm_T_br (a := 2) (z := 37) rfl (fun c17_ => ?_) (fun c17_ => ?_)
          · have c17_ : k_ - f_ < 8 := of_decide_eq_true c17_
            exfalso; omega
          · have c17_ : ¬ (k_ - f_ < 8) := of_decide_eq_false c17_
            refine sm_T_go 2 (c1 := (137, [some (.inr (.inr (some (13, 0)))), some (.inl f_), some (.inl tt_), some (.inl k_), some (.inl c_), some (.inl (k_ - f_)), none], [.inl 12, .inl (k_ - f_), .inl tt_, .inr (.inr (some (123, 0)))], sm_aL S_ 122 0 tt_.toNat ((S_.2.2.2 122 0 tt_.toNat)))) rfl ?_
            refine sm_T_br (a := 3) (z := 30) rfl (fun c18_ => ?_) (fun c18_ => ?_)
            · have c18_ : 12 ≤ k_ - f_ := of_decide_eq_true c18_
              refine sm_T_go 3 (c1 := (172, [some (.inr (.inr (some (13, 0)))), some (.inl f_), some (.inl tt_), some (.inl k_), some (.inl c_), some (.inl (k_ - f_)), none], [.inl tt_, .inr (.inr (some (123, 0))), .inl tt_, .inr (.inr (some (123, 0)))], sm_aL S_ 122 0 tt_.toNat ((S_.2.2.2 122 0 tt_.toNat)))) rfl ?_
              refine sm_T_iald (n := 65537) rfl rfl (by omega) (by omega) ?_
              have b19_ : (-2147483648) ≤ S_.2.2.1 123 0 tt_.toNat ∧ S_.2.2.1 123 0 tt_.toNat ≤ 2147483647 := hI_.2 123 0 _
              refine sm_T_iast (n := 65537) rfl rfl (by omega) (by omega) ?_
              have hI20_ : gi (sm_aI (sm_aL S_ 122 0 tt_.toNat ((S_.2.2.2 122 0 tt_.toNat))) 123 0 tt_.toNat (S_.2.2.1 123 0 tt_.toNat)) := gi_aI hI15_ (show (-2147483648) ≤ (S_.2.2.1 123 0 tt_.toNat) ∧ (S_.2.2.1 123 0 tt_.toNat) ≤ 2147483647 from ⟨by omega, by omega⟩)
              have hF21_ : ai_fr (sx_W vw_290) S0_ (sm_aI (sm_aL S_ 122 0 tt_.toNat ((S_.2.2.2 122 0 tt_.toNat))) 123 0 tt_.toNat (S_.2.2.1 123 0 tt_.toNat)) := ai_fr_tr hF16_ (ai_fr_aI rfl)
              refine sm_T_inc (a := 3) (z := 1) (v := k_) (w := k_ + 1) rfl rfl (by omega) (by omega) (by omega) ?_
              refine sm_T_go 1 (c1 := (50, [some (.inr (.inr (some (13, 0)))), some (.inl f_), some (.inl tt_), some (.inl (k_ + 1)), some (.inl c_), some (.inl (k_ - f_)), none], [], sm_aI (sm_aL S_ 122 0 tt_.toNat ((S_.2.2.2 122 0 tt_.toNat))) 123 0 tt_.toNat (S_.2.2.1 123 0 tt_.toNat))) rfl ?_
              refine sm_T_wk [some (.inr (.inr (some (13, 0)))), some (.inl f_), some (.inl tt_), some (.inl (k_ + 1)), some (.inl c_), none, none] (by exact ⟨rfl, rfl, rfl, rfl, rfl, trivial⟩) ?_
              refine ih_.1 tt_ (k_ + 1) c_ (sm_aI (sm_aL S_ 122 0 tt_.toNat ((S_.2.2.2 122 0 tt_.toNat))) 123 0 tt_.toNat (S_.2.2.1 123 0 tt_.toNat)) hI20_ hF21_ ⟨?_, ?_, ?_, ?_, ?_, trivial⟩ ?_
              · exact h0_
              · refine ⟨i_ + 1, by omega, by omega, ?_, ?_⟩
                · rw [← h2_, lx_e_go (p := p_ + i_)]
                  rw [if_pos (by omega)]; rfl
                · intro j_ hj_; by_cases hq_ : j_ = i_
                  · rw [hq_]; omega
                  · exact h3_ j_ (by omega)
              · have e5_ : (k_ - p_).toNat = i_ := by omega
                rw [show (k_ + 1 - p_).toNat = i_ + 1 by omega]
                rw [e5_] at h4_
                (try simp only [rd_eq, rd_ne, rf_eq, rf_nk, rf_nt, rd_fa, rd_af, rd_fl, rd_al, rd_lf, rd_la, rd_leq, rd_lne, rd_fr, rd_ar, ne_eq, Nat.reduceEqDiff, not_false_eq_true])
                simp only [ett_, if_true, reduceIte]
                have hbv_ : ∀ v_ : Int, v_ = rb b_ n_ (p_ + i_) → v_ = b_ (p_ + i_) := by intro v_ hv_; rw [hv_]; unfold rb; rw [if_pos (by omega)]; omega
                refine ⟨?_, ?_⟩
                · unfold rk1; first | (rw [if_pos (by omega)]; exact congr (congrArg l_4 h4_.1) (congr (congrArg l_s0 (congrArg l_i2l (hbv_ _ (by assumption)))) (by omega))) | (rw [if_neg (by omega)]; exact h4_.1)
                · unfold rk2; first | (rw [if_pos (by omega)]; exact congr (congrArg i_or h4_.2) (congr (congrArg i_shl (hbv_ _ (by assumption))) (by omega))) | (rw [if_neg (by omega)]; exact h4_.2)
              · (try simp only [rd_eq, rd_ne, rf_eq, rf_nk, rf_nt, rd_fa, rd_af, rd_fl, rd_al, rd_lf, rd_la, rd_leq, rd_lne, rd_fr, rd_ar, ne_eq, Nat.reduceEqDiff, not_false_eq_true])
                exact h5_
              · intro j_ hj_
                have hu_ := h6_ j_ hj_
                (try simp only [rd_eq, rd_ne, rf_eq, rf_nk, rf_nt, rd_fa, rd_af, rd_fl, rd_al, rd_lf, rd_la, rd_leq, rd_lne, rd_fr, rd_ar, ne_eq, Nat.reduceEqDiff, not_false_eq_true])
                simp only [ett_, if_neg hj_]
                exact hu_
              · omega
            · have c18_ : ¬ (12 ≤ k_ - f_) := of_decide_eq_false c18_
              refine sm_T_go 3 (c1 := (145, [some (.inr (.inr (some (13, 0)))), some (.inl f_), some (.inl tt_), some (.inl k_), some (.inl c_), some (.inl (k_ - f_)), none], [.inl tt_, .inr (.inr (some (123, 0))), .inl tt_, .inr (.inr (some (123, 0)))], sm_aL S_ 122 0 tt_.toNat ((S_.2.2.2 122 0 tt_.toNat)))) rfl ?_
              refine sm_T_iald (n := 65537) rfl rfl (by omega) (by omega) ?_
              have b22_ : (-2147483648) ≤ S_.2.2.1 123 0 tt_.toNat ∧ S_.2.2.1 123 0 tt_.toNat ≤ 2147483647 := hI_.2 123 0 _
              refine sm_T_go 2 (c1 := (148, [some (.inr (.inr (some (13, 0)))), some (.inl f_), some (.inl tt_), some (.inl k_), some (.inl c_), some (.inl (k_ - f_)), none], [.inl k_, .inr (.inr (some (13, 0))), .inl (S_.2.2.1 123 0 tt_.toNat), .inl tt_, .inr (.inr (some (123, 0)))], sm_aL S_ 122 0 tt_.toNat ((S_.2.2.2 122 0 tt_.toNat)))) rfl ?_
              refine sm_T_cal (d1 := 0) (Q1 := vq_282 k_ b_ n_ (sm_aL S_ 122 0 tt_.toNat ((S_.2.2.2 122 0 tt_.toNat)))) rfl rfl (by decide) (vc_282 k_ b_ n_ (sm_aL S_ 122 0 tt_.toNat ((S_.2.2.2 122 0 tt_.toNat))) hI15_ (by exact hb1_) (by exact hn2_) (by exact hn1_) (by omega)) (fun u_ S23_ p26_ => ?_)
              obtain ⟨rfl, v28_, rfl, p26_⟩ := p26_
              have hc148_ := p26_
              rw [ek_] at hc148_
              refine sm_T_go 4 (c1 := (159, [some (.inr (.inr (some (13, 0)))), some (.inl f_), some (.inl tt_), some (.inl k_), some (.inl c_), some (.inl (k_ - f_)), none], [.inl 8, .inl (k_ - f_), .inl 8, .inl 24, .inl v28_, .inl (S_.2.2.1 123 0 tt_.toNat), .inl tt_, .inr (.inr (some (123, 0)))], sm_aL S_ 122 0 tt_.toNat ((S_.2.2.2 122 0 tt_.toNat)))) rfl ?_
              refine sm_T_bin (w := k_ - f_ - 8) rfl (bi_sub (by omega) (by omega) (by omega)) ?_
              refine sm_T_bin (w := 8 * k_ - 8 * f_ - 64) rfl (bi_mul (by omega) (by omega) (by omega)) ?_
              refine sm_T_bin (w := -(8 * k_) + 8 * f_ + 88) rfl (bi_sub (by omega) (by omega) (by omega)) ?_
              refine sm_T_bin (w := (i_shl v28_ (-(8 * k_) + 8 * f_ + 88))) rfl rfl ?_
              refine sm_T_bin (w := (i_or (S_.2.2.1 123 0 tt_.toNat) (i_shl v28_ (-(8 * k_) + 8 * f_ + 88)))) rfl rfl ?_
              have b29_ := i_or_n (S_.2.2.1 123 0 tt_.toNat) (i_shl v28_ (-(8 * k_) + 8 * f_ + 88))
              refine sm_T_go 1 (c1 := (173, [some (.inr (.inr (some (13, 0)))), some (.inl f_), some (.inl tt_), some (.inl k_), some (.inl c_), some (.inl (k_ - f_)), none], [.inl (i_or (S_.2.2.1 123 0 tt_.toNat) (i_shl v28_ (-(8 * k_) + 8 * f_ + 88))), .inl tt_, .inr (.inr (some (123, 0)))], sm_aL S_ 122 0 tt_.toNat ((S_.2.2.2 122 0 tt_.toNat)))) rfl ?_
              refine sm_T_iast (n := 65537) rfl rfl (by omega) (by omega) ?_
              have hI30_ : gi (sm_aI (sm_aL S_ 122 0 tt_.toNat ((S_.2.2.2 122 0 tt_.toNat))) 123 0 tt_.toNat (i_or (S_.2.2.1 123 0 tt_.toNat) (i_shl v28_ (-(8 * k_) + 8 * f_ + 88)))) := gi_aI hI15_ (show (-2147483648) ≤ (i_or (S_.2.2.1 123 0 tt_.toNat) (i_shl v28_ (-(8 * k_) + 8 * f_ + 88))) ∧ (i_or (S_.2.2.1 123 0 tt_.toNat) (i_shl v28_ (-(8 * k_) + 8 * f_ + 88))) ≤ 2147483647 from ⟨by omega, by omega⟩)
              have hF31_ : ai_fr (sx_W vw_290) S0_ (sm_aI (sm_aL S_ 122 0 tt_.toNat ((S_.2.2.2 122 0 tt_.toNat))) 123 0 tt_.toNat (i_or (S_.2.2.1 123 0 tt_.toNat) (i_shl v28_ (-(8 * k_) + 8 * f_ + 88)))) := ai_fr_tr hF16_ (ai_fr_aI rfl)
              refine sm_T_inc (a := 3) (z := 1) (v := k_) (w := k_ + 1) rfl rfl (by omega) (by omega) (by omega) ?_
              refine sm_T_go 1 (c1 := (50, [some (.inr (.inr (some (13, 0)))), some (.inl f_), some (.inl tt_), some (.inl (k_ + 1)), some (.inl c_), some (.inl (k_ - f_)), none], [], sm_aI (sm_aL S_ 122 0 tt_.toNat ((S_.2.2.2 122 0 tt_.toNat))) 123 0 tt_.toNat (i_or (S_.2.2.1 123 0 tt_.toNat) (i_shl v28_ (-(8 * k_) + 8 * f_ + 88))))) rfl ?_
              refine sm_T_wk [some (.inr (.inr (some (13, 0)))), some (.inl f_), some (.inl tt_), some (.inl (k_ + 1)), some (.inl c_), none, none] (by exact ⟨rfl, rfl, rfl, rfl, rfl, trivial⟩) ?_
              refine ih_.1 tt_ (k_ + 1) c_ (sm_aI (sm_aL S_ 122 0 tt_.toNat ((S_.2.2.2 122 0 tt_.toNat))) 123 0 tt_.toNat (i_or (S_.2.2.1 123 0 tt_.toNat) (i_shl v28_ (-(8 * k_) + 8 * f_ + 88)))) hI30_ hF31_ ⟨?_, ?_, ?_, ?_, ?_, trivial⟩ ?_
              · exact h0_
              · refine ⟨i_ + 1, by omega, by omega, ?_, ?_⟩
                · rw [← h2_, lx_e_go (p := p_ + i_)]
                  rw [if_pos (by omega)]; rfl
                · intro j_ hj_; by_cases hq_ : j_ = i_
                  · rw [hq_]; omega
                  · exact h3_ j_ (by omega)
              · have e5_ : (k_ - p_).toNat = i_ := by omega
                rw [show (k_ + 1 - p_).toNat = i_ + 1 by omega]
                rw [e5_] at h4_
                (try simp only [rd_eq, rd_ne, rf_eq, rf_nk, rf_nt, rd_fa, rd_af, rd_fl, rd_al, rd_lf, rd_la, rd_leq, rd_lne, rd_fr, rd_ar, ne_eq, Nat.reduceEqDiff, not_false_eq_true])
                simp only [ett_, if_true, reduceIte]
                have hbv_ : ∀ v_ : Int, v_ = rb b_ n_ (p_ + i_) → v_ = b_ (p_ + i_) := by intro v_ hv_; rw [hv_]; unfold rb; rw [if_pos (by omega)]; omega
                refine ⟨?_, ?_⟩
                · unfold rk1; first | (rw [if_pos (by omega)]; exact congr (congrArg l_4 h4_.1) (congr (congrArg l_s0 (congrArg l_i2l (hbv_ _ (by assumption)))) (by omega))) | (rw [if_neg (by omega)]; exact h4_.1)
                · unfold rk2; first | (rw [if_pos (by omega)]; exact congr (congrArg i_or h4_.2) (congr (congrArg i_shl (hbv_ _ (by assumption))) (by omega))) | (rw [if_neg (by omega)]; exact h4_.2)
              · (try simp only [rd_eq, rd_ne, rf_eq, rf_nk, rf_nt, rd_fa, rd_af, rd_fl, rd_al, rd_lf, rd_la, rd_leq, rd_lne, rd_fr, rd_ar, ne_eq, Nat.reduceEqDiff, not_false_eq_true])
                exact h5_
              · intro j_ hj_
                have hu_ := h6_ j_ hj_
                (try simp only [rd_eq, rd_ne, rf_eq, rf_nk, rf_nt, rd_fa, rd_af, rd_fl, rd_al, rd_lf, rd_la, rd_leq, rd_lne, rd_fr, rd_ar, ne_eq, Nat.reduceEqDiff, not_false_eq_true])
                simp only [ett_, if_neg hj_]
                exact hu_
              · omega
        · have c14_ : ¬ (8 ≤ k_ - f_) := of_decide_eq_false c14_
          refine sm_T_go 3 (c1 := (94, [some (.inr (.inr (some (13, 0)))), some (.inl f_), some (.inl tt_), some (.inl k_), some (.inl c_), some (.inl (k_ - f_)), none], [.inl tt_, .inr (.inr (some (122, 0))), .inl tt_, .inr (.inr (some (122, 0)))], S_)) rfl ?_
          refine sm_T_lald (n := 65537) rfl rfl (by omega) (by omega) ?_
          refine sm_T_go 2 (c1 := (97, [some (.inr (.inr (some (13, 0)))), some (.inl f_), some (.inl tt_), some (.inl k_), some (.inl c_), some (.inl (k_ - f_)), none], [.inl k_, .inr (.inr (some (13, 0))), .inr (.inl (S_.2.2.2 122 0 tt_.toNat)), .inl tt_, .inr (.inr (some (122, 0)))], S_)) rfl ?_
          refine sm_T_cal (d1 := 0) (Q1 := vq_282 k_ b_ n_ S_) rfl rfl (by decide) (vc_282 k_ b_ n_ S_ hI_ (by exact hb1_) (by exact hn2_) (by exact hn1_) (by omega)) (fun u_ S32_ p35_ => ?_)
          obtain ⟨rfl, v37_, rfl, p35_⟩ := p35_
          have hc97_ := p35_
          rw [ek_] at hc97_
          refine sm_T_go 4 (c1 := (107, [some (.inr (.inr (some (13, 0)))), some (.inl f_), some (.inl tt_), some (.inl k_), some (.inl c_), some (.inl (k_ - f_)), none], [.inl (k_ - f_), .inl 8, .inl 56, .inr (.inl (l_i2l v37_)), .inr (.inl (S_.2.2.2 122 0 tt_.toNat)), .inl tt_, .inr (.inr (some (122, 0)))], S_)) rfl ?_
          refine sm_T_bin (w := 8 * k_ - 8 * f_) rfl (bi_mul (by omega) (by omega) (by omega)) ?_
          refine sm_T_bin (w := -(8 * k_) + 8 * f_ + 56) rfl (bi_sub (by omega) (by omega) (by omega)) ?_
          refine sm_T_go 3 (c1 := (120, [some (.inr (.inr (some (13, 0)))), some (.inl f_), some (.inl tt_), some (.inl k_), some (.inl c_), some (.inl (k_ - f_)), none], [.inr (.inl (l_4 ((S_.2.2.2 122 0 tt_.toNat)) ((l_s0 ((l_i2l v37_)) (-(8 * k_) + 8 * f_ + 56))))), .inl tt_, .inr (.inr (some (122, 0)))], S_)) rfl ?_
          refine sm_T_last (n := 65537) rfl rfl (by omega) (by omega) ?_
          have hI38_ : gi (sm_aL S_ 122 0 tt_.toNat ((l_4 ((S_.2.2.2 122 0 tt_.toNat)) ((l_s0 ((l_i2l v37_)) (-(8 * k_) + 8 * f_ + 56)))))) := gi_aL hI_
          have hF39_ : ai_fr (sx_W vw_290) S0_ (sm_aL S_ 122 0 tt_.toNat ((l_4 ((S_.2.2.2 122 0 tt_.toNat)) ((l_s0 ((l_i2l v37_)) (-(8 * k_) + 8 * f_ + 56)))))) := ai_fr_tr hF_ (ai_fr_aL rfl)
          refine sm_T_go 5 (c1 := (130, [some (.inr (.inr (some (13, 0)))), some (.inl f_), some (.inl tt_), some (.inl k_), some (.inl c_), some (.inl (k_ - f_)), none], [.inl 8, .inl (k_ - f_), .inl tt_, .inr (.inr (some (123, 0)))], sm_aL S_ 122 0 tt_.toNat ((l_4 ((S_.2.2.2 122 0 tt_.toNat)) ((l_s0 ((l_i2l v37_)) (-(8 * k_) + 8 * f_ + 56))))))) rfl ?_
          refine sm_T_br (a := 2) (z := 37) rfl (fun c40_ => ?_) (fun c40_ => ?_)
          · have c40_ : k_ - f_ < 8 := of_decide_eq_true c40_
            refine sm_T_go 3 (c1 := (172, [some (.inr (.inr (some (13, 0)))), some (.inl f_), some (.inl tt_), some (.inl k_), some (.inl c_), some (.inl (k_ - f_)), none], [.inl tt_, .inr (.inr (some (123, 0))), .inl tt_, .inr (.inr (some (123, 0)))], sm_aL S_ 122 0 tt_.toNat ((l_4 ((S_.2.2.2 122 0 tt_.toNat)) ((l_s0 ((l_i2l v37_)) (-(8 * k_) + 8 * f_ + 56))))))) rfl ?_
            refine sm_T_iald (n := 65537) rfl rfl (by omega) (by omega) ?_
            have b41_ : (-2147483648) ≤ S_.2.2.1 123 0 tt_.toNat ∧ S_.2.2.1 123 0 tt_.toNat ≤ 2147483647 := hI_.2 123 0 _
            refine sm_T_iast (n := 65537) rfl rfl (by omega) (by omega) ?_
            have hI42_ : gi (sm_aI (sm_aL S_ 122 0 tt_.toNat ((l_4 ((S_.2.2.2 122 0 tt_.toNat)) ((l_s0 ((l_i2l v37_)) (-(8 * k_) + 8 * f_ + 56)))))) 123 0 tt_.toNat (S_.2.2.1 123 0 tt_.toNat)) := gi_aI hI38_ (show (-2147483648) ≤ (S_.2.2.1 123 0 tt_.toNat) ∧ (S_.2.2.1 123 0 tt_.toNat) ≤ 2147483647 from ⟨by omega, by omega⟩)
            have hF43_ : ai_fr (sx_W vw_290) S0_ (sm_aI (sm_aL S_ 122 0 tt_.toNat ((l_4 ((S_.2.2.2 122 0 tt_.toNat)) ((l_s0 ((l_i2l v37_)) (-(8 * k_) + 8 * f_ + 56)))))) 123 0 tt_.toNat (S_.2.2.1 123 0 tt_.toNat)) := ai_fr_tr hF39_ (ai_fr_aI rfl)
            refine sm_T_inc (a := 3) (z := 1) (v := k_) (w := k_ + 1) rfl rfl (by omega) (by omega) (by omega) ?_
            refine sm_T_go 1 (c1 := (50, [some (.inr (.inr (some (13, 0)))), some (.inl f_), some (.inl tt_), some (.inl (k_ + 1)), some (.inl c_), some (.inl (k_ - f_)), none], [], sm_aI (sm_aL S_ 122 0 tt_.toNat ((l_4 ((S_.2.2.2 122 0 tt_.toNat)) ((l_s0 ((l_i2l v37_)) (-(8 * k_) + 8 * f_ + 56)))))) 123 0 tt_.toNat (S_.2.2.1 123 0 tt_.toNat))) rfl ?_
            refine sm_T_wk [some (.inr (.inr (some (13, 0)))), some (.inl f_), some (.inl tt_), some (.inl (k_ + 1)), some (.inl c_), none, none] (by exact ⟨rfl, rfl, rfl, rfl, rfl, trivial⟩) ?_
            refine ih_.1 tt_ (k_ + 1) c_ (sm_aI (sm_aL S_ 122 0 tt_.toNat ((l_4 ((S_.2.2.2 122 0 tt_.toNat)) ((l_s0 ((l_i2l v37_)) (-(8 * k_) + 8 * f_ + 56)))))) 123 0 tt_.toNat (S_.2.2.1 123 0 tt_.toNat)) hI42_ hF43_ ⟨?_, ?_, ?_, ?_, ?_, trivial⟩ ?_
            · exact h0_
            · refine ⟨i_ + 1, by omega, by omega, ?_, ?_⟩
              · rw [← h2_, lx_e_go (p := p_ + i_)]
                rw [if_pos (by omega)]; rfl
              · intro j_ hj_; by_cases hq_ : j_ = i_
                · rw [hq_]; omega
                · exact h3_ j_ (by omega)
            · have e5_ : (k_ - p_).toNat = i_ := by omega
              rw [show (k_ + 1 - p_).toNat = i_ + 1 by omega]
              rw [e5_] at h4_
              (try simp only [rd_eq, rd_ne, rf_eq, rf_nk, rf_nt, rd_fa, rd_af, rd_fl, rd_al, rd_lf, rd_la, rd_leq, rd_lne, rd_fr, rd_ar, ne_eq, Nat.reduceEqDiff, not_false_eq_true])
              simp only [ett_, if_true, reduceIte]
              have hbv_ : ∀ v_ : Int, v_ = rb b_ n_ (p_ + i_) → v_ = b_ (p_ + i_) := by intro v_ hv_; rw [hv_]; unfold rb; rw [if_pos (by omega)]; omega
              refine ⟨?_, ?_⟩
              · unfold rk1; first | (rw [if_pos (by omega)]; exact congr (congrArg l_4 h4_.1) (congr (congrArg l_s0 (congrArg l_i2l (hbv_ _ (by assumption)))) (by omega))) | (rw [if_neg (by omega)]; exact h4_.1)
              · unfold rk2; first | (rw [if_pos (by omega)]; exact congr (congrArg i_or h4_.2) (congr (congrArg i_shl (hbv_ _ (by assumption))) (by omega))) | (rw [if_neg (by omega)]; exact h4_.2)
            · (try simp only [rd_eq, rd_ne, rf_eq, rf_nk, rf_nt, rd_fa, rd_af, rd_fl, rd_al, rd_lf, rd_la, rd_leq, rd_lne, rd_fr, rd_ar, ne_eq, Nat.reduceEqDiff, not_false_eq_true])
              exact h5_
            · intro j_ hj_
              have hu_ := h6_ j_ hj_
              (try simp only [rd_eq, rd_ne, rf_eq, rf_nk, rf_nt, rd_fa, rd_af, rd_fl, rd_al, rd_lf, rd_la, rd_leq, rd_lne, rd_fr, rd_ar, ne_eq, Nat.reduceEqDiff, not_false_eq_true])
              simp only [ett_, if_neg hj_]
              exact hu_
            · omega
          · have c40_ : ¬ (k_ - f_ < 8) := of_decide_eq_false c40_
            exfalso; omega
      · have c13_ : ¬ (v12_ ≠ 0) := of_decide_eq_false c13_
        refine sm_T_go 2 (c1 := (63, [some (.inr (.inr (some (13, 0)))), some (.inl f_), some (.inl tt_), some (.inl k_), some (.inl c_), none, none], [.inl k_, .inr (.inr (some (13, 0)))], S_)) rfl ?_
        refine sm_T_cal (d1 := 0) (Q1 := vq_282 k_ b_ n_ S_) rfl rfl (by decide) (vc_282 k_ b_ n_ S_ hI_ (by exact hb1_) (by exact hn2_) (by exact hn1_) (by omega)) (fun u_ S44_ p47_ => ?_)
        obtain ⟨rfl, v49_, rfl, p47_⟩ := p47_
        have hc63_ := p47_
        rw [ek_] at hc63_
        refine sm_T_cal (d1 := 0) (Q1 := vq_284 v49_ S_) rfl rfl (by decide) (vc_284 v49_ S_ hI_ ) (fun u_ S50_ p53_ => ?_)
        obtain ⟨rfl, v55_, rfl, p53_⟩ := p53_
        have hg66_ := if01 p53_
        rw [hc63_, hbg_] at hg66_
        refine sm_T_b0 (a := 0) (z := 111) rfl (fun c56_ => ?_) (fun c56_ => ?_)
        · have c56_ : v55_ = 0 := of_decide_eq_true c56_
          refine sm_T_go 6 (c1 := (190, [some (.inr (.inr (some (13, 0)))), some (.inl f_), some (.inl tt_), some (.inl k_), some (.inl c_), none, none], [.inl tt_, .inr (.inr (some (123, 0))), .inl tt_, .inr (.inr (some (121, 0)))], S_)) rfl ?_
          refine sm_T_iald (n := 65537) rfl rfl (by omega) (by omega) ?_
          have b57_ : (-2147483648) ≤ S_.2.2.1 123 0 tt_.toNat ∧ S_.2.2.1 123 0 tt_.toNat ≤ 2147483647 := hI_.2 123 0 _
          refine sm_T_b0 (a := 1) (z := 15) rfl (fun c58_ => ?_) (fun c58_ => ?_)
          · have c58_ : (S_.2.2.1 123 0 tt_.toNat) ≠ 0 := of_decide_eq_true c58_
            refine sm_T_go 1 (c1 := (207, [some (.inr (.inr (some (13, 0)))), some (.inl f_), some (.inl tt_), some (.inl k_), some (.inl c_), none, none], [.inl 0, .inl tt_, .inr (.inr (some (121, 0)))], S_)) rfl ?_
            refine sm_T_iast (n := 65537) rfl rfl (by omega) (by omega) ?_
            have hI59_ : gi (sm_aI S_ 121 0 tt_.toNat 0) := gi_aI hI_ (show (-2147483648) ≤ 0 ∧ 0 ≤ 2147483647 from ⟨by omega, by omega⟩)
            have hF60_ : ai_fr (sx_W vw_290) S0_ (sm_aI S_ 121 0 tt_.toNat 0) := ai_fr_tr hF_ (ai_fr_aI rfl)
            refine sm_T_go 5 (c1 := (215, [some (.inr (.inr (some (13, 0)))), some (.inl f_), some (.inl tt_), some (.inl k_), some (.inl c_), none, none], [.inl f_, .inl k_, .inl tt_, .inr (.inr (some (119, 0)))], sm_aI S_ 121 0 tt_.toNat 0)) rfl ?_
            refine sm_T_bin (w := k_ - f_) rfl (bi_sub (by omega) (by omega) (by omega)) ?_
            refine sm_T_go 1 (c1 := (218, [some (.inr (.inr (some (13, 0)))), some (.inl f_), some (.inl tt_), some (.inl k_), some (.inl c_), none, none], [.inl 12, .inl (k_ - f_), .inl tt_, .inr (.inr (some (119, 0)))], sm_aI S_ 121 0 tt_.toNat 0)) rfl ?_
            refine sm_T_br (a := 5) (z := 7) rfl (fun c61_ => ?_) (fun c61_ => ?_)
            · have c61_ : k_ - f_ ≤ 12 := of_decide_eq_true c61_
              refine sm_T_go 3 (c1 := (230, [some (.inr (.inr (some (13, 0)))), some (.inl f_), some (.inl tt_), some (.inl k_), some (.inl c_), none, none], [.inl tt_, .inr (.inr (some (121, 0))), .inl tt_, .inr (.inr (some (119, 0)))], sm_aI S_ 121 0 tt_.toNat 0)) rfl ?_
              refine sm_T_iald (n := 65537) rfl rfl (by omega) (by omega) ?_
              have b62_ : (-2147483648) ≤ (sm_aI S_ 121 0 tt_.toNat 0).2.2.1 121 0 tt_.toNat ∧ (sm_aI S_ 121 0 tt_.toNat 0).2.2.1 121 0 tt_.toNat ≤ 2147483647 := hI59_.2 121 0 _
              refine sm_T_b0 (a := 5) (z := 8) rfl (fun c63_ => ?_) (fun c63_ => ?_)
              · have c63_ : ((sm_aI S_ 121 0 tt_.toNat 0).2.2.1 121 0 tt_.toNat) ≤ 0 := of_decide_eq_true c63_
                refine sm_T_go 2 (c1 := (241, [some (.inr (.inr (some (13, 0)))), some (.inl f_), some (.inl tt_), some (.inl k_), some (.inl c_), none, none], [.inl 1, .inl tt_, .inr (.inr (some (119, 0)))], sm_aI S_ 121 0 tt_.toNat 0)) rfl ?_
                refine sm_T_bas1 (n := 65537) rfl rfl (by omega) (by omega) (by decide) ?_
                have hI64_ : gi (sm_aI (sm_aI S_ 121 0 tt_.toNat 0) 119 0 tt_.toNat 1) := gi_aI hI59_ (show (-128) ≤ 1 ∧ 1 ≤ 127 from ⟨by omega, by omega⟩)
                have hF65_ : ai_fr (sx_W vw_290) S0_ (sm_aI (sm_aI S_ 121 0 tt_.toNat 0) 119 0 tt_.toNat 1) := ai_fr_tr hF60_ (ai_fr_aI rfl)
                refine sm_T_go 1 (c1 := (243, [some (.inr (.inr (some (13, 0)))), some (.inl f_), some (.inl tt_), some (.inl k_), some (.inl c_), none, none], [.inl k_], sm_aI (sm_aI S_ 121 0 tt_.toNat 0) 119 0 tt_.toNat 1)) rfl ?_
                refine sm_T_ri rfl ⟨_, _, rfl, _, rfl, hI64_, hF65_, ?_⟩
                have e4_ : lx_ne b_ n_ p_ = p_ + i_ := by rw [← h2_, lx_e_go]; exact if_neg (by omega)
                have hr_ := fun j_ hj_ => lx_x_b (h3_ j_ hj_)
                have e5_ : (k_ - p_).toNat = i_ := by omega
                rw [e5_] at h4_
                have hkd_ : lx_kd b_ n_ p_ = if i_ ≤ 12 then lx_wk (lx_pk b_ p_ i_) 7 else -1 := by unfold lx_kd; rw [if_neg (by omega), if_pos h0_.2, e4_, show p_ + i_ - p_ = i_ by omega]
                have hsz_ : lx_sz b_ n_ p_ = i_ := by unfold lx_sz; rw [if_neg (by omega), if_pos h0_.2, e4_]; omega
                have hen_ : lx_en b_ n_ p_ = p_ + i_ := by unfold lx_en; rw [if_neg (by omega), if_pos h0_.2, e4_]
                have hw7_ := lx_wk_7 (lx_pk b_ p_ i_)
                have wb := fun hi_ => w_both (b := b_) (p := p_) (L := i_) hi_ hr_
                (try simp only [rd_eq, rd_ne, rf_eq, rf_nk, rf_nt, rd_fa, rd_af, rd_fl, rd_al, rd_lf, rd_la, rd_leq, rd_lne, rd_fr, rd_ar, ne_eq, Nat.reduceEqDiff, not_false_eq_true] at *)
                simp only [ett_, if_true, reduceIte] at *
                first | (have hN_ := fun hi_ => ((if_neg (show ¬ rk2 b_ p_ i_ = 0 by omega)).symm.trans (wb hi_))) | (have hN_ := fun hi_ => ((if_pos (show rk2 b_ p_ i_ = 0 by omega)).symm.trans (wb hi_)); rw [← h4_.1, ← hwo_] at hN_)
                refine ⟨by omega, ⟨h5_.2, ?_, ?_, ?_⟩, ?_⟩
                · first | (rw [hkd_, if_neg (by omega)]; rfl) | (rw [hkd_, if_pos (by omega)]; exact tk_s1 hw7_ (hN_ (by omega)) (by omega)) | (rw [hkd_, if_pos (by omega)]; exact tk_s6 hw7_ (hN_ (by omega)) (by omega))
                · intro hx_; rw [hkd_] at hx_ ⊢; by_cases hi_ : i_ ≤ 12
                  · rw [if_pos hi_]; first | exact tk_n hw7_ (hN_ hi_) | (exfalso; omega)
                  · exact absurd (if_neg hi_) hx_
                · rw [hsz_]; intro _; exact h4_
                · intro j_ hj_; have hu_ := h6_ j_ hj_; simp only [if_neg hj_]; exact hu_
              · have c63_ : ¬ (((sm_aI S_ 121 0 tt_.toNat 0).2.2.1 121 0 tt_.toNat) ≤ 0) := of_decide_eq_false c63_
                refine sm_T_go 3 (c1 := (241, [some (.inr (.inr (some (13, 0)))), some (.inl f_), some (.inl tt_), some (.inl k_), some (.inl c_), none, none], [.inl 6, .inl tt_, .inr (.inr (some (119, 0)))], sm_aI S_ 121 0 tt_.toNat 0)) rfl ?_
                refine sm_T_bas1 (n := 65537) rfl rfl (by omega) (by omega) (by decide) ?_
                have hI66_ : gi (sm_aI (sm_aI S_ 121 0 tt_.toNat 0) 119 0 tt_.toNat 6) := gi_aI hI59_ (show (-128) ≤ 6 ∧ 6 ≤ 127 from ⟨by omega, by omega⟩)
                have hF67_ : ai_fr (sx_W vw_290) S0_ (sm_aI (sm_aI S_ 121 0 tt_.toNat 0) 119 0 tt_.toNat 6) := ai_fr_tr hF60_ (ai_fr_aI rfl)
                refine sm_T_go 1 (c1 := (243, [some (.inr (.inr (some (13, 0)))), some (.inl f_), some (.inl tt_), some (.inl k_), some (.inl c_), none, none], [.inl k_], sm_aI (sm_aI S_ 121 0 tt_.toNat 0) 119 0 tt_.toNat 6)) rfl ?_
                refine sm_T_ri rfl ⟨_, _, rfl, _, rfl, hI66_, hF67_, ?_⟩
                have e4_ : lx_ne b_ n_ p_ = p_ + i_ := by rw [← h2_, lx_e_go]; exact if_neg (by omega)
                have hr_ := fun j_ hj_ => lx_x_b (h3_ j_ hj_)
                have e5_ : (k_ - p_).toNat = i_ := by omega
                rw [e5_] at h4_
                have hkd_ : lx_kd b_ n_ p_ = if i_ ≤ 12 then lx_wk (lx_pk b_ p_ i_) 7 else -1 := by unfold lx_kd; rw [if_neg (by omega), if_pos h0_.2, e4_, show p_ + i_ - p_ = i_ by omega]
                have hsz_ : lx_sz b_ n_ p_ = i_ := by unfold lx_sz; rw [if_neg (by omega), if_pos h0_.2, e4_]; omega
                have hen_ : lx_en b_ n_ p_ = p_ + i_ := by unfold lx_en; rw [if_neg (by omega), if_pos h0_.2, e4_]
                have hw7_ := lx_wk_7 (lx_pk b_ p_ i_)
                have wb := fun hi_ => w_both (b := b_) (p := p_) (L := i_) hi_ hr_
                (try simp only [rd_eq, rd_ne, rf_eq, rf_nk, rf_nt, rd_fa, rd_af, rd_fl, rd_al, rd_lf, rd_la, rd_leq, rd_lne, rd_fr, rd_ar, ne_eq, Nat.reduceEqDiff, not_false_eq_true] at *)
                simp only [ett_, if_true, reduceIte] at *
                first | (have hN_ := fun hi_ => ((if_neg (show ¬ rk2 b_ p_ i_ = 0 by omega)).symm.trans (wb hi_))) | (have hN_ := fun hi_ => ((if_pos (show rk2 b_ p_ i_ = 0 by omega)).symm.trans (wb hi_)); rw [← h4_.1, ← hwo_] at hN_)
                refine ⟨by omega, ⟨h5_.2, ?_, ?_, ?_⟩, ?_⟩
                · first | (rw [hkd_, if_neg (by omega)]; rfl) | (rw [hkd_, if_pos (by omega)]; exact tk_s1 hw7_ (hN_ (by omega)) (by omega)) | (rw [hkd_, if_pos (by omega)]; exact tk_s6 hw7_ (hN_ (by omega)) (by omega))
                · intro hx_; rw [hkd_] at hx_ ⊢; by_cases hi_ : i_ ≤ 12
                  · rw [if_pos hi_]; first | exact tk_n hw7_ (hN_ hi_) | (exfalso; omega)
                  · exact absurd (if_neg hi_) hx_
                · rw [hsz_]; intro _; exact h4_
                · intro j_ hj_; have hu_ := h6_ j_ hj_; simp only [if_neg hj_]; exact hu_
            · have c61_ : ¬ (k_ - f_ ≤ 12) := of_decide_eq_false c61_
              refine sm_T_go 3 (c1 := (241, [some (.inr (.inr (some (13, 0)))), some (.inl f_), some (.inl tt_), some (.inl k_), some (.inl c_), none, none], [.inl 4, .inl tt_, .inr (.inr (some (119, 0)))], sm_aI S_ 121 0 tt_.toNat 0)) rfl ?_
              refine sm_T_bas1 (n := 65537) rfl rfl (by omega) (by omega) (by decide) ?_
              have hI68_ : gi (sm_aI (sm_aI S_ 121 0 tt_.toNat 0) 119 0 tt_.toNat 4) := gi_aI hI59_ (show (-128) ≤ 4 ∧ 4 ≤ 127 from ⟨by omega, by omega⟩)
              have hF69_ : ai_fr (sx_W vw_290) S0_ (sm_aI (sm_aI S_ 121 0 tt_.toNat 0) 119 0 tt_.toNat 4) := ai_fr_tr hF60_ (ai_fr_aI rfl)
              refine sm_T_go 1 (c1 := (243, [some (.inr (.inr (some (13, 0)))), some (.inl f_), some (.inl tt_), some (.inl k_), some (.inl c_), none, none], [.inl k_], sm_aI (sm_aI S_ 121 0 tt_.toNat 0) 119 0 tt_.toNat 4)) rfl ?_
              refine sm_T_ri rfl ⟨_, _, rfl, _, rfl, hI68_, hF69_, ?_⟩
              have e4_ : lx_ne b_ n_ p_ = p_ + i_ := by rw [← h2_, lx_e_go]; exact if_neg (by omega)
              have hr_ := fun j_ hj_ => lx_x_b (h3_ j_ hj_)
              have e5_ : (k_ - p_).toNat = i_ := by omega
              rw [e5_] at h4_
              have hkd_ : lx_kd b_ n_ p_ = if i_ ≤ 12 then lx_wk (lx_pk b_ p_ i_) 7 else -1 := by unfold lx_kd; rw [if_neg (by omega), if_pos h0_.2, e4_, show p_ + i_ - p_ = i_ by omega]
              have hsz_ : lx_sz b_ n_ p_ = i_ := by unfold lx_sz; rw [if_neg (by omega), if_pos h0_.2, e4_]; omega
              have hen_ : lx_en b_ n_ p_ = p_ + i_ := by unfold lx_en; rw [if_neg (by omega), if_pos h0_.2, e4_]
              have hw7_ := lx_wk_7 (lx_pk b_ p_ i_)
              have wb := fun hi_ => w_both (b := b_) (p := p_) (L := i_) hi_ hr_
              (try simp only [rd_eq, rd_ne, rf_eq, rf_nk, rf_nt, rd_fa, rd_af, rd_fl, rd_al, rd_lf, rd_la, rd_leq, rd_lne, rd_fr, rd_ar, ne_eq, Nat.reduceEqDiff, not_false_eq_true] at *)
              simp only [ett_, if_true, reduceIte] at *
              first | (have hN_ := fun hi_ => ((if_neg (show ¬ rk2 b_ p_ i_ = 0 by omega)).symm.trans (wb hi_))) | (have hN_ := fun hi_ => ((if_pos (show rk2 b_ p_ i_ = 0 by omega)).symm.trans (wb hi_)); rw [← h4_.1, ← hwo_] at hN_)
              refine ⟨by omega, ⟨h5_.2, ?_, ?_, ?_⟩, ?_⟩
              · first | (rw [hkd_, if_neg (by omega)]; rfl) | (rw [hkd_, if_pos (by omega)]; exact tk_s1 hw7_ (hN_ (by omega)) (by omega)) | (rw [hkd_, if_pos (by omega)]; exact tk_s6 hw7_ (hN_ (by omega)) (by omega))
              · intro hx_; rw [hkd_] at hx_ ⊢; by_cases hi_ : i_ ≤ 12
                · rw [if_pos hi_]; first | exact tk_n hw7_ (hN_ hi_) | (exfalso; omega)
                · exact absurd (if_neg hi_) hx_
              · rw [hsz_]; intro _; exact h4_
              · intro j_ hj_; have hu_ := h6_ j_ hj_; simp only [if_neg hj_]; exact hu_
          · have c58_ : ¬ ((S_.2.2.1 123 0 tt_.toNat) ≠ 0) := of_decide_eq_false c58_
            refine sm_T_go 3 (c1 := (199, [some (.inr (.inr (some (13, 0)))), some (.inl f_), some (.inl tt_), some (.inl k_), some (.inl c_), none, none], [.inl tt_, .inr (.inr (some (122, 0))), .inl tt_, .inr (.inr (some (121, 0)))], S_)) rfl ?_
            refine sm_T_lald (n := 65537) rfl rfl (by omega) (by omega) ?_
            refine sm_T_cal (d1 := 1) (Q1 := vq_288 ((S_.2.2.2 122 0 tt_.toNat)) S_) rfl rfl (by decide) (vc_288 ((S_.2.2.2 122 0 tt_.toNat)) S_ hI_ ) (fun u_ S70_ p73_ => ?_)
            obtain ⟨rfl, v75_, rfl, p73_⟩ := p73_
            have hwo_ := p73_
            have hwb_ := wo_b (S_.2.2.2 122 0 tt_.toNat)
            refine sm_T_go 1 (c1 := (207, [some (.inr (.inr (some (13, 0)))), some (.inl f_), some (.inl tt_), some (.inl k_), some (.inl c_), none, none], [.inl v75_, .inl tt_, .inr (.inr (some (121, 0)))], S_)) rfl ?_
            refine sm_T_iast (n := 65537) rfl rfl (by omega) (by omega) ?_
            have hI76_ : gi (sm_aI S_ 121 0 tt_.toNat v75_) := gi_aI hI_ (show (-2147483648) ≤ v75_ ∧ v75_ ≤ 2147483647 from ⟨by omega, by omega⟩)
            have hF77_ : ai_fr (sx_W vw_290) S0_ (sm_aI S_ 121 0 tt_.toNat v75_) := ai_fr_tr hF_ (ai_fr_aI rfl)
            refine sm_T_go 5 (c1 := (215, [some (.inr (.inr (some (13, 0)))), some (.inl f_), some (.inl tt_), some (.inl k_), some (.inl c_), none, none], [.inl f_, .inl k_, .inl tt_, .inr (.inr (some (119, 0)))], sm_aI S_ 121 0 tt_.toNat v75_)) rfl ?_
            refine sm_T_bin (w := k_ - f_) rfl (bi_sub (by omega) (by omega) (by omega)) ?_
            refine sm_T_go 1 (c1 := (218, [some (.inr (.inr (some (13, 0)))), some (.inl f_), some (.inl tt_), some (.inl k_), some (.inl c_), none, none], [.inl 12, .inl (k_ - f_), .inl tt_, .inr (.inr (some (119, 0)))], sm_aI S_ 121 0 tt_.toNat v75_)) rfl ?_
            refine sm_T_br (a := 5) (z := 7) rfl (fun c78_ => ?_) (fun c78_ => ?_)
            · have c78_ : k_ - f_ ≤ 12 := of_decide_eq_true c78_
              refine sm_T_go 3 (c1 := (230, [some (.inr (.inr (some (13, 0)))), some (.inl f_), some (.inl tt_), some (.inl k_), some (.inl c_), none, none], [.inl tt_, .inr (.inr (some (121, 0))), .inl tt_, .inr (.inr (some (119, 0)))], sm_aI S_ 121 0 tt_.toNat v75_)) rfl ?_
              refine sm_T_iald (n := 65537) rfl rfl (by omega) (by omega) ?_
              have b79_ : (-2147483648) ≤ (sm_aI S_ 121 0 tt_.toNat v75_).2.2.1 121 0 tt_.toNat ∧ (sm_aI S_ 121 0 tt_.toNat v75_).2.2.1 121 0 tt_.toNat ≤ 2147483647 := hI76_.2 121 0 _
              refine sm_T_b0 (a := 5) (z := 8) rfl (fun c80_ => ?_) (fun c80_ => ?_)
              · have c80_ : ((sm_aI S_ 121 0 tt_.toNat v75_).2.2.1 121 0 tt_.toNat) ≤ 0 := of_decide_eq_true c80_
                refine sm_T_go 2 (c1 := (241, [some (.inr (.inr (some (13, 0)))), some (.inl f_), some (.inl tt_), some (.inl k_), some (.inl c_), none, none], [.inl 1, .inl tt_, .inr (.inr (some (119, 0)))], sm_aI S_ 121 0 tt_.toNat v75_)) rfl ?_
                refine sm_T_bas1 (n := 65537) rfl rfl (by omega) (by omega) (by decide) ?_
                have hI81_ : gi (sm_aI (sm_aI S_ 121 0 tt_.toNat v75_) 119 0 tt_.toNat 1) := gi_aI hI76_ (show (-128) ≤ 1 ∧ 1 ≤ 127 from ⟨by omega, by omega⟩)
                have hF82_ : ai_fr (sx_W vw_290) S0_ (sm_aI (sm_aI S_ 121 0 tt_.toNat v75_) 119 0 tt_.toNat 1) := ai_fr_tr hF77_ (ai_fr_aI rfl)
                refine sm_T_go 1 (c1 := (243, [some (.inr (.inr (some (13, 0)))), some (.inl f_), some (.inl tt_), some (.inl k_), some (.inl c_), none, none], [.inl k_], sm_aI (sm_aI S_ 121 0 tt_.toNat v75_) 119 0 tt_.toNat 1)) rfl ?_
                refine sm_T_ri rfl ⟨_, _, rfl, _, rfl, hI81_, hF82_, ?_⟩
                have e4_ : lx_ne b_ n_ p_ = p_ + i_ := by rw [← h2_, lx_e_go]; exact if_neg (by omega)
                have hr_ := fun j_ hj_ => lx_x_b (h3_ j_ hj_)
                have e5_ : (k_ - p_).toNat = i_ := by omega
                rw [e5_] at h4_
                have hkd_ : lx_kd b_ n_ p_ = if i_ ≤ 12 then lx_wk (lx_pk b_ p_ i_) 7 else -1 := by unfold lx_kd; rw [if_neg (by omega), if_pos h0_.2, e4_, show p_ + i_ - p_ = i_ by omega]
                have hsz_ : lx_sz b_ n_ p_ = i_ := by unfold lx_sz; rw [if_neg (by omega), if_pos h0_.2, e4_]; omega
                have hen_ : lx_en b_ n_ p_ = p_ + i_ := by unfold lx_en; rw [if_neg (by omega), if_pos h0_.2, e4_]
                have hw7_ := lx_wk_7 (lx_pk b_ p_ i_)
                have wb := fun hi_ => w_both (b := b_) (p := p_) (L := i_) hi_ hr_
                (try simp only [rd_eq, rd_ne, rf_eq, rf_nk, rf_nt, rd_fa, rd_af, rd_fl, rd_al, rd_lf, rd_la, rd_leq, rd_lne, rd_fr, rd_ar, ne_eq, Nat.reduceEqDiff, not_false_eq_true] at *)
                simp only [ett_, if_true, reduceIte] at *
                first | (have hN_ := fun hi_ => ((if_neg (show ¬ rk2 b_ p_ i_ = 0 by omega)).symm.trans (wb hi_))) | (have hN_ := fun hi_ => ((if_pos (show rk2 b_ p_ i_ = 0 by omega)).symm.trans (wb hi_)); rw [← h4_.1, ← hwo_] at hN_)
                refine ⟨by omega, ⟨h5_.2, ?_, ?_, ?_⟩, ?_⟩
                · first | (rw [hkd_, if_neg (by omega)]; rfl) | (rw [hkd_, if_pos (by omega)]; exact tk_s1 hw7_ (hN_ (by omega)) (by omega)) | (rw [hkd_, if_pos (by omega)]; exact tk_s6 hw7_ (hN_ (by omega)) (by omega))
                · intro hx_; rw [hkd_] at hx_ ⊢; by_cases hi_ : i_ ≤ 12
                  · rw [if_pos hi_]; first | exact tk_n hw7_ (hN_ hi_) | (exfalso; omega)
                  · exact absurd (if_neg hi_) hx_
                · rw [hsz_]; intro _; exact h4_
                · intro j_ hj_; have hu_ := h6_ j_ hj_; simp only [if_neg hj_]; exact hu_
              · have c80_ : ¬ (((sm_aI S_ 121 0 tt_.toNat v75_).2.2.1 121 0 tt_.toNat) ≤ 0) := of_decide_eq_false c80_
                refine sm_T_go 3 (c1 := (241, [some (.inr (.inr (some (13, 0)))), some (.inl f_), some (.inl tt_), some (.inl k_), some (.inl c_), none, none], [.inl 6, .inl tt_, .inr (.inr (some (119, 0)))], sm_aI S_ 121 0 tt_.toNat v75_)) rfl ?_
                refine sm_T_bas1 (n := 65537) rfl rfl (by omega) (by omega) (by decide) ?_
                have hI83_ : gi (sm_aI (sm_aI S_ 121 0 tt_.toNat v75_) 119 0 tt_.toNat 6) := gi_aI hI76_ (show (-128) ≤ 6 ∧ 6 ≤ 127 from ⟨by omega, by omega⟩)
                have hF84_ : ai_fr (sx_W vw_290) S0_ (sm_aI (sm_aI S_ 121 0 tt_.toNat v75_) 119 0 tt_.toNat 6) := ai_fr_tr hF77_ (ai_fr_aI rfl)
                refine sm_T_go 1 (c1 := (243, [some (.inr (.inr (some (13, 0)))), some (.inl f_), some (.inl tt_), some (.inl k_), some (.inl c_), none, none], [.inl k_], sm_aI (sm_aI S_ 121 0 tt_.toNat v75_) 119 0 tt_.toNat 6)) rfl ?_
                refine sm_T_ri rfl ⟨_, _, rfl, _, rfl, hI83_, hF84_, ?_⟩
                have e4_ : lx_ne b_ n_ p_ = p_ + i_ := by rw [← h2_, lx_e_go]; exact if_neg (by omega)
                have hr_ := fun j_ hj_ => lx_x_b (h3_ j_ hj_)
                have e5_ : (k_ - p_).toNat = i_ := by omega
                rw [e5_] at h4_
                have hkd_ : lx_kd b_ n_ p_ = if i_ ≤ 12 then lx_wk (lx_pk b_ p_ i_) 7 else -1 := by unfold lx_kd; rw [if_neg (by omega), if_pos h0_.2, e4_, show p_ + i_ - p_ = i_ by omega]
                have hsz_ : lx_sz b_ n_ p_ = i_ := by unfold lx_sz; rw [if_neg (by omega), if_pos h0_.2, e4_]; omega
                have hen_ : lx_en b_ n_ p_ = p_ + i_ := by unfold lx_en; rw [if_neg (by omega), if_pos h0_.2, e4_]
                have hw7_ := lx_wk_7 (lx_pk b_ p_ i_)
                have wb := fun hi_ => w_both (b := b_) (p := p_) (L := i_) hi_ hr_
                (try simp only [rd_eq, rd_ne, rf_eq, rf_nk, rf_nt, rd_fa, rd_af, rd_fl, rd_al, rd_lf, rd_la, rd_leq, rd_lne, rd_fr, rd_ar, ne_eq, Nat.reduceEqDiff, not_false_eq_true] at *)
                simp only [ett_, if_true, reduceIte] at *
                first | (have hN_ := fun hi_ => ((if_neg (show ¬ rk2 b_ p_ i_ = 0 by omega)).symm.trans (wb hi_))) | (have hN_ := fun hi_ => ((if_pos (show rk2 b_ p_ i_ = 0 by omega)).symm.trans (wb hi_)); rw [← h4_.1, ← hwo_] at hN_)
                refine ⟨by omega, ⟨h5_.2, ?_, ?_, ?_⟩, ?_⟩
                · first | (rw [hkd_, if_neg (by omega)]; rfl) | (rw [hkd_, if_pos (by omega)]; exact tk_s1 hw7_ (hN_ (by omega)) (by omega)) | (rw [hkd_, if_pos (by omega)]; exact tk_s6 hw7_ (hN_ (by omega)) (by omega))
                · intro hx_; rw [hkd_] at hx_ ⊢; by_cases hi_ : i_ ≤ 12
                  · rw [if_pos hi_]; first | exact tk_n hw7_ (hN_ hi_) | (exfalso; omega)
                  · exact absurd (if_neg hi_) hx_
                · rw [hsz_]; intro _; exact h4_
                · intro j_ hj_; have hu_ := h6_ j_ hj_; simp only [if_neg hj_]; exact hu_
            · have c78_ : ¬ (k_ - f_ ≤ 12) := of_decide_eq_false c78_
              refine sm_T_go 3 (c1 := (241, [some (.inr (.inr (some (13, 0)))), some (.inl f_), some (.inl tt_), some (.inl k_), some (.inl c_), none, none], [.inl 4, .inl tt_, .inr (.inr (some (119, 0)))], sm_aI S_ 121 0 tt_.toNat v75_)) rfl ?_
              refine sm_T_bas1 (n := 65537) rfl rfl (by omega) (by omega) (by decide) ?_
              have hI85_ : gi (sm_aI (sm_aI S_ 121 0 tt_.toNat v75_) 119 0 tt_.toNat 4) := gi_aI hI76_ (show (-128) ≤ 4 ∧ 4 ≤ 127 from ⟨by omega, by omega⟩)
              have hF86_ : ai_fr (sx_W vw_290) S0_ (sm_aI (sm_aI S_ 121 0 tt_.toNat v75_) 119 0 tt_.toNat 4) := ai_fr_tr hF77_ (ai_fr_aI rfl)
              refine sm_T_go 1 (c1 := (243, [some (.inr (.inr (some (13, 0)))), some (.inl f_), some (.inl tt_), some (.inl k_), some (.inl c_), none, none], [.inl k_], sm_aI (sm_aI S_ 121 0 tt_.toNat v75_) 119 0 tt_.toNat 4)) rfl ?_
              refine sm_T_ri rfl ⟨_, _, rfl, _, rfl, hI85_, hF86_, ?_⟩
              have e4_ : lx_ne b_ n_ p_ = p_ + i_ := by rw [← h2_, lx_e_go]; exact if_neg (by omega)
              have hr_ := fun j_ hj_ => lx_x_b (h3_ j_ hj_)
              have e5_ : (k_ - p_).toNat = i_ := by omega
              rw [e5_] at h4_
              have hkd_ : lx_kd b_ n_ p_ = if i_ ≤ 12 then lx_wk (lx_pk b_ p_ i_) 7 else -1 := by unfold lx_kd; rw [if_neg (by omega), if_pos h0_.2, e4_, show p_ + i_ - p_ = i_ by omega]
              have hsz_ : lx_sz b_ n_ p_ = i_ := by unfold lx_sz; rw [if_neg (by omega), if_pos h0_.2, e4_]; omega
              have hen_ : lx_en b_ n_ p_ = p_ + i_ := by unfold lx_en; rw [if_neg (by omega), if_pos h0_.2, e4_]
              have hw7_ := lx_wk_7 (lx_pk b_ p_ i_)
              have wb := fun hi_ => w_both (b := b_) (p := p_) (L := i_) hi_ hr_
              (try simp only [rd_eq, rd_ne, rf_eq, rf_nk, rf_nt, rd_fa, rd_af, rd_fl, rd_al, rd_lf, rd_la, rd_leq, rd_lne, rd_fr, rd_ar, ne_eq, Nat.reduceEqDiff, not_false_eq_true] at *)
              simp only [ett_, if_true, reduceIte] at *
              first | (have hN_ := fun hi_ => ((if_neg (show ¬ rk2 b_ p_ i_ = 0 by omega)).symm.trans (wb hi_))) | (have hN_ := fun hi_ => ((if_pos (show rk2 b_ p_ i_ = 0 by omega)).symm.trans (wb hi_)); rw [← h4_.1, ← hwo_] at hN_)
              refine ⟨by omega, ⟨h5_.2, ?_, ?_, ?_⟩, ?_⟩
              · first | (rw [hkd_, if_neg (by omega)]; rfl) | (rw [hkd_, if_pos (by omega)]; exact tk_s1 hw7_ (hN_ (by omega)) (by omega)) | (rw [hkd_, if_pos (by omega)]; exact tk_s6 hw7_ (hN_ (by omega)) (by omega))
              · intro hx_; rw [hkd_] at hx_ ⊢; by_cases hi_ : i_ ≤ 12
                · rw [if_pos hi_]; first | exact tk_n hw7_ (hN_ hi_) | (exfalso; omega)
                · exact absurd (if_neg hi_) hx_
              · rw [hsz_]; intro _; exact h4_
              · intro j_ hj_; have hu_ := h6_ j_ hj_; simp only [if_neg hj_]; exact hu_
        · have c56_ : ¬ (v55_ = 0) := of_decide_eq_false c56_
          refine sm_T_go 2 (c1 := (74, [some (.inr (.inr (some (13, 0)))), some (.inl f_), some (.inl tt_), some (.inl k_), some (.inl c_), none, none], [.inl f_, .inl k_], S_)) rfl ?_
          refine sm_T_bin (w := k_ - f_) rfl (bi_sub (by omega) (by omega) (by omega)) ?_
          refine sm_T_go 6 (c1 := (86, [some (.inr (.inr (some (13, 0)))), some (.inl f_), some (.inl tt_), some (.inl k_), some (.inl c_), some (.inl (k_ - f_)), none], [.inl 8, .inl (k_ - f_), .inl tt_, .inr (.inr (some (122, 0)))], S_)) rfl ?_
          refine sm_T_br (a := 3) (z := 28) rfl (fun c87_ => ?_) (fun c87_ => ?_)
          · have c87_ : 8 ≤ k_ - f_ := of_decide_eq_true c87_
            refine sm_T_go 3 (c1 := (119, [some (.inr (.inr (some (13, 0)))), some (.inl f_), some (.inl tt_), some (.inl k_), some (.inl c_), some (.inl (k_ - f_)), none], [.inl tt_, .inr (.inr (some (122, 0))), .inl tt_, .inr (.inr (some (122, 0)))], S_)) rfl ?_
            refine sm_T_lald (n := 65537) rfl rfl (by omega) (by omega) ?_
            refine sm_T_last (n := 65537) rfl rfl (by omega) (by omega) ?_
            have hI88_ : gi (sm_aL S_ 122 0 tt_.toNat ((S_.2.2.2 122 0 tt_.toNat))) := gi_aL hI_
            have hF89_ : ai_fr (sx_W vw_290) S0_ (sm_aL S_ 122 0 tt_.toNat ((S_.2.2.2 122 0 tt_.toNat))) := ai_fr_tr hF_ (ai_fr_aL rfl)
            refine sm_T_go 5 (c1 := (130, [some (.inr (.inr (some (13, 0)))), some (.inl f_), some (.inl tt_), some (.inl k_), some (.inl c_), some (.inl (k_ - f_)), none], [.inl 8, .inl (k_ - f_), .inl tt_, .inr (.inr (some (123, 0)))], sm_aL S_ 122 0 tt_.toNat ((S_.2.2.2 122 0 tt_.toNat)))) rfl ?_
            refine sm_T_br (a := 2) (z := 37) rfl (fun c90_ => ?_) (fun c90_ => ?_)
            · have c90_ : k_ - f_ < 8 := of_decide_eq_true c90_
              exfalso; omega
            · have c90_ : ¬ (k_ - f_ < 8) := of_decide_eq_false c90_
              refine sm_T_go 2 (c1 := (137, [some (.inr (.inr (some (13, 0)))), some (.inl f_), some (.inl tt_), some (.inl k_), some (.inl c_), some (.inl (k_ - f_)), none], [.inl 12, .inl (k_ - f_), .inl tt_, .inr (.inr (some (123, 0)))], sm_aL S_ 122 0 tt_.toNat ((S_.2.2.2 122 0 tt_.toNat)))) rfl ?_
              refine sm_T_br (a := 3) (z := 30) rfl (fun c91_ => ?_) (fun c91_ => ?_)
              · have c91_ : 12 ≤ k_ - f_ := of_decide_eq_true c91_
                refine sm_T_go 3 (c1 := (172, [some (.inr (.inr (some (13, 0)))), some (.inl f_), some (.inl tt_), some (.inl k_), some (.inl c_), some (.inl (k_ - f_)), none], [.inl tt_, .inr (.inr (some (123, 0))), .inl tt_, .inr (.inr (some (123, 0)))], sm_aL S_ 122 0 tt_.toNat ((S_.2.2.2 122 0 tt_.toNat)))) rfl ?_
                refine sm_T_iald (n := 65537) rfl rfl (by omega) (by omega) ?_
                have b92_ : (-2147483648) ≤ S_.2.2.1 123 0 tt_.toNat ∧ S_.2.2.1 123 0 tt_.toNat ≤ 2147483647 := hI_.2 123 0 _
                refine sm_T_iast (n := 65537) rfl rfl (by omega) (by omega) ?_
                have hI93_ : gi (sm_aI (sm_aL S_ 122 0 tt_.toNat ((S_.2.2.2 122 0 tt_.toNat))) 123 0 tt_.toNat (S_.2.2.1 123 0 tt_.toNat)) := gi_aI hI88_ (show (-2147483648) ≤ (S_.2.2.1 123 0 tt_.toNat) ∧ (S_.2.2.1 123 0 tt_.toNat) ≤ 2147483647 from ⟨by omega, by omega⟩)
                have hF94_ : ai_fr (sx_W vw_290) S0_ (sm_aI (sm_aL S_ 122 0 tt_.toNat ((S_.2.2.2 122 0 tt_.toNat))) 123 0 tt_.toNat (S_.2.2.1 123 0 tt_.toNat)) := ai_fr_tr hF89_ (ai_fr_aI rfl)
                refine sm_T_inc (a := 3) (z := 1) (v := k_) (w := k_ + 1) rfl rfl (by omega) (by omega) (by omega) ?_
                refine sm_T_go 1 (c1 := (50, [some (.inr (.inr (some (13, 0)))), some (.inl f_), some (.inl tt_), some (.inl (k_ + 1)), some (.inl c_), some (.inl (k_ - f_)), none], [], sm_aI (sm_aL S_ 122 0 tt_.toNat ((S_.2.2.2 122 0 tt_.toNat))) 123 0 tt_.toNat (S_.2.2.1 123 0 tt_.toNat))) rfl ?_
                refine sm_T_wk [some (.inr (.inr (some (13, 0)))), some (.inl f_), some (.inl tt_), some (.inl (k_ + 1)), some (.inl c_), none, none] (by exact ⟨rfl, rfl, rfl, rfl, rfl, trivial⟩) ?_
                refine ih_.1 tt_ (k_ + 1) c_ (sm_aI (sm_aL S_ 122 0 tt_.toNat ((S_.2.2.2 122 0 tt_.toNat))) 123 0 tt_.toNat (S_.2.2.1 123 0 tt_.toNat)) hI93_ hF94_ ⟨?_, ?_, ?_, ?_, ?_, trivial⟩ ?_
                · exact h0_
                · refine ⟨i_ + 1, by omega, by omega, ?_, ?_⟩
                  · rw [← h2_, lx_e_go (p := p_ + i_)]
                    rw [if_pos (by omega)]; rfl
                  · intro j_ hj_; by_cases hq_ : j_ = i_
                    · rw [hq_]; omega
                    · exact h3_ j_ (by omega)
                · have e5_ : (k_ - p_).toNat = i_ := by omega
                  rw [show (k_ + 1 - p_).toNat = i_ + 1 by omega]
                  rw [e5_] at h4_
                  (try simp only [rd_eq, rd_ne, rf_eq, rf_nk, rf_nt, rd_fa, rd_af, rd_fl, rd_al, rd_lf, rd_la, rd_leq, rd_lne, rd_fr, rd_ar, ne_eq, Nat.reduceEqDiff, not_false_eq_true])
                  simp only [ett_, if_true, reduceIte]
                  have hbv_ : ∀ v_ : Int, v_ = rb b_ n_ (p_ + i_) → v_ = b_ (p_ + i_) := by intro v_ hv_; rw [hv_]; unfold rb; rw [if_pos (by omega)]; omega
                  refine ⟨?_, ?_⟩
                  · unfold rk1; first | (rw [if_pos (by omega)]; exact congr (congrArg l_4 h4_.1) (congr (congrArg l_s0 (congrArg l_i2l (hbv_ _ (by assumption)))) (by omega))) | (rw [if_neg (by omega)]; exact h4_.1)
                  · unfold rk2; first | (rw [if_pos (by omega)]; exact congr (congrArg i_or h4_.2) (congr (congrArg i_shl (hbv_ _ (by assumption))) (by omega))) | (rw [if_neg (by omega)]; exact h4_.2)
                · (try simp only [rd_eq, rd_ne, rf_eq, rf_nk, rf_nt, rd_fa, rd_af, rd_fl, rd_al, rd_lf, rd_la, rd_leq, rd_lne, rd_fr, rd_ar, ne_eq, Nat.reduceEqDiff, not_false_eq_true])
                  exact h5_
                · intro j_ hj_
                  have hu_ := h6_ j_ hj_
                  (try simp only [rd_eq, rd_ne, rf_eq, rf_nk, rf_nt, rd_fa, rd_af, rd_fl, rd_al, rd_lf, rd_la, rd_leq, rd_lne, rd_fr, rd_ar, ne_eq, Nat.reduceEqDiff, not_false_eq_true])
                  simp only [ett_, if_neg hj_]
                  exact hu_
                · omega
              · have c91_ : ¬ (12 ≤ k_ - f_) := of_decide_eq_false c91_
                refine sm_T_go 3 (c1 := (145, [some (.inr (.inr (some (13, 0)))), some (.inl f_), some (.inl tt_), some (.inl k_), some (.inl c_), some (.inl (k_ - f_)), none], [.inl tt_, .inr (.inr (some (123, 0))), .inl tt_, .inr (.inr (some (123, 0)))], sm_aL S_ 122 0 tt_.toNat ((S_.2.2.2 122 0 tt_.toNat)))) rfl ?_
                refine sm_T_iald (n := 65537) rfl rfl (by omega) (by omega) ?_
                have b95_ : (-2147483648) ≤ S_.2.2.1 123 0 tt_.toNat ∧ S_.2.2.1 123 0 tt_.toNat ≤ 2147483647 := hI_.2 123 0 _
                refine sm_T_go 2 (c1 := (148, [some (.inr (.inr (some (13, 0)))), some (.inl f_), some (.inl tt_), some (.inl k_), some (.inl c_), some (.inl (k_ - f_)), none], [.inl k_, .inr (.inr (some (13, 0))), .inl (S_.2.2.1 123 0 tt_.toNat), .inl tt_, .inr (.inr (some (123, 0)))], sm_aL S_ 122 0 tt_.toNat ((S_.2.2.2 122 0 tt_.toNat)))) rfl ?_
                refine sm_T_cal (d1 := 0) (Q1 := vq_282 k_ b_ n_ (sm_aL S_ 122 0 tt_.toNat ((S_.2.2.2 122 0 tt_.toNat)))) rfl rfl (by decide) (vc_282 k_ b_ n_ (sm_aL S_ 122 0 tt_.toNat ((S_.2.2.2 122 0 tt_.toNat))) hI88_ (by exact hb1_) (by exact hn2_) (by exact hn1_) (by omega)) (fun u_ S96_ p99_ => ?_)
                obtain ⟨rfl, v101_, rfl, p99_⟩ := p99_
                have hc148_ := p99_
                rw [ek_] at hc148_
                refine sm_T_go 4 (c1 := (159, [some (.inr (.inr (some (13, 0)))), some (.inl f_), some (.inl tt_), some (.inl k_), some (.inl c_), some (.inl (k_ - f_)), none], [.inl 8, .inl (k_ - f_), .inl 8, .inl 24, .inl v101_, .inl (S_.2.2.1 123 0 tt_.toNat), .inl tt_, .inr (.inr (some (123, 0)))], sm_aL S_ 122 0 tt_.toNat ((S_.2.2.2 122 0 tt_.toNat)))) rfl ?_
                refine sm_T_bin (w := k_ - f_ - 8) rfl (bi_sub (by omega) (by omega) (by omega)) ?_
                refine sm_T_bin (w := 8 * k_ - 8 * f_ - 64) rfl (bi_mul (by omega) (by omega) (by omega)) ?_
                refine sm_T_bin (w := -(8 * k_) + 8 * f_ + 88) rfl (bi_sub (by omega) (by omega) (by omega)) ?_
                refine sm_T_bin (w := (i_shl v101_ (-(8 * k_) + 8 * f_ + 88))) rfl rfl ?_
                refine sm_T_bin (w := (i_or (S_.2.2.1 123 0 tt_.toNat) (i_shl v101_ (-(8 * k_) + 8 * f_ + 88)))) rfl rfl ?_
                have b102_ := i_or_n (S_.2.2.1 123 0 tt_.toNat) (i_shl v101_ (-(8 * k_) + 8 * f_ + 88))
                refine sm_T_go 1 (c1 := (173, [some (.inr (.inr (some (13, 0)))), some (.inl f_), some (.inl tt_), some (.inl k_), some (.inl c_), some (.inl (k_ - f_)), none], [.inl (i_or (S_.2.2.1 123 0 tt_.toNat) (i_shl v101_ (-(8 * k_) + 8 * f_ + 88))), .inl tt_, .inr (.inr (some (123, 0)))], sm_aL S_ 122 0 tt_.toNat ((S_.2.2.2 122 0 tt_.toNat)))) rfl ?_
                refine sm_T_iast (n := 65537) rfl rfl (by omega) (by omega) ?_
                have hI103_ : gi (sm_aI (sm_aL S_ 122 0 tt_.toNat ((S_.2.2.2 122 0 tt_.toNat))) 123 0 tt_.toNat (i_or (S_.2.2.1 123 0 tt_.toNat) (i_shl v101_ (-(8 * k_) + 8 * f_ + 88)))) := gi_aI hI88_ (show (-2147483648) ≤ (i_or (S_.2.2.1 123 0 tt_.toNat) (i_shl v101_ (-(8 * k_) + 8 * f_ + 88))) ∧ (i_or (S_.2.2.1 123 0 tt_.toNat) (i_shl v101_ (-(8 * k_) + 8 * f_ + 88))) ≤ 2147483647 from ⟨by omega, by omega⟩)
                have hF104_ : ai_fr (sx_W vw_290) S0_ (sm_aI (sm_aL S_ 122 0 tt_.toNat ((S_.2.2.2 122 0 tt_.toNat))) 123 0 tt_.toNat (i_or (S_.2.2.1 123 0 tt_.toNat) (i_shl v101_ (-(8 * k_) + 8 * f_ + 88)))) := ai_fr_tr hF89_ (ai_fr_aI rfl)
                refine sm_T_inc (a := 3) (z := 1) (v := k_) (w := k_ + 1) rfl rfl (by omega) (by omega) (by omega) ?_
                refine sm_T_go 1 (c1 := (50, [some (.inr (.inr (some (13, 0)))), some (.inl f_), some (.inl tt_), some (.inl (k_ + 1)), some (.inl c_), some (.inl (k_ - f_)), none], [], sm_aI (sm_aL S_ 122 0 tt_.toNat ((S_.2.2.2 122 0 tt_.toNat))) 123 0 tt_.toNat (i_or (S_.2.2.1 123 0 tt_.toNat) (i_shl v101_ (-(8 * k_) + 8 * f_ + 88))))) rfl ?_
                refine sm_T_wk [some (.inr (.inr (some (13, 0)))), some (.inl f_), some (.inl tt_), some (.inl (k_ + 1)), some (.inl c_), none, none] (by exact ⟨rfl, rfl, rfl, rfl, rfl, trivial⟩) ?_
                refine ih_.1 tt_ (k_ + 1) c_ (sm_aI (sm_aL S_ 122 0 tt_.toNat ((S_.2.2.2 122 0 tt_.toNat))) 123 0 tt_.toNat (i_or (S_.2.2.1 123 0 tt_.toNat) (i_shl v101_ (-(8 * k_) + 8 * f_ + 88)))) hI103_ hF104_ ⟨?_, ?_, ?_, ?_, ?_, trivial⟩ ?_
                · exact h0_
                · refine ⟨i_ + 1, by omega, by omega, ?_, ?_⟩
                  · rw [← h2_, lx_e_go (p := p_ + i_)]
                    rw [if_pos (by omega)]; rfl
                  · intro j_ hj_; by_cases hq_ : j_ = i_
                    · rw [hq_]; omega
                    · exact h3_ j_ (by omega)
                · have e5_ : (k_ - p_).toNat = i_ := by omega
                  rw [show (k_ + 1 - p_).toNat = i_ + 1 by omega]
                  rw [e5_] at h4_
                  (try simp only [rd_eq, rd_ne, rf_eq, rf_nk, rf_nt, rd_fa, rd_af, rd_fl, rd_al, rd_lf, rd_la, rd_leq, rd_lne, rd_fr, rd_ar, ne_eq, Nat.reduceEqDiff, not_false_eq_true])
                  simp only [ett_, if_true, reduceIte]
                  have hbv_ : ∀ v_ : Int, v_ = rb b_ n_ (p_ + i_) → v_ = b_ (p_ + i_) := by intro v_ hv_; rw [hv_]; unfold rb; rw [if_pos (by omega)]; omega
                  refine ⟨?_, ?_⟩
                  · unfold rk1; first | (rw [if_pos (by omega)]; exact congr (congrArg l_4 h4_.1) (congr (congrArg l_s0 (congrArg l_i2l (hbv_ _ (by assumption)))) (by omega))) | (rw [if_neg (by omega)]; exact h4_.1)
                  · unfold rk2; first | (rw [if_pos (by omega)]; exact congr (congrArg i_or h4_.2) (congr (congrArg i_shl (hbv_ _ (by assumption))) (by omega))) | (rw [if_neg (by omega)]; exact h4_.2)
                · (try simp only [rd_eq, rd_ne, rf_eq, rf_nk, rf_nt, rd_fa, rd_af, rd_fl, rd_al, rd_lf, rd_la, rd_leq, rd_lne, rd_fr, rd_ar, ne_eq, Nat.reduceEqDiff, not_false_eq_true])
                  exact h5_
                · intro j_ hj_
                  have hu_ := h6_ j_ hj_
                  (try simp only [rd_eq, rd_ne, rf_eq, rf_nk, rf_nt, rd_fa, rd_af, rd_fl, rd_al, rd_lf, rd_la, rd_leq, rd_lne, rd_fr, rd_ar, ne_eq, Nat.reduceEqDiff, not_false_eq_true])
                  simp only [ett_, if_neg hj_]
                  exact hu_
                · omega
          · have c87_ : ¬ (8 ≤ k_ - f_) := of_decide_eq_false c87_
            refine sm_T_go 3 (c1 := (94, [some (.inr (.inr (some (13, 0)))), some (.inl f_), some (.inl tt_), some (.inl k_), some (.inl c_), some (.inl (k_ - f_)), none], [.inl tt_, .inr (.inr (some (122, 0))), .inl tt_, .inr (.inr (some (122, 0)))], S_)) rfl ?_
            refine sm_T_lald (n := 65537) rfl rfl (by omega) (by omega) ?_
            refine sm_T_go 2 (c1 := (97, [some (.inr (.inr (some (13, 0)))), some (.inl f_), some (.inl tt_), some (.inl k_), some (.inl c_), some (.inl (k_ - f_)), none], [.inl k_, .inr (.inr (some (13, 0))), .inr (.inl (S_.2.2.2 122 0 tt_.toNat)), .inl tt_, .inr (.inr (some (122, 0)))], S_)) rfl ?_
            refine sm_T_cal (d1 := 0) (Q1 := vq_282 k_ b_ n_ S_) rfl rfl (by decide) (vc_282 k_ b_ n_ S_ hI_ (by exact hb1_) (by exact hn2_) (by exact hn1_) (by omega)) (fun u_ S105_ p108_ => ?_)
            obtain ⟨rfl, v110_, rfl, p108_⟩ := p108_
            have hc97_ := p108_
            rw [ek_] at hc97_
            refine sm_T_go 4 (c1 := (107, [some (.inr (.inr (some (13, 0)))), some (.inl f_), some (.inl tt_), some (.inl k_), some (.inl c_), some (.inl (k_ - f_)), none], [.inl (k_ - f_), .inl 8, .inl 56, .inr (.inl (l_i2l v110_)), .inr (.inl (S_.2.2.2 122 0 tt_.toNat)), .inl tt_, .inr (.inr (some (122, 0)))], S_)) rfl ?_
            refine sm_T_bin (w := 8 * k_ - 8 * f_) rfl (bi_mul (by omega) (by omega) (by omega)) ?_
            refine sm_T_bin (w := -(8 * k_) + 8 * f_ + 56) rfl (bi_sub (by omega) (by omega) (by omega)) ?_
            refine sm_T_go 3 (c1 := (120, [some (.inr (.inr (some (13, 0)))), some (.inl f_), some (.inl tt_), some (.inl k_), some (.inl c_), some (.inl (k_ - f_)), none], [.inr (.inl (l_4 ((S_.2.2.2 122 0 tt_.toNat)) ((l_s0 ((l_i2l v110_)) (-(8 * k_) + 8 * f_ + 56))))), .inl tt_, .inr (.inr (some (122, 0)))], S_)) rfl ?_
            refine sm_T_last (n := 65537) rfl rfl (by omega) (by omega) ?_
            have hI111_ : gi (sm_aL S_ 122 0 tt_.toNat ((l_4 ((S_.2.2.2 122 0 tt_.toNat)) ((l_s0 ((l_i2l v110_)) (-(8 * k_) + 8 * f_ + 56)))))) := gi_aL hI_
            have hF112_ : ai_fr (sx_W vw_290) S0_ (sm_aL S_ 122 0 tt_.toNat ((l_4 ((S_.2.2.2 122 0 tt_.toNat)) ((l_s0 ((l_i2l v110_)) (-(8 * k_) + 8 * f_ + 56)))))) := ai_fr_tr hF_ (ai_fr_aL rfl)
            refine sm_T_go 5 (c1 := (130, [some (.inr (.inr (some (13, 0)))), some (.inl f_), some (.inl tt_), some (.inl k_), some (.inl c_), some (.inl (k_ - f_)), none], [.inl 8, .inl (k_ - f_), .inl tt_, .inr (.inr (some (123, 0)))], sm_aL S_ 122 0 tt_.toNat ((l_4 ((S_.2.2.2 122 0 tt_.toNat)) ((l_s0 ((l_i2l v110_)) (-(8 * k_) + 8 * f_ + 56))))))) rfl ?_
            refine sm_T_br (a := 2) (z := 37) rfl (fun c113_ => ?_) (fun c113_ => ?_)
            · have c113_ : k_ - f_ < 8 := of_decide_eq_true c113_
              refine sm_T_go 3 (c1 := (172, [some (.inr (.inr (some (13, 0)))), some (.inl f_), some (.inl tt_), some (.inl k_), some (.inl c_), some (.inl (k_ - f_)), none], [.inl tt_, .inr (.inr (some (123, 0))), .inl tt_, .inr (.inr (some (123, 0)))], sm_aL S_ 122 0 tt_.toNat ((l_4 ((S_.2.2.2 122 0 tt_.toNat)) ((l_s0 ((l_i2l v110_)) (-(8 * k_) + 8 * f_ + 56))))))) rfl ?_
              refine sm_T_iald (n := 65537) rfl rfl (by omega) (by omega) ?_
              have b114_ : (-2147483648) ≤ S_.2.2.1 123 0 tt_.toNat ∧ S_.2.2.1 123 0 tt_.toNat ≤ 2147483647 := hI_.2 123 0 _
              refine sm_T_iast (n := 65537) rfl rfl (by omega) (by omega) ?_
              have hI115_ : gi (sm_aI (sm_aL S_ 122 0 tt_.toNat ((l_4 ((S_.2.2.2 122 0 tt_.toNat)) ((l_s0 ((l_i2l v110_)) (-(8 * k_) + 8 * f_ + 56)))))) 123 0 tt_.toNat (S_.2.2.1 123 0 tt_.toNat)) := gi_aI hI111_ (show (-2147483648) ≤ (S_.2.2.1 123 0 tt_.toNat) ∧ (S_.2.2.1 123 0 tt_.toNat) ≤ 2147483647 from ⟨by omega, by omega⟩)
              have hF116_ : ai_fr (sx_W vw_290) S0_ (sm_aI (sm_aL S_ 122 0 tt_.toNat ((l_4 ((S_.2.2.2 122 0 tt_.toNat)) ((l_s0 ((l_i2l v110_)) (-(8 * k_) + 8 * f_ + 56)))))) 123 0 tt_.toNat (S_.2.2.1 123 0 tt_.toNat)) := ai_fr_tr hF112_ (ai_fr_aI rfl)
              refine sm_T_inc (a := 3) (z := 1) (v := k_) (w := k_ + 1) rfl rfl (by omega) (by omega) (by omega) ?_
              refine sm_T_go 1 (c1 := (50, [some (.inr (.inr (some (13, 0)))), some (.inl f_), some (.inl tt_), some (.inl (k_ + 1)), some (.inl c_), some (.inl (k_ - f_)), none], [], sm_aI (sm_aL S_ 122 0 tt_.toNat ((l_4 ((S_.2.2.2 122 0 tt_.toNat)) ((l_s0 ((l_i2l v110_)) (-(8 * k_) + 8 * f_ + 56)))))) 123 0 tt_.toNat (S_.2.2.1 123 0 tt_.toNat))) rfl ?_
              refine sm_T_wk [some (.inr (.inr (some (13, 0)))), some (.inl f_), some (.inl tt_), some (.inl (k_ + 1)), some (.inl c_), none, none] (by exact ⟨rfl, rfl, rfl, rfl, rfl, trivial⟩) ?_
              refine ih_.1 tt_ (k_ + 1) c_ (sm_aI (sm_aL S_ 122 0 tt_.toNat ((l_4 ((S_.2.2.2 122 0 tt_.toNat)) ((l_s0 ((l_i2l v110_)) (-(8 * k_) + 8 * f_ + 56)))))) 123 0 tt_.toNat (S_.2.2.1 123 0 tt_.toNat)) hI115_ hF116_ ⟨?_, ?_, ?_, ?_, ?_, trivial⟩ ?_
              · exact h0_
              · refine ⟨i_ + 1, by omega, by omega, ?_, ?_⟩
                · rw [← h2_, lx_e_go (p := p_ + i_)]
                  rw [if_pos (by omega)]; rfl
                · intro j_ hj_; by_cases hq_ : j_ = i_
                  · rw [hq_]; omega
                  · exact h3_ j_ (by omega)
              · have e5_ : (k_ - p_).toNat = i_ := by omega
                rw [show (k_ + 1 - p_).toNat = i_ + 1 by omega]
                rw [e5_] at h4_
                (try simp only [rd_eq, rd_ne, rf_eq, rf_nk, rf_nt, rd_fa, rd_af, rd_fl, rd_al, rd_lf, rd_la, rd_leq, rd_lne, rd_fr, rd_ar, ne_eq, Nat.reduceEqDiff, not_false_eq_true])
                simp only [ett_, if_true, reduceIte]
                have hbv_ : ∀ v_ : Int, v_ = rb b_ n_ (p_ + i_) → v_ = b_ (p_ + i_) := by intro v_ hv_; rw [hv_]; unfold rb; rw [if_pos (by omega)]; omega
                refine ⟨?_, ?_⟩
                · unfold rk1; first | (rw [if_pos (by omega)]; exact congr (congrArg l_4 h4_.1) (congr (congrArg l_s0 (congrArg l_i2l (hbv_ _ (by assumption)))) (by omega))) | (rw [if_neg (by omega)]; exact h4_.1)
                · unfold rk2; first | (rw [if_pos (by omega)]; exact congr (congrArg i_or h4_.2) (congr (congrArg i_shl (hbv_ _ (by assumption))) (by omega))) | (rw [if_neg (by omega)]; exact h4_.2)
              · (try simp only [rd_eq, rd_ne, rf_eq, rf_nk, rf_nt, rd_fa, rd_af, rd_fl, rd_al, rd_lf, rd_la, rd_leq, rd_lne, rd_fr, rd_ar, ne_eq, Nat.reduceEqDiff, not_false_eq_true])
                exact h5_
              · intro j_ hj_
                have hu_ := h6_ j_ hj_
                (try simp only [rd_eq, rd_ne, rf_eq, rf_nk, rf_nt, rd_fa, rd_af, rd_fl, rd_al, rd_lf, rd_la, rd_leq, rd_lne, rd_fr, rd_ar, ne_eq, Nat.reduceEqDiff, not_false_eq_true])
                simp only [ett_, if_neg hj_]
                exact hu_
              · omega
            · have c113_ : ¬ (k_ - f_ < 8) := of_decide_eq_false c113_
              exfalso; omega
    · rintro tt_ k_ c_ S_ hI_ hF_ ⟨h0_, h1_, h4_, h5_, h6_, -⟩ hm_
      have hb1_ : S_.2.2.1 118 0 = b_ := (fr_arr hF_ rfl).trans hb_
      have hn2_ : (S_.1 13 0 2) = (n_ : Int) := (hF_.1 13 0 2 rfl).trans hn_
      have hbb_ : ∀ k_, -128 ≤ b_ k_ ∧ b_ k_ ≤ 127 := fun k_ => by rw [← hb1_]; exact hI_.2 118 0 k_
      obtain ⟨i_, hk_, hin_, h2_, h3_⟩ := h1_
      have ek_ : k_.toNat = p_ + i_ := by omega
      have ett_ : tt_.toNat = t_ := by omega
      have hbi_ := hbb_ (p_ + i_)
      have hbl_ := rb_l (n := n_) hbi_
      have hbg_ := rb_g (n := n_) hbi_
      have ei_ : (k_ - p_).toNat = i_ := by omega
      have hv_ := lx_v_b (b := b_) (p := p_) (k := min i_ 6) (by omega) (fun j_ hj_ => h3_ j_ (by omega))
      have hv2_ : (10 : Int) ^ (min i_ 6) ≤ 10 ^ 6 := by exact_mod_cast Nat.pow_le_pow_right (by decide) (show min i_ 6 ≤ 6 by omega)
      have hv3_ : (10 : Int) ^ 6 = 1000000 := by decide
      refine sm_T_go 2 (c1 := (254, [some (.inr (.inr (some (13, 0)))), some (.inl f_), some (.inl tt_), some (.inl k_), some (.inl c_), none, none], [.inl k_, .inr (.inr (some (13, 0)))], S_)) rfl ?_
      refine sm_T_cal (d1 := 0) (Q1 := vq_282 k_ b_ n_ S_) rfl rfl (by decide) (vc_282 k_ b_ n_ S_ hI_ (by exact hb1_) (by exact hn2_) (by exact hn1_) (by omega)) (fun u_ S1_ p4_ => ?_)
      obtain ⟨rfl, v6_, rfl, p4_⟩ := p4_
      have hc254_ := p4_
      rw [ek_] at hc254_
      refine sm_T_cal (d1 := 0) (Q1 := vq_284 v6_ S_) rfl rfl (by decide) (vc_284 v6_ S_ hI_ ) (fun u_ S7_ p10_ => ?_)
      obtain ⟨rfl, v12_, rfl, p10_⟩ := p10_
      have hg257_ := if01 p10_
      rw [hc254_, hbg_] at hg257_
      refine sm_T_b0 (a := 0) (z := 50) rfl (fun c13_ => ?_) (fun c13_ => ?_)
      · have c13_ : v12_ = 0 := of_decide_eq_true c13_
        refine sm_T_go 5 (c1 := (317, [some (.inr (.inr (some (13, 0)))), some (.inl f_), some (.inl tt_), some (.inl k_), some (.inl c_), none, none], [.inl f_, .inl k_, .inl tt_, .inr (.inr (some (119, 0)))], S_)) rfl ?_
        refine sm_T_bin (w := k_ - f_) rfl (bi_sub (by omega) (by omega) (by omega)) ?_
        refine sm_T_go 1 (c1 := (320, [some (.inr (.inr (some (13, 0)))), some (.inl f_), some (.inl tt_), some (.inl k_), some (.inl c_), none, none], [.inl 6, .inl (k_ - f_), .inl tt_, .inr (.inr (some (119, 0)))], S_)) rfl ?_
        refine sm_T_br (a := 5) (z := 7) rfl (fun c14_ => ?_) (fun c14_ => ?_)
        · have c14_ : k_ - f_ ≤ 6 := of_decide_eq_true c14_
          refine sm_T_go 2 (c1 := (329, [some (.inr (.inr (some (13, 0)))), some (.inl f_), some (.inl tt_), some (.inl k_), some (.inl c_), none, none], [.inl 2, .inl tt_, .inr (.inr (some (119, 0)))], S_)) rfl ?_
          refine sm_T_bas1 (n := 65537) rfl rfl (by omega) (by omega) (by decide) ?_
          have hI15_ : gi (sm_aI S_ 119 0 tt_.toNat 2) := gi_aI hI_ (show (-128) ≤ 2 ∧ 2 ≤ 127 from ⟨by omega, by omega⟩)
          have hF16_ : ai_fr (sx_W vw_290) S0_ (sm_aI S_ 119 0 tt_.toNat 2) := ai_fr_tr hF_ (ai_fr_aI rfl)
          refine sm_T_go 1 (c1 := (331, [some (.inr (.inr (some (13, 0)))), some (.inl f_), some (.inl tt_), some (.inl k_), some (.inl c_), none, none], [.inl k_], sm_aI S_ 119 0 tt_.toNat 2)) rfl ?_
          refine sm_T_ri rfl ⟨_, _, rfl, _, rfl, hI15_, hF16_, ?_⟩
          have e4_ : lx_de b_ n_ p_ = p_ + i_ := by rw [← h2_, lx_f_go]; exact if_neg (by omega)
          have hkd_ : lx_kd b_ n_ p_ = if i_ ≤ 6 then 2 else -1 := by unfold lx_kd; rw [if_neg (by omega), if_neg h0_.2.1, if_pos h0_.2.2, e4_, show p_ + i_ - p_ = i_ by omega]
          have hen_ : lx_en b_ n_ p_ = p_ + i_ := by unfold lx_en; rw [if_neg (by omega), if_neg h0_.2.1, if_pos h0_.2.2, e4_]
          have hvl_ : lx_vl b_ n_ p_ = lx_v b_ p_ (min i_ 6) := by unfold lx_vl; rw [e4_, show p_ + i_ - p_ = i_ by omega]
          rw [ei_] at h4_
          (try simp only [rd_eq, rd_ne, rf_eq, rf_nk, rf_nt, rd_fa, rd_af, rd_fl, rd_al, rd_lf, rd_la, rd_leq, rd_lne, rd_fr, rd_ar, ne_eq, Nat.reduceEqDiff, not_false_eq_true] at *)
          simp only [ett_, if_true, reduceIte] at *
          refine ⟨by omega, ⟨h5_, ?_, ?_, ?_⟩, ?_⟩
          · rw [hkd_]; first | (rw [if_pos (by omega)]; rfl) | (rw [if_neg (by omega)]; rfl)
          · intro hx_; rw [hkd_] at hx_ ⊢; by_cases hi_ : i_ ≤ 6
            · rw [if_pos hi_, hvl_]; exact h4_
            · exact absurd (if_neg hi_) hx_
          · rw [hkd_]; intro h_; split at h_ <;> omega
          · intro j_ hj_; have hu_ := h6_ j_ hj_; simp only [if_neg hj_]; exact hu_
        · have c14_ : ¬ (k_ - f_ ≤ 6) := of_decide_eq_false c14_
          refine sm_T_go 3 (c1 := (329, [some (.inr (.inr (some (13, 0)))), some (.inl f_), some (.inl tt_), some (.inl k_), some (.inl c_), none, none], [.inl 4, .inl tt_, .inr (.inr (some (119, 0)))], S_)) rfl ?_
          refine sm_T_bas1 (n := 65537) rfl rfl (by omega) (by omega) (by decide) ?_
          have hI17_ : gi (sm_aI S_ 119 0 tt_.toNat 4) := gi_aI hI_ (show (-128) ≤ 4 ∧ 4 ≤ 127 from ⟨by omega, by omega⟩)
          have hF18_ : ai_fr (sx_W vw_290) S0_ (sm_aI S_ 119 0 tt_.toNat 4) := ai_fr_tr hF_ (ai_fr_aI rfl)
          refine sm_T_go 1 (c1 := (331, [some (.inr (.inr (some (13, 0)))), some (.inl f_), some (.inl tt_), some (.inl k_), some (.inl c_), none, none], [.inl k_], sm_aI S_ 119 0 tt_.toNat 4)) rfl ?_
          refine sm_T_ri rfl ⟨_, _, rfl, _, rfl, hI17_, hF18_, ?_⟩
          have e4_ : lx_de b_ n_ p_ = p_ + i_ := by rw [← h2_, lx_f_go]; exact if_neg (by omega)
          have hkd_ : lx_kd b_ n_ p_ = if i_ ≤ 6 then 2 else -1 := by unfold lx_kd; rw [if_neg (by omega), if_neg h0_.2.1, if_pos h0_.2.2, e4_, show p_ + i_ - p_ = i_ by omega]
          have hen_ : lx_en b_ n_ p_ = p_ + i_ := by unfold lx_en; rw [if_neg (by omega), if_neg h0_.2.1, if_pos h0_.2.2, e4_]
          have hvl_ : lx_vl b_ n_ p_ = lx_v b_ p_ (min i_ 6) := by unfold lx_vl; rw [e4_, show p_ + i_ - p_ = i_ by omega]
          rw [ei_] at h4_
          (try simp only [rd_eq, rd_ne, rf_eq, rf_nk, rf_nt, rd_fa, rd_af, rd_fl, rd_al, rd_lf, rd_la, rd_leq, rd_lne, rd_fr, rd_ar, ne_eq, Nat.reduceEqDiff, not_false_eq_true] at *)
          simp only [ett_, if_true, reduceIte] at *
          refine ⟨by omega, ⟨h5_, ?_, ?_, ?_⟩, ?_⟩
          · rw [hkd_]; first | (rw [if_pos (by omega)]; rfl) | (rw [if_neg (by omega)]; rfl)
          · intro hx_; rw [hkd_] at hx_ ⊢; by_cases hi_ : i_ ≤ 6
            · rw [if_pos hi_, hvl_]; exact h4_
            · exact absurd (if_neg hi_) hx_
          · rw [hkd_]; intro h_; split at h_ <;> omega
          · intro j_ hj_; have hu_ := h6_ j_ hj_; simp only [if_neg hj_]; exact hu_
      · have c13_ : ¬ (v12_ = 0) := of_decide_eq_false c13_
        refine sm_T_go 5 (c1 := (270, [some (.inr (.inr (some (13, 0)))), some (.inl f_), some (.inl tt_), some (.inl k_), some (.inl c_), none, none], [.inl f_, .inl k_, .inl tt_, .inr (.inr (some (121, 0)))], S_)) rfl ?_
        refine sm_T_bin (w := k_ - f_) rfl (bi_sub (by omega) (by omega) (by omega)) ?_
        refine sm_T_go 1 (c1 := (273, [some (.inr (.inr (some (13, 0)))), some (.inl f_), some (.inl tt_), some (.inl k_), some (.inl c_), none, none], [.inl 6, .inl (k_ - f_), .inl tt_, .inr (.inr (some (121, 0)))], S_)) rfl ?_
        refine sm_T_br (a := 3) (z := 24) rfl (fun c19_ => ?_) (fun c19_ => ?_)
        · have c19_ : 6 ≤ k_ - f_ := of_decide_eq_true c19_
          refine sm_T_go 3 (c1 := (302, [some (.inr (.inr (some (13, 0)))), some (.inl f_), some (.inl tt_), some (.inl k_), some (.inl c_), none, none], [.inl tt_, .inr (.inr (some (121, 0))), .inl tt_, .inr (.inr (some (121, 0)))], S_)) rfl ?_
          refine sm_T_iald (n := 65537) rfl rfl (by omega) (by omega) ?_
          have b20_ : (-2147483648) ≤ S_.2.2.1 121 0 tt_.toNat ∧ S_.2.2.1 121 0 tt_.toNat ≤ 2147483647 := hI_.2 121 0 _
          refine sm_T_iast (n := 65537) rfl rfl (by omega) (by omega) ?_
          have hI21_ : gi (sm_aI S_ 121 0 tt_.toNat (S_.2.2.1 121 0 tt_.toNat)) := gi_aI hI_ (show (-2147483648) ≤ (S_.2.2.1 121 0 tt_.toNat) ∧ (S_.2.2.1 121 0 tt_.toNat) ≤ 2147483647 from ⟨by omega, by omega⟩)
          have hF22_ : ai_fr (sx_W vw_290) S0_ (sm_aI S_ 121 0 tt_.toNat (S_.2.2.1 121 0 tt_.toNat)) := ai_fr_tr hF_ (ai_fr_aI rfl)
          refine sm_T_inc (a := 3) (z := 1) (v := k_) (w := k_ + 1) rfl rfl (by omega) (by omega) (by omega) ?_
          refine sm_T_go 1 (c1 := (252, [some (.inr (.inr (some (13, 0)))), some (.inl f_), some (.inl tt_), some (.inl (k_ + 1)), some (.inl c_), none, none], [], sm_aI S_ 121 0 tt_.toNat (S_.2.2.1 121 0 tt_.toNat))) rfl ?_
          refine ih_.2.1 tt_ (k_ + 1) c_ (sm_aI S_ 121 0 tt_.toNat (S_.2.2.1 121 0 tt_.toNat)) hI21_ hF22_ ⟨?_, ?_, ?_, ?_, ?_, trivial⟩ ?_
          · exact h0_
          · refine ⟨i_ + 1, by omega, by omega, ?_, ?_⟩
            · rw [← h2_, lx_f_go (p := p_ + i_)]
              rw [if_pos (by omega)]; rfl
            · intro j_ hj_; by_cases hq_ : j_ = i_
              · rw [hq_]; omega
              · exact h3_ j_ (by omega)
          · rw [show (k_ + 1 - p_).toNat = i_ + 1 by omega]
            try rw [ei_] at h4_
            (try simp only [rd_eq, rd_ne, rf_eq, rf_nk, rf_nt, rd_fa, rd_af, rd_fl, rd_al, rd_lf, rd_la, rd_leq, rd_lne, rd_fr, rd_ar, ne_eq, Nat.reduceEqDiff, not_false_eq_true])
            simp only [ett_, if_true, reduceIte]
            have hbv_ : ∀ v_ : Int, v_ = rb b_ n_ (p_ + i_) → v_ = b_ (p_ + i_) := by intro v_ hv_; rw [hv_]; unfold rb; rw [if_pos (by omega)]; omega
            first | (rw [show min (i_ + 1) 6 = min i_ 6 by omega]; exact h4_) | (rw [show min (i_ + 1) 6 = i_ + 1 by omega]; unfold lx_v; rw [← ett_, h44_]; omega)
          · (try simp only [rd_eq, rd_ne, rf_eq, rf_nk, rf_nt, rd_fa, rd_af, rd_fl, rd_al, rd_lf, rd_la, rd_leq, rd_lne, rd_fr, rd_ar, ne_eq, Nat.reduceEqDiff, not_false_eq_true])
            exact h5_
          · intro j_ hj_
            have hu_ := h6_ j_ hj_
            (try simp only [rd_eq, rd_ne, rf_eq, rf_nk, rf_nt, rd_fa, rd_af, rd_fl, rd_al, rd_lf, rd_la, rd_leq, rd_lne, rd_fr, rd_ar, ne_eq, Nat.reduceEqDiff, not_false_eq_true])
            simp only [ett_, if_neg hj_]
            exact hu_
          · omega
        · have c19_ : ¬ (6 ≤ k_ - f_) := of_decide_eq_false c19_
          rw [ei_] at h4_
          have hw6_ := lx_v_c (b := b_) (p := p_) (k := i_) (by omega) h3_ (by omega)
          have hm6_ : min i_ 6 = i_ := by omega
          have h44_ : S_.2.2.1 121 0 tt_.toNat = lx_v b_ p_ i_ := by rw [ett_, h4_, hm6_]
          have hcb_ : rb b_ n_ (p_ + i_) = b_ (p_ + i_) := by unfold rb; rw [if_pos (by omega)]; omega
          refine sm_T_go 4 (c1 := (283, [some (.inr (.inr (some (13, 0)))), some (.inl f_), some (.inl tt_), some (.inl k_), some (.inl c_), none, none], [.inl tt_, .inr (.inr (some (121, 0))), .inl 10, .inl tt_, .inr (.inr (some (121, 0)))], S_)) rfl ?_
          refine sm_T_iald (n := 65537) rfl rfl (by omega) (by omega) ?_
          have b23_ : (-2147483648) ≤ S_.2.2.1 121 0 tt_.toNat ∧ S_.2.2.1 121 0 tt_.toNat ≤ 2147483647 := hI_.2 121 0 _
          refine sm_T_bin (w := 10 * (S_.2.2.1 121 0 tt_.toNat)) rfl (bi_mul (by omega) (by omega) (by omega)) ?_
          refine sm_T_go 2 (c1 := (287, [some (.inr (.inr (some (13, 0)))), some (.inl f_), some (.inl tt_), some (.inl k_), some (.inl c_), none, none], [.inl k_, .inr (.inr (some (13, 0))), .inl (10 * (S_.2.2.1 121 0 tt_.toNat)), .inl tt_, .inr (.inr (some (121, 0)))], S_)) rfl ?_
          refine sm_T_cal (d1 := 0) (Q1 := vq_282 k_ b_ n_ S_) rfl rfl (by decide) (vc_282 k_ b_ n_ S_ hI_ (by exact hb1_) (by exact hn2_) (by exact hn1_) (by omega)) (fun u_ S24_ p27_ => ?_)
          obtain ⟨rfl, v29_, rfl, p27_⟩ := p27_
          have hc287_ := p27_
          rw [ek_] at hc287_
          refine sm_T_bin (w := 10 * (S_.2.2.1 121 0 tt_.toNat) + v29_) rfl (bi_add (by omega) (by omega) (by omega)) ?_
          refine sm_T_go 1 (c1 := (293, [some (.inr (.inr (some (13, 0)))), some (.inl f_), some (.inl tt_), some (.inl k_), some (.inl c_), none, none], [.inl 48, .inl (10 * (S_.2.2.1 121 0 tt_.toNat) + v29_), .inl tt_, .inr (.inr (some (121, 0)))], S_)) rfl ?_
          refine sm_T_bin (w := 10 * (S_.2.2.1 121 0 tt_.toNat) + v29_ - 48) rfl (bi_sub (by omega) (by omega) (by omega)) ?_
          refine sm_T_go 1 (c1 := (303, [some (.inr (.inr (some (13, 0)))), some (.inl f_), some (.inl tt_), some (.inl k_), some (.inl c_), none, none], [.inl (10 * (S_.2.2.1 121 0 tt_.toNat) + v29_ - 48), .inl tt_, .inr (.inr (some (121, 0)))], S_)) rfl ?_
          refine sm_T_iast (n := 65537) rfl rfl (by omega) (by omega) ?_
          have hI30_ : gi (sm_aI S_ 121 0 tt_.toNat (10 * (S_.2.2.1 121 0 tt_.toNat) + v29_ - 48)) := gi_aI hI_ (show (-2147483648) ≤ 10 * (S_.2.2.1 121 0 tt_.toNat) + v29_ - 48 ∧ 10 * (S_.2.2.1 121 0 tt_.toNat) + v29_ - 48 ≤ 2147483647 from ⟨by omega, by omega⟩)
          have hF31_ : ai_fr (sx_W vw_290) S0_ (sm_aI S_ 121 0 tt_.toNat (10 * (S_.2.2.1 121 0 tt_.toNat) + v29_ - 48)) := ai_fr_tr hF_ (ai_fr_aI rfl)
          refine sm_T_inc (a := 3) (z := 1) (v := k_) (w := k_ + 1) rfl rfl (by omega) (by omega) (by omega) ?_
          refine sm_T_go 1 (c1 := (252, [some (.inr (.inr (some (13, 0)))), some (.inl f_), some (.inl tt_), some (.inl (k_ + 1)), some (.inl c_), none, none], [], sm_aI S_ 121 0 tt_.toNat (10 * (S_.2.2.1 121 0 tt_.toNat) + v29_ - 48))) rfl ?_
          refine ih_.2.1 tt_ (k_ + 1) c_ (sm_aI S_ 121 0 tt_.toNat (10 * (S_.2.2.1 121 0 tt_.toNat) + v29_ - 48)) hI30_ hF31_ ⟨?_, ?_, ?_, ?_, ?_, trivial⟩ ?_
          · exact h0_
          · refine ⟨i_ + 1, by omega, by omega, ?_, ?_⟩
            · rw [← h2_, lx_f_go (p := p_ + i_)]
              rw [if_pos (by omega)]; rfl
            · intro j_ hj_; by_cases hq_ : j_ = i_
              · rw [hq_]; omega
              · exact h3_ j_ (by omega)
          · rw [show (k_ + 1 - p_).toNat = i_ + 1 by omega]
            try rw [ei_] at h4_
            (try simp only [rd_eq, rd_ne, rf_eq, rf_nk, rf_nt, rd_fa, rd_af, rd_fl, rd_al, rd_lf, rd_la, rd_leq, rd_lne, rd_fr, rd_ar, ne_eq, Nat.reduceEqDiff, not_false_eq_true])
            simp only [ett_, if_true, reduceIte]
            have hbv_ : ∀ v_ : Int, v_ = rb b_ n_ (p_ + i_) → v_ = b_ (p_ + i_) := by intro v_ hv_; rw [hv_]; unfold rb; rw [if_pos (by omega)]; omega
            first | (rw [show min (i_ + 1) 6 = min i_ 6 by omega]; exact h4_) | (rw [show min (i_ + 1) 6 = i_ + 1 by omega]; unfold lx_v; rw [← ett_, h44_]; omega)
          · (try simp only [rd_eq, rd_ne, rf_eq, rf_nk, rf_nt, rd_fa, rd_af, rd_fl, rd_al, rd_lf, rd_la, rd_leq, rd_lne, rd_fr, rd_ar, ne_eq, Nat.reduceEqDiff, not_false_eq_true])
            exact h5_
          · intro j_ hj_
            have hu_ := h6_ j_ hj_
            (try simp only [rd_eq, rd_ne, rf_eq, rf_nk, rf_nt, rd_fa, rd_af, rd_fl, rd_al, rd_lf, rd_la, rd_leq, rd_lne, rd_fr, rd_ar, ne_eq, Nat.reduceEqDiff, not_false_eq_true])
            simp only [ett_, if_neg hj_]
            exact hu_
          · omega
    · rintro tt_ k_ c_ S_ hI_ hF_ ⟨h0_, h1_, h5_, h6_, -⟩ hm_
      have hb1_ : S_.2.2.1 118 0 = b_ := (fr_arr hF_ rfl).trans hb_
      have hn2_ : (S_.1 13 0 2) = (n_ : Int) := (hF_.1 13 0 2 rfl).trans hn_
      have hbb_ : ∀ k_, -128 ≤ b_ k_ ∧ b_ k_ ≤ 127 := fun k_ => by rw [← hb1_]; exact hI_.2 118 0 k_
      obtain ⟨h01_, h02_, h03_⟩ := h0_
      have ett_ : tt_.toNat = t_ := by omega
      have hbi_ := hbb_ p_
      have hrp_ : c_ = b_ p_ % 256 := by rw [h03_]; unfold rb; rw [if_pos hpn_]
      refine sm_T_go 2 (c1 := (336, [some (.inr (.inr (some (13, 0)))), some (.inl f_), some (.inl tt_), some (.inl k_), some (.inl c_), none, none], [.inl 60, .inl c_], S_)) rfl ?_
      refine sm_T_br (a := 1) (z := 19) rfl (fun c1_ => ?_) (fun c1_ => ?_)
      · have c1_ : c_ ≠ 60 := of_decide_eq_true c1_
        refine sm_T_go 4 (c1 := (362, [some (.inr (.inr (some (13, 0)))), some (.inl f_), some (.inl tt_), some (.inl k_), some (.inl c_), some (.inl 0), none], [.inl 61, .inl c_], S_)) rfl ?_
        refine sm_T_br (a := 1) (z := 19) rfl (fun c2_ => ?_) (fun c2_ => ?_)
        · have c2_ : c_ ≠ 61 := of_decide_eq_true c2_
          refine sm_T_go 8 (c1 := (396, [some (.inr (.inr (some (13, 0)))), some (.inl f_), some (.inl tt_), some (.inl k_), some (.inl c_), some (.inl 0), some (.inl 0)], [.inl c_, .inl tt_, .inr (.inr (some (119, 0)))], S_)) rfl ?_
          refine sm_T_cal (d1 := 0) (Q1 := vq_289 c_ S_) rfl rfl (by decide) (vc_289 c_ S_ hI_ ) (fun u_ S3_ p6_ => ?_)
          obtain ⟨rfl, v8_, rfl, p6_⟩ := p6_
          have hs396_ : hide (_ ∨ _) := if01 p6_
          rw [h03_, rb_s hbi_] at hs396_
          clear p6_
          refine sm_T_b0 (a := 0) (z := 7) rfl (fun c9_ => ?_) (fun c9_ => ?_)
          · have c9_ : v8_ = 0 := of_decide_eq_true c9_
            refine sm_T_go 2 (c1 := (408, [some (.inr (.inr (some (13, 0)))), some (.inl f_), some (.inl tt_), some (.inl k_), some (.inl c_), some (.inl 0), some (.inl 0)], [.inl 4, .inl tt_, .inr (.inr (some (119, 0)))], S_)) rfl ?_
            refine sm_T_bas1 (n := 65537) rfl rfl (by omega) (by omega) (by decide) ?_
            have hI10_ : gi (sm_aI S_ 119 0 tt_.toNat 4) := gi_aI hI_ (show (-128) ≤ 4 ∧ 4 ≤ 127 from ⟨by omega, by omega⟩)
            have hF11_ : ai_fr (sx_W vw_290) S0_ (sm_aI S_ 119 0 tt_.toNat 4) := ai_fr_tr hF_ (ai_fr_aI rfl)
            refine sm_T_go 8 (c1 := (438, [some (.inr (.inr (some (13, 0)))), some (.inl f_), some (.inl tt_), some (.inl k_), some (.inl c_), some (.inl 0), some (.inl 0)], [.inl c_, .inl tt_, .inr (.inr (some (121, 0)))], sm_aI S_ 119 0 tt_.toNat 4)) rfl ?_
            refine sm_T_iast (n := 65537) rfl rfl (by omega) (by omega) ?_
            have hI12_ : gi (sm_aI (sm_aI S_ 119 0 tt_.toNat 4) 121 0 tt_.toNat c_) := gi_aI hI10_ (show (-2147483648) ≤ c_ ∧ c_ ≤ 2147483647 from ⟨by omega, by omega⟩)
            have hF13_ : ai_fr (sx_W vw_290) S0_ (sm_aI (sm_aI S_ 119 0 tt_.toNat 4) 121 0 tt_.toNat c_) := ai_fr_tr hF11_ (ai_fr_aI rfl)
            refine sm_T_go 6 (c1 := (455, [some (.inr (.inr (some (13, 0)))), some (.inl f_), some (.inl tt_), some (.inl k_), some (.inl c_), some (.inl 0), some (.inl 0)], [.inl 1, .inl k_], sm_aI (sm_aI S_ 119 0 tt_.toNat 4) 121 0 tt_.toNat c_)) rfl ?_
            refine sm_T_bin (w := k_ + 1) rfl (bi_add (by omega) (by omega) (by omega)) ?_
            refine sm_T_ri rfl ⟨_, _, rfl, _, rfl, hI12_, hF13_, ?_⟩
            have hkd_ : lx_kd b_ n_ p_ = if lx_sk b_ n_ p_ = 0 then -1 else lx_sk b_ n_ p_ := by unfold lx_kd; rw [if_neg (Nat.not_le.mpr hpn_), if_neg (show ¬ lx_l (b_ p_) from (hide_o h1_).1), if_neg (show ¬ lx_g (b_ p_) from (hide_o h1_).2)]
            have hen_ : lx_en b_ n_ p_ = lx_sn b_ n_ p_ := by unfold lx_en; rw [if_neg (Nat.not_le.mpr hpn_), if_neg (show ¬ lx_l (b_ p_) from (hide_o h1_).1), if_neg (show ¬ lx_g (b_ p_) from (hide_o h1_).2)]
            first | (have hsn_ : lx_sn b_ n_ p_ = p_ + 2 := if_pos ⟨by omega, by omega, by omega⟩) | (have hsn_ : lx_sn b_ n_ p_ = p_ + 2 := by unfold lx_sn; rw [if_neg (by omega), if_pos ⟨by omega, by omega, by omega⟩]) | (have hsn_ : lx_sn b_ n_ p_ = p_ + 1 := by unfold lx_sn; rw [if_neg (by omega), if_neg (by omega)])
            first | (have hsk_ : lx_sk b_ n_ p_ = 256 := if_pos ⟨by omega, by omega, by omega⟩) | (have hsk_ : lx_sk b_ n_ p_ = 257 := by unfold lx_sk; rw [if_neg (by omega), if_pos ⟨by omega, by omega, by omega⟩]) | (have hsk_ : lx_sk b_ n_ p_ = b_ p_ ∧ 33 ≤ b_ p_ := by unfold lx_sk; rw [if_neg (by omega), if_neg (by omega)]; rcases hide_o hs396_ with hs_ | hs_; (refine ⟨if_pos hs_.2.2, ?_⟩; rcases hs_.2.2 with q_ | q_ | q_ | q_ | q_ | q_ | q_ | q_ | q_ | q_ | q_ | q_ | q_ | q_ | q_ | q_ <;> (rw [q_]; decide)); (exfalso; have hs1_ := hs_.1; clear hs_; omega)) | (have hsk_ : lx_sk b_ n_ p_ = 0 := by unfold lx_sk; rw [if_neg (by omega), if_neg (by omega)]; rcases hide_o hs396_ with hs_ | hs_; (exfalso; have hs1_ := hs_.1; clear hs_; omega); (exact if_neg (fun hh_ => hs_.2 ⟨hpn_, hh_⟩)))
            (try simp only [rd_eq, rd_ne, rf_eq, rf_nk, rf_nt, rd_fa, rd_af, rd_fl, rd_al, rd_lf, rd_la, rd_leq, rd_lne, rd_fr, rd_ar, ne_eq, Nat.reduceEqDiff, not_false_eq_true] at *)
            simp only [ett_, if_true, reduceIte] at *
            refine ⟨?_, ⟨h5_, ?_, ?_, ?_⟩, ?_⟩
            · rw [hen_, hsn_]; push_cast; omega
            · rw [hkd_]; first | (rw [if_neg (by omega)]; exact (tk_g (show 33 ≤ lx_sk b_ n_ p_ by omega)).1) | (rw [if_pos (by omega)]; rfl) | (exfalso; rcases hide_o hs396_ with hs_ | hs_; (have hs1_ := hs_.1; clear hs_; omega); (refine hs_.2 ⟨hpn_, ?_⟩; have hb61_ : b_ p_ = 61 := (by clear hs_; omega); rw [hb61_]; decide))
            · intro hx_; rw [hkd_] at hx_ ⊢; by_cases hz_ : lx_sk b_ n_ p_ = 0
              · exact absurd (if_pos hz_) hx_
              · rw [if_neg hz_, ← (tk_g (show 33 ≤ lx_sk b_ n_ p_ by omega)).2 (lx_vl b_ n_ p_)]; omega
            · rw [hkd_]; intro h_; split at h_ <;> omega
            · intro j_ hj_; have hu_ := h6_ j_ hj_; simp only [if_neg hj_]; exact hu_
          · have c9_ : ¬ (v8_ = 0) := of_decide_eq_false c9_
            refine sm_T_go 3 (c1 := (408, [some (.inr (.inr (some (13, 0)))), some (.inl f_), some (.inl tt_), some (.inl k_), some (.inl c_), some (.inl 0), some (.inl 0)], [.inl 3, .inl tt_, .inr (.inr (some (119, 0)))], S_)) rfl ?_
            refine sm_T_bas1 (n := 65537) rfl rfl (by omega) (by omega) (by decide) ?_
            have hI14_ : gi (sm_aI S_ 119 0 tt_.toNat 3) := gi_aI hI_ (show (-128) ≤ 3 ∧ 3 ≤ 127 from ⟨by omega, by omega⟩)
            have hF15_ : ai_fr (sx_W vw_290) S0_ (sm_aI S_ 119 0 tt_.toNat 3) := ai_fr_tr hF_ (ai_fr_aI rfl)
            refine sm_T_go 8 (c1 := (438, [some (.inr (.inr (some (13, 0)))), some (.inl f_), some (.inl tt_), some (.inl k_), some (.inl c_), some (.inl 0), some (.inl 0)], [.inl c_, .inl tt_, .inr (.inr (some (121, 0)))], sm_aI S_ 119 0 tt_.toNat 3)) rfl ?_
            refine sm_T_iast (n := 65537) rfl rfl (by omega) (by omega) ?_
            have hI16_ : gi (sm_aI (sm_aI S_ 119 0 tt_.toNat 3) 121 0 tt_.toNat c_) := gi_aI hI14_ (show (-2147483648) ≤ c_ ∧ c_ ≤ 2147483647 from ⟨by omega, by omega⟩)
            have hF17_ : ai_fr (sx_W vw_290) S0_ (sm_aI (sm_aI S_ 119 0 tt_.toNat 3) 121 0 tt_.toNat c_) := ai_fr_tr hF15_ (ai_fr_aI rfl)
            refine sm_T_go 6 (c1 := (455, [some (.inr (.inr (some (13, 0)))), some (.inl f_), some (.inl tt_), some (.inl k_), some (.inl c_), some (.inl 0), some (.inl 0)], [.inl 1, .inl k_], sm_aI (sm_aI S_ 119 0 tt_.toNat 3) 121 0 tt_.toNat c_)) rfl ?_
            refine sm_T_bin (w := k_ + 1) rfl (bi_add (by omega) (by omega) (by omega)) ?_
            refine sm_T_ri rfl ⟨_, _, rfl, _, rfl, hI16_, hF17_, ?_⟩
            have hkd_ : lx_kd b_ n_ p_ = if lx_sk b_ n_ p_ = 0 then -1 else lx_sk b_ n_ p_ := by unfold lx_kd; rw [if_neg (Nat.not_le.mpr hpn_), if_neg (show ¬ lx_l (b_ p_) from (hide_o h1_).1), if_neg (show ¬ lx_g (b_ p_) from (hide_o h1_).2)]
            have hen_ : lx_en b_ n_ p_ = lx_sn b_ n_ p_ := by unfold lx_en; rw [if_neg (Nat.not_le.mpr hpn_), if_neg (show ¬ lx_l (b_ p_) from (hide_o h1_).1), if_neg (show ¬ lx_g (b_ p_) from (hide_o h1_).2)]
            first | (have hsn_ : lx_sn b_ n_ p_ = p_ + 2 := if_pos ⟨by omega, by omega, by omega⟩) | (have hsn_ : lx_sn b_ n_ p_ = p_ + 2 := by unfold lx_sn; rw [if_neg (by omega), if_pos ⟨by omega, by omega, by omega⟩]) | (have hsn_ : lx_sn b_ n_ p_ = p_ + 1 := by unfold lx_sn; rw [if_neg (by omega), if_neg (by omega)])
            first | (have hsk_ : lx_sk b_ n_ p_ = 256 := if_pos ⟨by omega, by omega, by omega⟩) | (have hsk_ : lx_sk b_ n_ p_ = 257 := by unfold lx_sk; rw [if_neg (by omega), if_pos ⟨by omega, by omega, by omega⟩]) | (have hsk_ : lx_sk b_ n_ p_ = b_ p_ ∧ 33 ≤ b_ p_ := by unfold lx_sk; rw [if_neg (by omega), if_neg (by omega)]; rcases hide_o hs396_ with hs_ | hs_; (refine ⟨if_pos hs_.2.2, ?_⟩; rcases hs_.2.2 with q_ | q_ | q_ | q_ | q_ | q_ | q_ | q_ | q_ | q_ | q_ | q_ | q_ | q_ | q_ | q_ <;> (rw [q_]; decide)); (exfalso; have hs1_ := hs_.1; clear hs_; omega)) | (have hsk_ : lx_sk b_ n_ p_ = 0 := by unfold lx_sk; rw [if_neg (by omega), if_neg (by omega)]; rcases hide_o hs396_ with hs_ | hs_; (exfalso; have hs1_ := hs_.1; clear hs_; omega); (exact if_neg (fun hh_ => hs_.2 ⟨hpn_, hh_⟩)))
            (try simp only [rd_eq, rd_ne, rf_eq, rf_nk, rf_nt, rd_fa, rd_af, rd_fl, rd_al, rd_lf, rd_la, rd_leq, rd_lne, rd_fr, rd_ar, ne_eq, Nat.reduceEqDiff, not_false_eq_true] at *)
            simp only [ett_, if_true, reduceIte] at *
            refine ⟨?_, ⟨h5_, ?_, ?_, ?_⟩, ?_⟩
            · rw [hen_, hsn_]; push_cast; omega
            · rw [hkd_]; first | (rw [if_neg (by omega)]; exact (tk_g (show 33 ≤ lx_sk b_ n_ p_ by omega)).1) | (rw [if_pos (by omega)]; rfl) | (exfalso; rcases hide_o hs396_ with hs_ | hs_; (have hs1_ := hs_.1; clear hs_; omega); (refine hs_.2 ⟨hpn_, ?_⟩; have hb61_ : b_ p_ = 61 := (by clear hs_; omega); rw [hb61_]; decide))
            · intro hx_; rw [hkd_] at hx_ ⊢; by_cases hz_ : lx_sk b_ n_ p_ = 0
              · exact absurd (if_pos hz_) hx_
              · rw [if_neg hz_, ← (tk_g (show 33 ≤ lx_sk b_ n_ p_ by omega)).2 (lx_vl b_ n_ p_)]; omega
            · rw [hkd_]; intro h_; split at h_ <;> omega
            · intro j_ hj_; have hu_ := h6_ j_ hj_; simp only [if_neg hj_]; exact hu_
        · have c2_ : ¬ (c_ ≠ 61) := of_decide_eq_false c2_
          refine sm_T_go 3 (c1 := (368, [some (.inr (.inr (some (13, 0)))), some (.inl f_), some (.inl tt_), some (.inl k_), some (.inl c_), some (.inl 0), none], [.inl 1, .inl k_, .inr (.inr (some (13, 0)))], S_)) rfl ?_
          refine sm_T_bin (w := k_ + 1) rfl (bi_add (by omega) (by omega) (by omega)) ?_
          refine sm_T_cal (d1 := 0) (Q1 := vq_282 (k_ + 1) b_ n_ S_) rfl rfl (by decide) (vc_282 (k_ + 1) b_ n_ S_ hI_ (by exact hb1_) (by exact hn2_) (by exact hn1_) (by omega)) (fun u_ S18_ p21_ => ?_)
          obtain ⟨rfl, v23_, rfl, p21_⟩ := p21_
          have hd369_ : (v23_ = 61 ↔ p_ + 1 < n_ ∧ b_ (p_ + 1) = 61) := by rw [p21_, show (k_ + 1).toNat = p_ + 1 by omega]; exact rb_c (hbb_ (p_ + 1)) (by decide)
          clear p21_
          refine sm_T_go 1 (c1 := (374, [some (.inr (.inr (some (13, 0)))), some (.inl f_), some (.inl tt_), some (.inl k_), some (.inl c_), some (.inl 0), none], [.inl 61, .inl v23_], S_)) rfl ?_
          refine sm_T_br (a := 1) (z := 7) rfl (fun c24_ => ?_) (fun c24_ => ?_)
          · have c24_ : v23_ ≠ 61 := of_decide_eq_true c24_
            refine sm_T_go 8 (c1 := (396, [some (.inr (.inr (some (13, 0)))), some (.inl f_), some (.inl tt_), some (.inl k_), some (.inl c_), some (.inl 0), some (.inl 0)], [.inl c_, .inl tt_, .inr (.inr (some (119, 0)))], S_)) rfl ?_
            refine sm_T_cal (d1 := 0) (Q1 := vq_289 c_ S_) rfl rfl (by decide) (vc_289 c_ S_ hI_ ) (fun u_ S25_ p28_ => ?_)
            obtain ⟨rfl, v30_, rfl, p28_⟩ := p28_
            have hs396_ : hide (_ ∨ _) := if01 p28_
            rw [h03_, rb_s hbi_] at hs396_
            clear p28_
            refine sm_T_b0 (a := 0) (z := 7) rfl (fun c31_ => ?_) (fun c31_ => ?_)
            · have c31_ : v30_ = 0 := of_decide_eq_true c31_
              refine sm_T_go 2 (c1 := (408, [some (.inr (.inr (some (13, 0)))), some (.inl f_), some (.inl tt_), some (.inl k_), some (.inl c_), some (.inl 0), some (.inl 0)], [.inl 4, .inl tt_, .inr (.inr (some (119, 0)))], S_)) rfl ?_
              refine sm_T_bas1 (n := 65537) rfl rfl (by omega) (by omega) (by decide) ?_
              have hI32_ : gi (sm_aI S_ 119 0 tt_.toNat 4) := gi_aI hI_ (show (-128) ≤ 4 ∧ 4 ≤ 127 from ⟨by omega, by omega⟩)
              have hF33_ : ai_fr (sx_W vw_290) S0_ (sm_aI S_ 119 0 tt_.toNat 4) := ai_fr_tr hF_ (ai_fr_aI rfl)
              refine sm_T_go 8 (c1 := (438, [some (.inr (.inr (some (13, 0)))), some (.inl f_), some (.inl tt_), some (.inl k_), some (.inl c_), some (.inl 0), some (.inl 0)], [.inl c_, .inl tt_, .inr (.inr (some (121, 0)))], sm_aI S_ 119 0 tt_.toNat 4)) rfl ?_
              refine sm_T_iast (n := 65537) rfl rfl (by omega) (by omega) ?_
              have hI34_ : gi (sm_aI (sm_aI S_ 119 0 tt_.toNat 4) 121 0 tt_.toNat c_) := gi_aI hI32_ (show (-2147483648) ≤ c_ ∧ c_ ≤ 2147483647 from ⟨by omega, by omega⟩)
              have hF35_ : ai_fr (sx_W vw_290) S0_ (sm_aI (sm_aI S_ 119 0 tt_.toNat 4) 121 0 tt_.toNat c_) := ai_fr_tr hF33_ (ai_fr_aI rfl)
              refine sm_T_go 6 (c1 := (455, [some (.inr (.inr (some (13, 0)))), some (.inl f_), some (.inl tt_), some (.inl k_), some (.inl c_), some (.inl 0), some (.inl 0)], [.inl 1, .inl k_], sm_aI (sm_aI S_ 119 0 tt_.toNat 4) 121 0 tt_.toNat c_)) rfl ?_
              refine sm_T_bin (w := k_ + 1) rfl (bi_add (by omega) (by omega) (by omega)) ?_
              refine sm_T_ri rfl ⟨_, _, rfl, _, rfl, hI34_, hF35_, ?_⟩
              have hkd_ : lx_kd b_ n_ p_ = if lx_sk b_ n_ p_ = 0 then -1 else lx_sk b_ n_ p_ := by unfold lx_kd; rw [if_neg (Nat.not_le.mpr hpn_), if_neg (show ¬ lx_l (b_ p_) from (hide_o h1_).1), if_neg (show ¬ lx_g (b_ p_) from (hide_o h1_).2)]
              have hen_ : lx_en b_ n_ p_ = lx_sn b_ n_ p_ := by unfold lx_en; rw [if_neg (Nat.not_le.mpr hpn_), if_neg (show ¬ lx_l (b_ p_) from (hide_o h1_).1), if_neg (show ¬ lx_g (b_ p_) from (hide_o h1_).2)]
              first | (have hsn_ : lx_sn b_ n_ p_ = p_ + 2 := if_pos ⟨by omega, by omega, by omega⟩) | (have hsn_ : lx_sn b_ n_ p_ = p_ + 2 := by unfold lx_sn; rw [if_neg (by omega), if_pos ⟨by omega, by omega, by omega⟩]) | (have hsn_ : lx_sn b_ n_ p_ = p_ + 1 := by unfold lx_sn; rw [if_neg (by omega), if_neg (by omega)])
              first | (have hsk_ : lx_sk b_ n_ p_ = 256 := if_pos ⟨by omega, by omega, by omega⟩) | (have hsk_ : lx_sk b_ n_ p_ = 257 := by unfold lx_sk; rw [if_neg (by omega), if_pos ⟨by omega, by omega, by omega⟩]) | (have hsk_ : lx_sk b_ n_ p_ = b_ p_ ∧ 33 ≤ b_ p_ := by unfold lx_sk; rw [if_neg (by omega), if_neg (by omega)]; rcases hide_o hs396_ with hs_ | hs_; (refine ⟨if_pos hs_.2.2, ?_⟩; rcases hs_.2.2 with q_ | q_ | q_ | q_ | q_ | q_ | q_ | q_ | q_ | q_ | q_ | q_ | q_ | q_ | q_ | q_ <;> (rw [q_]; decide)); (exfalso; have hs1_ := hs_.1; clear hs_; omega)) | (have hsk_ : lx_sk b_ n_ p_ = 0 := by unfold lx_sk; rw [if_neg (by omega), if_neg (by omega)]; rcases hide_o hs396_ with hs_ | hs_; (exfalso; have hs1_ := hs_.1; clear hs_; omega); (exact if_neg (fun hh_ => hs_.2 ⟨hpn_, hh_⟩)))
              (try simp only [rd_eq, rd_ne, rf_eq, rf_nk, rf_nt, rd_fa, rd_af, rd_fl, rd_al, rd_lf, rd_la, rd_leq, rd_lne, rd_fr, rd_ar, ne_eq, Nat.reduceEqDiff, not_false_eq_true] at *)
              simp only [ett_, if_true, reduceIte] at *
              refine ⟨?_, ⟨h5_, ?_, ?_, ?_⟩, ?_⟩
              · rw [hen_, hsn_]; push_cast; omega
              · rw [hkd_]; first | (rw [if_neg (by omega)]; exact (tk_g (show 33 ≤ lx_sk b_ n_ p_ by omega)).1) | (rw [if_pos (by omega)]; rfl) | (exfalso; rcases hide_o hs396_ with hs_ | hs_; (have hs1_ := hs_.1; clear hs_; omega); (refine hs_.2 ⟨hpn_, ?_⟩; have hb61_ : b_ p_ = 61 := (by clear hs_; omega); rw [hb61_]; decide))
              · intro hx_; rw [hkd_] at hx_ ⊢; by_cases hz_ : lx_sk b_ n_ p_ = 0
                · exact absurd (if_pos hz_) hx_
                · rw [if_neg hz_, ← (tk_g (show 33 ≤ lx_sk b_ n_ p_ by omega)).2 (lx_vl b_ n_ p_)]; omega
              · rw [hkd_]; intro h_; split at h_ <;> omega
              · intro j_ hj_; have hu_ := h6_ j_ hj_; simp only [if_neg hj_]; exact hu_
            · have c31_ : ¬ (v30_ = 0) := of_decide_eq_false c31_
              refine sm_T_go 3 (c1 := (408, [some (.inr (.inr (some (13, 0)))), some (.inl f_), some (.inl tt_), some (.inl k_), some (.inl c_), some (.inl 0), some (.inl 0)], [.inl 3, .inl tt_, .inr (.inr (some (119, 0)))], S_)) rfl ?_
              refine sm_T_bas1 (n := 65537) rfl rfl (by omega) (by omega) (by decide) ?_
              have hI36_ : gi (sm_aI S_ 119 0 tt_.toNat 3) := gi_aI hI_ (show (-128) ≤ 3 ∧ 3 ≤ 127 from ⟨by omega, by omega⟩)
              have hF37_ : ai_fr (sx_W vw_290) S0_ (sm_aI S_ 119 0 tt_.toNat 3) := ai_fr_tr hF_ (ai_fr_aI rfl)
              refine sm_T_go 8 (c1 := (438, [some (.inr (.inr (some (13, 0)))), some (.inl f_), some (.inl tt_), some (.inl k_), some (.inl c_), some (.inl 0), some (.inl 0)], [.inl c_, .inl tt_, .inr (.inr (some (121, 0)))], sm_aI S_ 119 0 tt_.toNat 3)) rfl ?_
              refine sm_T_iast (n := 65537) rfl rfl (by omega) (by omega) ?_
              have hI38_ : gi (sm_aI (sm_aI S_ 119 0 tt_.toNat 3) 121 0 tt_.toNat c_) := gi_aI hI36_ (show (-2147483648) ≤ c_ ∧ c_ ≤ 2147483647 from ⟨by omega, by omega⟩)
              have hF39_ : ai_fr (sx_W vw_290) S0_ (sm_aI (sm_aI S_ 119 0 tt_.toNat 3) 121 0 tt_.toNat c_) := ai_fr_tr hF37_ (ai_fr_aI rfl)
              refine sm_T_go 6 (c1 := (455, [some (.inr (.inr (some (13, 0)))), some (.inl f_), some (.inl tt_), some (.inl k_), some (.inl c_), some (.inl 0), some (.inl 0)], [.inl 1, .inl k_], sm_aI (sm_aI S_ 119 0 tt_.toNat 3) 121 0 tt_.toNat c_)) rfl ?_
              refine sm_T_bin (w := k_ + 1) rfl (bi_add (by omega) (by omega) (by omega)) ?_
              refine sm_T_ri rfl ⟨_, _, rfl, _, rfl, hI38_, hF39_, ?_⟩
              have hkd_ : lx_kd b_ n_ p_ = if lx_sk b_ n_ p_ = 0 then -1 else lx_sk b_ n_ p_ := by unfold lx_kd; rw [if_neg (Nat.not_le.mpr hpn_), if_neg (show ¬ lx_l (b_ p_) from (hide_o h1_).1), if_neg (show ¬ lx_g (b_ p_) from (hide_o h1_).2)]
              have hen_ : lx_en b_ n_ p_ = lx_sn b_ n_ p_ := by unfold lx_en; rw [if_neg (Nat.not_le.mpr hpn_), if_neg (show ¬ lx_l (b_ p_) from (hide_o h1_).1), if_neg (show ¬ lx_g (b_ p_) from (hide_o h1_).2)]
              first | (have hsn_ : lx_sn b_ n_ p_ = p_ + 2 := if_pos ⟨by omega, by omega, by omega⟩) | (have hsn_ : lx_sn b_ n_ p_ = p_ + 2 := by unfold lx_sn; rw [if_neg (by omega), if_pos ⟨by omega, by omega, by omega⟩]) | (have hsn_ : lx_sn b_ n_ p_ = p_ + 1 := by unfold lx_sn; rw [if_neg (by omega), if_neg (by omega)])
              first | (have hsk_ : lx_sk b_ n_ p_ = 256 := if_pos ⟨by omega, by omega, by omega⟩) | (have hsk_ : lx_sk b_ n_ p_ = 257 := by unfold lx_sk; rw [if_neg (by omega), if_pos ⟨by omega, by omega, by omega⟩]) | (have hsk_ : lx_sk b_ n_ p_ = b_ p_ ∧ 33 ≤ b_ p_ := by unfold lx_sk; rw [if_neg (by omega), if_neg (by omega)]; rcases hide_o hs396_ with hs_ | hs_; (refine ⟨if_pos hs_.2.2, ?_⟩; rcases hs_.2.2 with q_ | q_ | q_ | q_ | q_ | q_ | q_ | q_ | q_ | q_ | q_ | q_ | q_ | q_ | q_ | q_ <;> (rw [q_]; decide)); (exfalso; have hs1_ := hs_.1; clear hs_; omega)) | (have hsk_ : lx_sk b_ n_ p_ = 0 := by unfold lx_sk; rw [if_neg (by omega), if_neg (by omega)]; rcases hide_o hs396_ with hs_ | hs_; (exfalso; have hs1_ := hs_.1; clear hs_; omega); (exact if_neg (fun hh_ => hs_.2 ⟨hpn_, hh_⟩)))
              (try simp only [rd_eq, rd_ne, rf_eq, rf_nk, rf_nt, rd_fa, rd_af, rd_fl, rd_al, rd_lf, rd_la, rd_leq, rd_lne, rd_fr, rd_ar, ne_eq, Nat.reduceEqDiff, not_false_eq_true] at *)
              simp only [ett_, if_true, reduceIte] at *
              refine ⟨?_, ⟨h5_, ?_, ?_, ?_⟩, ?_⟩
              · rw [hen_, hsn_]; push_cast; omega
              · rw [hkd_]; first | (rw [if_neg (by omega)]; exact (tk_g (show 33 ≤ lx_sk b_ n_ p_ by omega)).1) | (rw [if_pos (by omega)]; rfl) | (exfalso; rcases hide_o hs396_ with hs_ | hs_; (have hs1_ := hs_.1; clear hs_; omega); (refine hs_.2 ⟨hpn_, ?_⟩; have hb61_ : b_ p_ = 61 := (by clear hs_; omega); rw [hb61_]; decide))
              · intro hx_; rw [hkd_] at hx_ ⊢; by_cases hz_ : lx_sk b_ n_ p_ = 0
                · exact absurd (if_pos hz_) hx_
                · rw [if_neg hz_, ← (tk_g (show 33 ≤ lx_sk b_ n_ p_ by omega)).2 (lx_vl b_ n_ p_)]; omega
              · rw [hkd_]; intro h_; split at h_ <;> omega
              · intro j_ hj_; have hu_ := h6_ j_ hj_; simp only [if_neg hj_]; exact hu_
          · have c24_ : ¬ (v23_ ≠ 61) := of_decide_eq_false c24_
            refine sm_T_go 9 (c1 := (396, [some (.inr (.inr (some (13, 0)))), some (.inl f_), some (.inl tt_), some (.inl k_), some (.inl c_), some (.inl 0), some (.inl 1)], [.inl c_, .inl tt_, .inr (.inr (some (119, 0)))], S_)) rfl ?_
            refine sm_T_cal (d1 := 0) (Q1 := vq_289 c_ S_) rfl rfl (by decide) (vc_289 c_ S_ hI_ ) (fun u_ S40_ p43_ => ?_)
            obtain ⟨rfl, v45_, rfl, p43_⟩ := p43_
            have hs396_ : hide (_ ∨ _) := if01 p43_
            rw [h03_, rb_s hbi_] at hs396_
            clear p43_
            refine sm_T_b0 (a := 0) (z := 7) rfl (fun c46_ => ?_) (fun c46_ => ?_)
            · have c46_ : v45_ = 0 := of_decide_eq_true c46_
              refine sm_T_go 2 (c1 := (408, [some (.inr (.inr (some (13, 0)))), some (.inl f_), some (.inl tt_), some (.inl k_), some (.inl c_), some (.inl 0), some (.inl 1)], [.inl 4, .inl tt_, .inr (.inr (some (119, 0)))], S_)) rfl ?_
              refine sm_T_bas1 (n := 65537) rfl rfl (by omega) (by omega) (by decide) ?_
              have hI47_ : gi (sm_aI S_ 119 0 tt_.toNat 4) := gi_aI hI_ (show (-128) ≤ 4 ∧ 4 ≤ 127 from ⟨by omega, by omega⟩)
              have hF48_ : ai_fr (sx_W vw_290) S0_ (sm_aI S_ 119 0 tt_.toNat 4) := ai_fr_tr hF_ (ai_fr_aI rfl)
              refine sm_T_go 9 (c1 := (438, [some (.inr (.inr (some (13, 0)))), some (.inl f_), some (.inl tt_), some (.inl k_), some (.inl c_), some (.inl 0), some (.inl 1)], [.inl 257, .inl tt_, .inr (.inr (some (121, 0)))], sm_aI S_ 119 0 tt_.toNat 4)) rfl ?_
              refine sm_T_iast (n := 65537) rfl rfl (by omega) (by omega) ?_
              have hI49_ : gi (sm_aI (sm_aI S_ 119 0 tt_.toNat 4) 121 0 tt_.toNat 257) := gi_aI hI47_ (show (-2147483648) ≤ 257 ∧ 257 ≤ 2147483647 from ⟨by omega, by omega⟩)
              have hF50_ : ai_fr (sx_W vw_290) S0_ (sm_aI (sm_aI S_ 119 0 tt_.toNat 4) 121 0 tt_.toNat 257) := ai_fr_tr hF48_ (ai_fr_aI rfl)
              refine sm_T_go 7 (c1 := (455, [some (.inr (.inr (some (13, 0)))), some (.inl f_), some (.inl tt_), some (.inl k_), some (.inl c_), some (.inl 0), some (.inl 1)], [.inl 2, .inl k_], sm_aI (sm_aI S_ 119 0 tt_.toNat 4) 121 0 tt_.toNat 257)) rfl ?_
              refine sm_T_bin (w := k_ + 2) rfl (bi_add (by omega) (by omega) (by omega)) ?_
              refine sm_T_ri rfl ⟨_, _, rfl, _, rfl, hI49_, hF50_, ?_⟩
              have hkd_ : lx_kd b_ n_ p_ = if lx_sk b_ n_ p_ = 0 then -1 else lx_sk b_ n_ p_ := by unfold lx_kd; rw [if_neg (Nat.not_le.mpr hpn_), if_neg (show ¬ lx_l (b_ p_) from (hide_o h1_).1), if_neg (show ¬ lx_g (b_ p_) from (hide_o h1_).2)]
              have hen_ : lx_en b_ n_ p_ = lx_sn b_ n_ p_ := by unfold lx_en; rw [if_neg (Nat.not_le.mpr hpn_), if_neg (show ¬ lx_l (b_ p_) from (hide_o h1_).1), if_neg (show ¬ lx_g (b_ p_) from (hide_o h1_).2)]
              first | (have hsn_ : lx_sn b_ n_ p_ = p_ + 2 := if_pos ⟨by omega, by omega, by omega⟩) | (have hsn_ : lx_sn b_ n_ p_ = p_ + 2 := by unfold lx_sn; rw [if_neg (by omega), if_pos ⟨by omega, by omega, by omega⟩]) | (have hsn_ : lx_sn b_ n_ p_ = p_ + 1 := by unfold lx_sn; rw [if_neg (by omega), if_neg (by omega)])
              first | (have hsk_ : lx_sk b_ n_ p_ = 256 := if_pos ⟨by omega, by omega, by omega⟩) | (have hsk_ : lx_sk b_ n_ p_ = 257 := by unfold lx_sk; rw [if_neg (by omega), if_pos ⟨by omega, by omega, by omega⟩]) | (have hsk_ : lx_sk b_ n_ p_ = b_ p_ ∧ 33 ≤ b_ p_ := by unfold lx_sk; rw [if_neg (by omega), if_neg (by omega)]; rcases hide_o hs396_ with hs_ | hs_; (refine ⟨if_pos hs_.2.2, ?_⟩; rcases hs_.2.2 with q_ | q_ | q_ | q_ | q_ | q_ | q_ | q_ | q_ | q_ | q_ | q_ | q_ | q_ | q_ | q_ <;> (rw [q_]; decide)); (exfalso; have hs1_ := hs_.1; clear hs_; omega)) | (have hsk_ : lx_sk b_ n_ p_ = 0 := by unfold lx_sk; rw [if_neg (by omega), if_neg (by omega)]; rcases hide_o hs396_ with hs_ | hs_; (exfalso; have hs1_ := hs_.1; clear hs_; omega); (exact if_neg (fun hh_ => hs_.2 ⟨hpn_, hh_⟩)))
              (try simp only [rd_eq, rd_ne, rf_eq, rf_nk, rf_nt, rd_fa, rd_af, rd_fl, rd_al, rd_lf, rd_la, rd_leq, rd_lne, rd_fr, rd_ar, ne_eq, Nat.reduceEqDiff, not_false_eq_true] at *)
              simp only [ett_, if_true, reduceIte] at *
              refine ⟨?_, ⟨h5_, ?_, ?_, ?_⟩, ?_⟩
              · rw [hen_, hsn_]; push_cast; omega
              · rw [hkd_]; first | (rw [if_neg (by omega)]; exact (tk_g (show 33 ≤ lx_sk b_ n_ p_ by omega)).1) | (rw [if_pos (by omega)]; rfl) | (exfalso; rcases hide_o hs396_ with hs_ | hs_; (have hs1_ := hs_.1; clear hs_; omega); (refine hs_.2 ⟨hpn_, ?_⟩; have hb61_ : b_ p_ = 61 := (by clear hs_; omega); rw [hb61_]; decide))
              · intro hx_; rw [hkd_] at hx_ ⊢; by_cases hz_ : lx_sk b_ n_ p_ = 0
                · exact absurd (if_pos hz_) hx_
                · rw [if_neg hz_, ← (tk_g (show 33 ≤ lx_sk b_ n_ p_ by omega)).2 (lx_vl b_ n_ p_)]; omega
              · rw [hkd_]; intro h_; split at h_ <;> omega
              · intro j_ hj_; have hu_ := h6_ j_ hj_; simp only [if_neg hj_]; exact hu_
            · have c46_ : ¬ (v45_ = 0) := of_decide_eq_false c46_
              refine sm_T_go 3 (c1 := (408, [some (.inr (.inr (some (13, 0)))), some (.inl f_), some (.inl tt_), some (.inl k_), some (.inl c_), some (.inl 0), some (.inl 1)], [.inl 3, .inl tt_, .inr (.inr (some (119, 0)))], S_)) rfl ?_
              refine sm_T_bas1 (n := 65537) rfl rfl (by omega) (by omega) (by decide) ?_
              have hI51_ : gi (sm_aI S_ 119 0 tt_.toNat 3) := gi_aI hI_ (show (-128) ≤ 3 ∧ 3 ≤ 127 from ⟨by omega, by omega⟩)
              have hF52_ : ai_fr (sx_W vw_290) S0_ (sm_aI S_ 119 0 tt_.toNat 3) := ai_fr_tr hF_ (ai_fr_aI rfl)
              refine sm_T_go 9 (c1 := (438, [some (.inr (.inr (some (13, 0)))), some (.inl f_), some (.inl tt_), some (.inl k_), some (.inl c_), some (.inl 0), some (.inl 1)], [.inl 257, .inl tt_, .inr (.inr (some (121, 0)))], sm_aI S_ 119 0 tt_.toNat 3)) rfl ?_
              refine sm_T_iast (n := 65537) rfl rfl (by omega) (by omega) ?_
              have hI53_ : gi (sm_aI (sm_aI S_ 119 0 tt_.toNat 3) 121 0 tt_.toNat 257) := gi_aI hI51_ (show (-2147483648) ≤ 257 ∧ 257 ≤ 2147483647 from ⟨by omega, by omega⟩)
              have hF54_ : ai_fr (sx_W vw_290) S0_ (sm_aI (sm_aI S_ 119 0 tt_.toNat 3) 121 0 tt_.toNat 257) := ai_fr_tr hF52_ (ai_fr_aI rfl)
              refine sm_T_go 7 (c1 := (455, [some (.inr (.inr (some (13, 0)))), some (.inl f_), some (.inl tt_), some (.inl k_), some (.inl c_), some (.inl 0), some (.inl 1)], [.inl 2, .inl k_], sm_aI (sm_aI S_ 119 0 tt_.toNat 3) 121 0 tt_.toNat 257)) rfl ?_
              refine sm_T_bin (w := k_ + 2) rfl (bi_add (by omega) (by omega) (by omega)) ?_
              refine sm_T_ri rfl ⟨_, _, rfl, _, rfl, hI53_, hF54_, ?_⟩
              have hkd_ : lx_kd b_ n_ p_ = if lx_sk b_ n_ p_ = 0 then -1 else lx_sk b_ n_ p_ := by unfold lx_kd; rw [if_neg (Nat.not_le.mpr hpn_), if_neg (show ¬ lx_l (b_ p_) from (hide_o h1_).1), if_neg (show ¬ lx_g (b_ p_) from (hide_o h1_).2)]
              have hen_ : lx_en b_ n_ p_ = lx_sn b_ n_ p_ := by unfold lx_en; rw [if_neg (Nat.not_le.mpr hpn_), if_neg (show ¬ lx_l (b_ p_) from (hide_o h1_).1), if_neg (show ¬ lx_g (b_ p_) from (hide_o h1_).2)]
              first | (have hsn_ : lx_sn b_ n_ p_ = p_ + 2 := if_pos ⟨by omega, by omega, by omega⟩) | (have hsn_ : lx_sn b_ n_ p_ = p_ + 2 := by unfold lx_sn; rw [if_neg (by omega), if_pos ⟨by omega, by omega, by omega⟩]) | (have hsn_ : lx_sn b_ n_ p_ = p_ + 1 := by unfold lx_sn; rw [if_neg (by omega), if_neg (by omega)])
              first | (have hsk_ : lx_sk b_ n_ p_ = 256 := if_pos ⟨by omega, by omega, by omega⟩) | (have hsk_ : lx_sk b_ n_ p_ = 257 := by unfold lx_sk; rw [if_neg (by omega), if_pos ⟨by omega, by omega, by omega⟩]) | (have hsk_ : lx_sk b_ n_ p_ = b_ p_ ∧ 33 ≤ b_ p_ := by unfold lx_sk; rw [if_neg (by omega), if_neg (by omega)]; rcases hide_o hs396_ with hs_ | hs_; (refine ⟨if_pos hs_.2.2, ?_⟩; rcases hs_.2.2 with q_ | q_ | q_ | q_ | q_ | q_ | q_ | q_ | q_ | q_ | q_ | q_ | q_ | q_ | q_ | q_ <;> (rw [q_]; decide)); (exfalso; have hs1_ := hs_.1; clear hs_; omega)) | (have hsk_ : lx_sk b_ n_ p_ = 0 := by unfold lx_sk; rw [if_neg (by omega), if_neg (by omega)]; rcases hide_o hs396_ with hs_ | hs_; (exfalso; have hs1_ := hs_.1; clear hs_; omega); (exact if_neg (fun hh_ => hs_.2 ⟨hpn_, hh_⟩)))
              (try simp only [rd_eq, rd_ne, rf_eq, rf_nk, rf_nt, rd_fa, rd_af, rd_fl, rd_al, rd_lf, rd_la, rd_leq, rd_lne, rd_fr, rd_ar, ne_eq, Nat.reduceEqDiff, not_false_eq_true] at *)
              simp only [ett_, if_true, reduceIte] at *
              refine ⟨?_, ⟨h5_, ?_, ?_, ?_⟩, ?_⟩
              · rw [hen_, hsn_]; push_cast; omega
              · rw [hkd_]; first | (rw [if_neg (by omega)]; exact (tk_g (show 33 ≤ lx_sk b_ n_ p_ by omega)).1) | (rw [if_pos (by omega)]; rfl) | (exfalso; rcases hide_o hs396_ with hs_ | hs_; (have hs1_ := hs_.1; clear hs_; omega); (refine hs_.2 ⟨hpn_, ?_⟩; have hb61_ : b_ p_ = 61 := (by clear hs_; omega); rw [hb61_]; decide))
              · intro hx_; rw [hkd_] at hx_ ⊢; by_cases hz_ : lx_sk b_ n_ p_ = 0
                · exact absurd (if_pos hz_) hx_
                · rw [if_neg hz_, ← (tk_g (show 33 ≤ lx_sk b_ n_ p_ by omega)).2 (lx_vl b_ n_ p_)]; omega
              · rw [hkd_]; intro h_; split at h_ <;> omega
              · intro j_ hj_; have hu_ := h6_ j_ hj_; simp only [if_neg hj_]; exact hu_
      · have c1_ : ¬ (c_ ≠ 60) := of_decide_eq_false c1_
        refine sm_T_go 3 (c1 := (342, [some (.inr (.inr (some (13, 0)))), some (.inl f_), some (.inl tt_), some (.inl k_), some (.inl c_), none, none], [.inl 1, .inl k_, .inr (.inr (some (13, 0)))], S_)) rfl ?_
        refine sm_T_bin (w := k_ + 1) rfl (bi_add (by omega) (by omega) (by omega)) ?_
        refine sm_T_cal (d1 := 0) (Q1 := vq_282 (k_ + 1) b_ n_ S_) rfl rfl (by decide) (vc_282 (k_ + 1) b_ n_ S_ hI_ (by exact hb1_) (by exact hn2_) (by exact hn1_) (by omega)) (fun u_ S55_ p58_ => ?_)
        obtain ⟨rfl, v60_, rfl, p58_⟩ := p58_
        have hd343_ : (v60_ = 45 ↔ p_ + 1 < n_ ∧ b_ (p_ + 1) = 45) := by rw [p58_, show (k_ + 1).toNat = p_ + 1 by omega]; exact rb_c (hbb_ (p_ + 1)) (by decide)
        clear p58_
        refine sm_T_go 1 (c1 := (348, [some (.inr (.inr (some (13, 0)))), some (.inl f_), some (.inl tt_), some (.inl k_), some (.inl c_), none, none], [.inl 45, .inl v60_], S_)) rfl ?_
        refine sm_T_br (a := 1) (z := 7) rfl (fun c61_ => ?_) (fun c61_ => ?_)
        · have c61_ : v60_ ≠ 45 := of_decide_eq_true c61_
          refine sm_T_go 4 (c1 := (362, [some (.inr (.inr (some (13, 0)))), some (.inl f_), some (.inl tt_), some (.inl k_), some (.inl c_), some (.inl 0), none], [.inl 61, .inl c_], S_)) rfl ?_
          refine sm_T_br (a := 1) (z := 19) rfl (fun c62_ => ?_) (fun c62_ => ?_)
          · have c62_ : c_ ≠ 61 := of_decide_eq_true c62_
            refine sm_T_go 8 (c1 := (396, [some (.inr (.inr (some (13, 0)))), some (.inl f_), some (.inl tt_), some (.inl k_), some (.inl c_), some (.inl 0), some (.inl 0)], [.inl c_, .inl tt_, .inr (.inr (some (119, 0)))], S_)) rfl ?_
            refine sm_T_cal (d1 := 0) (Q1 := vq_289 c_ S_) rfl rfl (by decide) (vc_289 c_ S_ hI_ ) (fun u_ S63_ p66_ => ?_)
            obtain ⟨rfl, v68_, rfl, p66_⟩ := p66_
            have hs396_ : hide (_ ∨ _) := if01 p66_
            rw [h03_, rb_s hbi_] at hs396_
            clear p66_
            refine sm_T_b0 (a := 0) (z := 7) rfl (fun c69_ => ?_) (fun c69_ => ?_)
            · have c69_ : v68_ = 0 := of_decide_eq_true c69_
              refine sm_T_go 2 (c1 := (408, [some (.inr (.inr (some (13, 0)))), some (.inl f_), some (.inl tt_), some (.inl k_), some (.inl c_), some (.inl 0), some (.inl 0)], [.inl 4, .inl tt_, .inr (.inr (some (119, 0)))], S_)) rfl ?_
              refine sm_T_bas1 (n := 65537) rfl rfl (by omega) (by omega) (by decide) ?_
              have hI70_ : gi (sm_aI S_ 119 0 tt_.toNat 4) := gi_aI hI_ (show (-128) ≤ 4 ∧ 4 ≤ 127 from ⟨by omega, by omega⟩)
              have hF71_ : ai_fr (sx_W vw_290) S0_ (sm_aI S_ 119 0 tt_.toNat 4) := ai_fr_tr hF_ (ai_fr_aI rfl)
              refine sm_T_go 8 (c1 := (438, [some (.inr (.inr (some (13, 0)))), some (.inl f_), some (.inl tt_), some (.inl k_), some (.inl c_), some (.inl 0), some (.inl 0)], [.inl c_, .inl tt_, .inr (.inr (some (121, 0)))], sm_aI S_ 119 0 tt_.toNat 4)) rfl ?_
              refine sm_T_iast (n := 65537) rfl rfl (by omega) (by omega) ?_
              have hI72_ : gi (sm_aI (sm_aI S_ 119 0 tt_.toNat 4) 121 0 tt_.toNat c_) := gi_aI hI70_ (show (-2147483648) ≤ c_ ∧ c_ ≤ 2147483647 from ⟨by omega, by omega⟩)
              have hF73_ : ai_fr (sx_W vw_290) S0_ (sm_aI (sm_aI S_ 119 0 tt_.toNat 4) 121 0 tt_.toNat c_) := ai_fr_tr hF71_ (ai_fr_aI rfl)
              refine sm_T_go 6 (c1 := (455, [some (.inr (.inr (some (13, 0)))), some (.inl f_), some (.inl tt_), some (.inl k_), some (.inl c_), some (.inl 0), some (.inl 0)], [.inl 1, .inl k_], sm_aI (sm_aI S_ 119 0 tt_.toNat 4) 121 0 tt_.toNat c_)) rfl ?_
              refine sm_T_bin (w := k_ + 1) rfl (bi_add (by omega) (by omega) (by omega)) ?_
              refine sm_T_ri rfl ⟨_, _, rfl, _, rfl, hI72_, hF73_, ?_⟩
              have hkd_ : lx_kd b_ n_ p_ = if lx_sk b_ n_ p_ = 0 then -1 else lx_sk b_ n_ p_ := by unfold lx_kd; rw [if_neg (Nat.not_le.mpr hpn_), if_neg (show ¬ lx_l (b_ p_) from (hide_o h1_).1), if_neg (show ¬ lx_g (b_ p_) from (hide_o h1_).2)]
              have hen_ : lx_en b_ n_ p_ = lx_sn b_ n_ p_ := by unfold lx_en; rw [if_neg (Nat.not_le.mpr hpn_), if_neg (show ¬ lx_l (b_ p_) from (hide_o h1_).1), if_neg (show ¬ lx_g (b_ p_) from (hide_o h1_).2)]
              first | (have hsn_ : lx_sn b_ n_ p_ = p_ + 2 := if_pos ⟨by omega, by omega, by omega⟩) | (have hsn_ : lx_sn b_ n_ p_ = p_ + 2 := by unfold lx_sn; rw [if_neg (by omega), if_pos ⟨by omega, by omega, by omega⟩]) | (have hsn_ : lx_sn b_ n_ p_ = p_ + 1 := by unfold lx_sn; rw [if_neg (by omega), if_neg (by omega)])
              first | (have hsk_ : lx_sk b_ n_ p_ = 256 := if_pos ⟨by omega, by omega, by omega⟩) | (have hsk_ : lx_sk b_ n_ p_ = 257 := by unfold lx_sk; rw [if_neg (by omega), if_pos ⟨by omega, by omega, by omega⟩]) | (have hsk_ : lx_sk b_ n_ p_ = b_ p_ ∧ 33 ≤ b_ p_ := by unfold lx_sk; rw [if_neg (by omega), if_neg (by omega)]; rcases hide_o hs396_ with hs_ | hs_; (refine ⟨if_pos hs_.2.2, ?_⟩; rcases hs_.2.2 with q_ | q_ | q_ | q_ | q_ | q_ | q_ | q_ | q_ | q_ | q_ | q_ | q_ | q_ | q_ | q_ <;> (rw [q_]; decide)); (exfalso; have hs1_ := hs_.1; clear hs_; omega)) | (have hsk_ : lx_sk b_ n_ p_ = 0 := by unfold lx_sk; rw [if_neg (by omega), if_neg (by omega)]; rcases hide_o hs396_ with hs_ | hs_; (exfalso; have hs1_ := hs_.1; clear hs_; omega); (exact if_neg (fun hh_ => hs_.2 ⟨hpn_, hh_⟩)))
              (try simp only [rd_eq, rd_ne, rf_eq, rf_nk, rf_nt, rd_fa, rd_af, rd_fl, rd_al, rd_lf, rd_la, rd_leq, rd_lne, rd_fr, rd_ar, ne_eq, Nat.reduceEqDiff, not_false_eq_true] at *)
              simp only [ett_, if_true, reduceIte] at *
              refine ⟨?_, ⟨h5_, ?_, ?_, ?_⟩, ?_⟩
              · rw [hen_, hsn_]; push_cast; omega
              · rw [hkd_]; first | (rw [if_neg (by omega)]; exact (tk_g (show 33 ≤ lx_sk b_ n_ p_ by omega)).1) | (rw [if_pos (by omega)]; rfl) | (exfalso; rcases hide_o hs396_ with hs_ | hs_; (have hs1_ := hs_.1; clear hs_; omega); (refine hs_.2 ⟨hpn_, ?_⟩; have hb61_ : b_ p_ = 61 := (by clear hs_; omega); rw [hb61_]; decide))
              · intro hx_; rw [hkd_] at hx_ ⊢; by_cases hz_ : lx_sk b_ n_ p_ = 0
                · exact absurd (if_pos hz_) hx_
                · rw [if_neg hz_, ← (tk_g (show 33 ≤ lx_sk b_ n_ p_ by omega)).2 (lx_vl b_ n_ p_)]; omega
              · rw [hkd_]; intro h_; split at h_ <;> omega
              · intro j_ hj_; have hu_ := h6_ j_ hj_; simp only [if_neg hj_]; exact hu_
            · have c69_ : ¬ (v68_ = 0) := of_decide_eq_false c69_
              refine sm_T_go 3 (c1 := (408, [some (.inr (.inr (some (13, 0)))), some (.inl f_), some (.inl tt_), some (.inl k_), some (.inl c_), some (.inl 0), some (.inl 0)], [.inl 3, .inl tt_, .inr (.inr (some (119, 0)))], S_)) rfl ?_
              refine sm_T_bas1 (n := 65537) rfl rfl (by omega) (by omega) (by decide) ?_
              have hI74_ : gi (sm_aI S_ 119 0 tt_.toNat 3) := gi_aI hI_ (show (-128) ≤ 3 ∧ 3 ≤ 127 from ⟨by omega, by omega⟩)
              have hF75_ : ai_fr (sx_W vw_290) S0_ (sm_aI S_ 119 0 tt_.toNat 3) := ai_fr_tr hF_ (ai_fr_aI rfl)
              refine sm_T_go 8 (c1 := (438, [some (.inr (.inr (some (13, 0)))), some (.inl f_), some (.inl tt_), some (.inl k_), some (.inl c_), some (.inl 0), some (.inl 0)], [.inl c_, .inl tt_, .inr (.inr (some (121, 0)))], sm_aI S_ 119 0 tt_.toNat 3)) rfl ?_
              refine sm_T_iast (n := 65537) rfl rfl (by omega) (by omega) ?_
              have hI76_ : gi (sm_aI (sm_aI S_ 119 0 tt_.toNat 3) 121 0 tt_.toNat c_) := gi_aI hI74_ (show (-2147483648) ≤ c_ ∧ c_ ≤ 2147483647 from ⟨by omega, by omega⟩)
              have hF77_ : ai_fr (sx_W vw_290) S0_ (sm_aI (sm_aI S_ 119 0 tt_.toNat 3) 121 0 tt_.toNat c_) := ai_fr_tr hF75_ (ai_fr_aI rfl)
              refine sm_T_go 6 (c1 := (455, [some (.inr (.inr (some (13, 0)))), some (.inl f_), some (.inl tt_), some (.inl k_), some (.inl c_), some (.inl 0), some (.inl 0)], [.inl 1, .inl k_], sm_aI (sm_aI S_ 119 0 tt_.toNat 3) 121 0 tt_.toNat c_)) rfl ?_
              refine sm_T_bin (w := k_ + 1) rfl (bi_add (by omega) (by omega) (by omega)) ?_
              refine sm_T_ri rfl ⟨_, _, rfl, _, rfl, hI76_, hF77_, ?_⟩
              have hkd_ : lx_kd b_ n_ p_ = if lx_sk b_ n_ p_ = 0 then -1 else lx_sk b_ n_ p_ := by unfold lx_kd; rw [if_neg (Nat.not_le.mpr hpn_), if_neg (show ¬ lx_l (b_ p_) from (hide_o h1_).1), if_neg (show ¬ lx_g (b_ p_) from (hide_o h1_).2)]
              have hen_ : lx_en b_ n_ p_ = lx_sn b_ n_ p_ := by unfold lx_en; rw [if_neg (Nat.not_le.mpr hpn_), if_neg (show ¬ lx_l (b_ p_) from (hide_o h1_).1), if_neg (show ¬ lx_g (b_ p_) from (hide_o h1_).2)]
              first | (have hsn_ : lx_sn b_ n_ p_ = p_ + 2 := if_pos ⟨by omega, by omega, by omega⟩) | (have hsn_ : lx_sn b_ n_ p_ = p_ + 2 := by unfold lx_sn; rw [if_neg (by omega), if_pos ⟨by omega, by omega, by omega⟩]) | (have hsn_ : lx_sn b_ n_ p_ = p_ + 1 := by unfold lx_sn; rw [if_neg (by omega), if_neg (by omega)])
              first | (have hsk_ : lx_sk b_ n_ p_ = 256 := if_pos ⟨by omega, by omega, by omega⟩) | (have hsk_ : lx_sk b_ n_ p_ = 257 := by unfold lx_sk; rw [if_neg (by omega), if_pos ⟨by omega, by omega, by omega⟩]) | (have hsk_ : lx_sk b_ n_ p_ = b_ p_ ∧ 33 ≤ b_ p_ := by unfold lx_sk; rw [if_neg (by omega), if_neg (by omega)]; rcases hide_o hs396_ with hs_ | hs_; (refine ⟨if_pos hs_.2.2, ?_⟩; rcases hs_.2.2 with q_ | q_ | q_ | q_ | q_ | q_ | q_ | q_ | q_ | q_ | q_ | q_ | q_ | q_ | q_ | q_ <;> (rw [q_]; decide)); (exfalso; have hs1_ := hs_.1; clear hs_; omega)) | (have hsk_ : lx_sk b_ n_ p_ = 0 := by unfold lx_sk; rw [if_neg (by omega), if_neg (by omega)]; rcases hide_o hs396_ with hs_ | hs_; (exfalso; have hs1_ := hs_.1; clear hs_; omega); (exact if_neg (fun hh_ => hs_.2 ⟨hpn_, hh_⟩)))
              (try simp only [rd_eq, rd_ne, rf_eq, rf_nk, rf_nt, rd_fa, rd_af, rd_fl, rd_al, rd_lf, rd_la, rd_leq, rd_lne, rd_fr, rd_ar, ne_eq, Nat.reduceEqDiff, not_false_eq_true] at *)
              simp only [ett_, if_true, reduceIte] at *
              refine ⟨?_, ⟨h5_, ?_, ?_, ?_⟩, ?_⟩
              · rw [hen_, hsn_]; push_cast; omega
              · rw [hkd_]; first | (rw [if_neg (by omega)]; exact (tk_g (show 33 ≤ lx_sk b_ n_ p_ by omega)).1) | (rw [if_pos (by omega)]; rfl) | (exfalso; rcases hide_o hs396_ with hs_ | hs_; (have hs1_ := hs_.1; clear hs_; omega); (refine hs_.2 ⟨hpn_, ?_⟩; have hb61_ : b_ p_ = 61 := (by clear hs_; omega); rw [hb61_]; decide))
              · intro hx_; rw [hkd_] at hx_ ⊢; by_cases hz_ : lx_sk b_ n_ p_ = 0
                · exact absurd (if_pos hz_) hx_
                · rw [if_neg hz_, ← (tk_g (show 33 ≤ lx_sk b_ n_ p_ by omega)).2 (lx_vl b_ n_ p_)]; omega
              · rw [hkd_]; intro h_; split at h_ <;> omega
              · intro j_ hj_; have hu_ := h6_ j_ hj_; simp only [if_neg hj_]; exact hu_
          · have c62_ : ¬ (c_ ≠ 61) := of_decide_eq_false c62_
            exfalso; omega
        · have c61_ : ¬ (v60_ ≠ 45) := of_decide_eq_false c61_
          refine sm_T_go 5 (c1 := (362, [some (.inr (.inr (some (13, 0)))), some (.inl f_), some (.inl tt_), some (.inl k_), some (.inl c_), some (.inl 1), none], [.inl 61, .inl c_], S_)) rfl ?_
          refine sm_T_br (a := 1) (z := 19) rfl (fun c78_ => ?_) (fun c78_ => ?_)
          · have c78_ : c_ ≠ 61 := of_decide_eq_true c78_
            refine sm_T_go 10 (c1 := (408, [some (.inr (.inr (some (13, 0)))), some (.inl f_), some (.inl tt_), some (.inl k_), some (.inl c_), some (.inl 1), some (.inl 0)], [.inl 3, .inl tt_, .inr (.inr (some (119, 0)))], S_)) rfl ?_
            refine sm_T_bas1 (n := 65537) rfl rfl (by omega) (by omega) (by decide) ?_
            have hI79_ : gi (sm_aI S_ 119 0 tt_.toNat 3) := gi_aI hI_ (show (-128) ≤ 3 ∧ 3 ≤ 127 from ⟨by omega, by omega⟩)
            have hF80_ : ai_fr (sx_W vw_290) S0_ (sm_aI S_ 119 0 tt_.toNat 3) := ai_fr_tr hF_ (ai_fr_aI rfl)
            refine sm_T_go 7 (c1 := (438, [some (.inr (.inr (some (13, 0)))), some (.inl f_), some (.inl tt_), some (.inl k_), some (.inl c_), some (.inl 1), some (.inl 0)], [.inl 256, .inl tt_, .inr (.inr (some (121, 0)))], sm_aI S_ 119 0 tt_.toNat 3)) rfl ?_
            refine sm_T_iast (n := 65537) rfl rfl (by omega) (by omega) ?_
            have hI81_ : gi (sm_aI (sm_aI S_ 119 0 tt_.toNat 3) 121 0 tt_.toNat 256) := gi_aI hI79_ (show (-2147483648) ≤ 256 ∧ 256 ≤ 2147483647 from ⟨by omega, by omega⟩)
            have hF82_ : ai_fr (sx_W vw_290) S0_ (sm_aI (sm_aI S_ 119 0 tt_.toNat 3) 121 0 tt_.toNat 256) := ai_fr_tr hF80_ (ai_fr_aI rfl)
            refine sm_T_go 5 (c1 := (455, [some (.inr (.inr (some (13, 0)))), some (.inl f_), some (.inl tt_), some (.inl k_), some (.inl c_), some (.inl 1), some (.inl 0)], [.inl 2, .inl k_], sm_aI (sm_aI S_ 119 0 tt_.toNat 3) 121 0 tt_.toNat 256)) rfl ?_
            refine sm_T_bin (w := k_ + 2) rfl (bi_add (by omega) (by omega) (by omega)) ?_
            refine sm_T_ri rfl ⟨_, _, rfl, _, rfl, hI81_, hF82_, ?_⟩
            have hkd_ : lx_kd b_ n_ p_ = if lx_sk b_ n_ p_ = 0 then -1 else lx_sk b_ n_ p_ := by unfold lx_kd; rw [if_neg (Nat.not_le.mpr hpn_), if_neg (show ¬ lx_l (b_ p_) from (hide_o h1_).1), if_neg (show ¬ lx_g (b_ p_) from (hide_o h1_).2)]
            have hen_ : lx_en b_ n_ p_ = lx_sn b_ n_ p_ := by unfold lx_en; rw [if_neg (Nat.not_le.mpr hpn_), if_neg (show ¬ lx_l (b_ p_) from (hide_o h1_).1), if_neg (show ¬ lx_g (b_ p_) from (hide_o h1_).2)]
            first | (have hsn_ : lx_sn b_ n_ p_ = p_ + 2 := if_pos ⟨by omega, by omega, by omega⟩) | (have hsn_ : lx_sn b_ n_ p_ = p_ + 2 := by unfold lx_sn; rw [if_neg (by omega), if_pos ⟨by omega, by omega, by omega⟩]) | (have hsn_ : lx_sn b_ n_ p_ = p_ + 1 := by unfold lx_sn; rw [if_neg (by omega), if_neg (by omega)])
            first | (have hsk_ : lx_sk b_ n_ p_ = 256 := if_pos ⟨by omega, by omega, by omega⟩) | (have hsk_ : lx_sk b_ n_ p_ = 257 := by unfold lx_sk; rw [if_neg (by omega), if_pos ⟨by omega, by omega, by omega⟩]) | (have hsk_ : lx_sk b_ n_ p_ = b_ p_ ∧ 33 ≤ b_ p_ := by unfold lx_sk; rw [if_neg (by omega), if_neg (by omega)]; rcases hide_o hs396_ with hs_ | hs_; (refine ⟨if_pos hs_.2.2, ?_⟩; rcases hs_.2.2 with q_ | q_ | q_ | q_ | q_ | q_ | q_ | q_ | q_ | q_ | q_ | q_ | q_ | q_ | q_ | q_ <;> (rw [q_]; decide)); (exfalso; have hs1_ := hs_.1; clear hs_; omega)) | (have hsk_ : lx_sk b_ n_ p_ = 0 := by unfold lx_sk; rw [if_neg (by omega), if_neg (by omega)]; rcases hide_o hs396_ with hs_ | hs_; (exfalso; have hs1_ := hs_.1; clear hs_; omega); (exact if_neg (fun hh_ => hs_.2 ⟨hpn_, hh_⟩)))
            (try simp only [rd_eq, rd_ne, rf_eq, rf_nk, rf_nt, rd_fa, rd_af, rd_fl, rd_al, rd_lf, rd_la, rd_leq, rd_lne, rd_fr, rd_ar, ne_eq, Nat.reduceEqDiff, not_false_eq_true] at *)
            simp only [ett_, if_true, reduceIte] at *
            refine ⟨?_, ⟨h5_, ?_, ?_, ?_⟩, ?_⟩
            · rw [hen_, hsn_]; push_cast; omega
            · rw [hkd_]; first | (rw [if_neg (by omega)]; exact (tk_g (show 33 ≤ lx_sk b_ n_ p_ by omega)).1) | (rw [if_pos (by omega)]; rfl) | (exfalso; rcases hide_o hs396_ with hs_ | hs_; (have hs1_ := hs_.1; clear hs_; omega); (refine hs_.2 ⟨hpn_, ?_⟩; have hb61_ : b_ p_ = 61 := (by clear hs_; omega); rw [hb61_]; decide))
            · intro hx_; rw [hkd_] at hx_ ⊢; by_cases hz_ : lx_sk b_ n_ p_ = 0
              · exact absurd (if_pos hz_) hx_
              · rw [if_neg hz_, ← (tk_g (show 33 ≤ lx_sk b_ n_ p_ by omega)).2 (lx_vl b_ n_ p_)]; omega
            · rw [hkd_]; intro h_; split at h_ <;> omega
            · intro j_ hj_; have hu_ := h6_ j_ hj_; simp only [if_neg hj_]; exact hu_
          · have c78_ : ¬ (c_ ≠ 61) := of_decide_eq_false c78_
            exfalso; omega
set_option maxHeartbeats 16000000 in
set_option maxRecDepth 20000 in
theorem vc_290 {sc_ : Nat × (Nat → Int)} (f_ : Int) (b_ : Nat → Int) (n_ : Nat) (p_ : Nat) (t_ : Nat) (S0_ : sm_S) (hI_ : gi S0_) (hb_ : S0_.2.2.1 118 0 = b_) (hn_ : (S0_.1 13 0 2) = (n_ : Int)) (hn1_ : n_ ≤ 1280) (hp_ : f_ = (p_ : Int)) (hpn_ : p_ < n_) (ht_ : (S0_.1 13 0 3) = (t_ : Int)) (ht1_ : t_ ≤ 1280) : sm_T (mt_P sc_) 2 290 (0, [some (.inr (.inr (some (13, 0)))), some (.inl f_), none, none, none, none, none], [], S0_) (fun r_ => ∃ u_ S1_, r_ = (.inl u_, S1_, 0) ∧ vq_290 f_ b_ n_ p_ t_ S0_ u_ S1_) := by
  have hF_ : ai_fr (sx_W vw_290) S0_ S0_ := ai_fr_rf
  have hI0_ := hI_
  have hb1_ := hb_
  have hn2_ := hn_
  have hbb_ : ∀ k_, -128 ≤ b_ k_ ∧ b_ k_ ≤ 127 := fun k_ => by rw [← hb_]; exact hI0_.2 118 0 k_
  have ett_ : (S0_.1 13 0 3).toNat = t_ := by omega
  have ef_ : f_.toNat = p_ := by omega
  have hbi_ := hbb_ p_
  have hbl_ := rb_l (n := n_) hbi_
  have hbg_ := rb_g (n := n_) hbi_
  have b1_ : 0 ≤ S0_.1 13 0 3 ∧ S0_.1 13 0 3 ≤ 1280 := hI_.1 13 0 3 rfl
  refine sm_T_go 7 (c1 := (11, [some (.inr (.inr (some (13, 0)))), some (.inl f_), some (.inl (S0_.1 13 0 3)), none, none, none, none], [.inl f_, .inl (S0_.1 13 0 3), .inr (.inr (some (120, 0)))], S0_)) rfl ?_
  refine sm_T_iast (n := 65537) rfl rfl (by omega) (by omega) ?_
  have hI2_ : gi (sm_aI S0_ 120 0 (S0_.1 13 0 3).toNat f_) := gi_aI hI_ (show 0 ≤ f_ ∧ f_ ≤ 1280 from ⟨by omega, by omega⟩)
  have hF3_ : ai_fr (sx_W vw_290) S0_ (sm_aI S0_ 120 0 (S0_.1 13 0 3).toNat f_) := ai_fr_tr hF_ (ai_fr_aI rfl)
  refine sm_T_go 4 (c1 := (18, [some (.inr (.inr (some (13, 0)))), some (.inl f_), some (.inl (S0_.1 13 0 3)), none, none, none, none], [.inl 0, .inl (S0_.1 13 0 3), .inr (.inr (some (121, 0)))], sm_aI S0_ 120 0 (S0_.1 13 0 3).toNat f_)) rfl ?_
  refine sm_T_iast (n := 65537) rfl rfl (by omega) (by omega) ?_
  have hI4_ : gi (sm_aI (sm_aI S0_ 120 0 (S0_.1 13 0 3).toNat f_) 121 0 (S0_.1 13 0 3).toNat 0) := gi_aI hI2_ (show (-2147483648) ≤ 0 ∧ 0 ≤ 2147483647 from ⟨by omega, by omega⟩)
  have hF5_ : ai_fr (sx_W vw_290) S0_ (sm_aI (sm_aI S0_ 120 0 (S0_.1 13 0 3).toNat f_) 121 0 (S0_.1 13 0 3).toNat 0) := ai_fr_tr hF3_ (ai_fr_aI rfl)
  refine sm_T_go 4 (c1 := (25, [some (.inr (.inr (some (13, 0)))), some (.inl f_), some (.inl (S0_.1 13 0 3)), none, none, none, none], [.inr (.inl 0), .inl (S0_.1 13 0 3), .inr (.inr (some (122, 0)))], sm_aI (sm_aI S0_ 120 0 (S0_.1 13 0 3).toNat f_) 121 0 (S0_.1 13 0 3).toNat 0)) rfl ?_
  refine sm_T_last (n := 65537) rfl rfl (by omega) (by omega) ?_
  have hI6_ : gi (sm_aL (sm_aI (sm_aI S0_ 120 0 (S0_.1 13 0 3).toNat f_) 121 0 (S0_.1 13 0 3).toNat 0) 122 0 (S0_.1 13 0 3).toNat 0) := gi_aL hI4_
  have hF7_ : ai_fr (sx_W vw_290) S0_ (sm_aL (sm_aI (sm_aI S0_ 120 0 (S0_.1 13 0 3).toNat f_) 121 0 (S0_.1 13 0 3).toNat 0) 122 0 (S0_.1 13 0 3).toNat 0) := ai_fr_tr hF5_ (ai_fr_aL rfl)
  refine sm_T_go 4 (c1 := (32, [some (.inr (.inr (some (13, 0)))), some (.inl f_), some (.inl (S0_.1 13 0 3)), none, none, none, none], [.inl 0, .inl (S0_.1 13 0 3), .inr (.inr (some (123, 0)))], sm_aL (sm_aI (sm_aI S0_ 120 0 (S0_.1 13 0 3).toNat f_) 121 0 (S0_.1 13 0 3).toNat 0) 122 0 (S0_.1 13 0 3).toNat 0)) rfl ?_
  refine sm_T_iast (n := 65537) rfl rfl (by omega) (by omega) ?_
  have hI8_ : gi (sm_aI (sm_aL (sm_aI (sm_aI S0_ 120 0 (S0_.1 13 0 3).toNat f_) 121 0 (S0_.1 13 0 3).toNat 0) 122 0 (S0_.1 13 0 3).toNat 0) 123 0 (S0_.1 13 0 3).toNat 0) := gi_aI hI6_ (show (-2147483648) ≤ 0 ∧ 0 ≤ 2147483647 from ⟨by omega, by omega⟩)
  have hF9_ : ai_fr (sx_W vw_290) S0_ (sm_aI (sm_aL (sm_aI (sm_aI S0_ 120 0 (S0_.1 13 0 3).toNat f_) 121 0 (S0_.1 13 0 3).toNat 0) 122 0 (S0_.1 13 0 3).toNat 0) 123 0 (S0_.1 13 0 3).toNat 0) := ai_fr_tr hF7_ (ai_fr_aI rfl)
  refine sm_T_go 4 (c1 := (37, [some (.inr (.inr (some (13, 0)))), some (.inl f_), some (.inl (S0_.1 13 0 3)), some (.inl f_), none, none, none], [.inl f_, .inr (.inr (some (13, 0)))], sm_aI (sm_aL (sm_aI (sm_aI S0_ 120 0 (S0_.1 13 0 3).toNat f_) 121 0 (S0_.1 13 0 3).toNat 0) 122 0 (S0_.1 13 0 3).toNat 0) 123 0 (S0_.1 13 0 3).toNat 0)) rfl ?_
  refine sm_T_cal (d1 := 0) (Q1 := vq_282 f_ b_ n_ (sm_aI (sm_aL (sm_aI (sm_aI S0_ 120 0 (S0_.1 13 0 3).toNat f_) 121 0 (S0_.1 13 0 3).toNat 0) 122 0 (S0_.1 13 0 3).toNat 0) 123 0 (S0_.1 13 0 3).toNat 0)) rfl rfl (by decide) (vc_282 f_ b_ n_ (sm_aI (sm_aL (sm_aI (sm_aI S0_ 120 0 (S0_.1 13 0 3).toNat f_) 121 0 (S0_.1 13 0 3).toNat 0) 122 0 (S0_.1 13 0 3).toNat 0) 123 0 (S0_.1 13 0 3).toNat 0) hI8_ (by exact hb1_) (by exact hn2_) (by exact hn1_) (by omega)) (fun u_ S10_ p13_ => ?_)
  obtain ⟨rfl, v15_, rfl, p13_⟩ := p13_
  have hc37_ := p13_
  rw [ef_] at hc37_
  have hrbb : -1 ≤ rb b_ n_ p_ ∧ rb b_ n_ p_ ≤ 255 := by unfold rb; split <;> omega
  refine sm_T_go 2 (c1 := (44, [some (.inr (.inr (some (13, 0)))), some (.inl f_), some (.inl (S0_.1 13 0 3)), some (.inl f_), some (.inl v15_), none, none], [.inl v15_], sm_aI (sm_aL (sm_aI (sm_aI S0_ 120 0 (S0_.1 13 0 3).toNat f_) 121 0 (S0_.1 13 0 3).toNat 0) 122 0 (S0_.1 13 0 3).toNat 0) 123 0 (S0_.1 13 0 3).toNat 0)) rfl ?_
  refine sm_T_cal (d1 := 0) (Q1 := vq_283 v15_ (sm_aI (sm_aL (sm_aI (sm_aI S0_ 120 0 (S0_.1 13 0 3).toNat f_) 121 0 (S0_.1 13 0 3).toNat 0) 122 0 (S0_.1 13 0 3).toNat 0) 123 0 (S0_.1 13 0 3).toNat 0)) rfl rfl (by decide) (vc_283 v15_ (sm_aI (sm_aL (sm_aI (sm_aI S0_ 120 0 (S0_.1 13 0 3).toNat f_) 121 0 (S0_.1 13 0 3).toNat 0) 122 0 (S0_.1 13 0 3).toNat 0) 123 0 (S0_.1 13 0 3).toNat 0) hI8_ ) (fun u_ S16_ p19_ => ?_)
  obtain ⟨rfl, v21_, rfl, p19_⟩ := p19_
  have hl44_ := if01 p19_
  rw [hc37_, hbl_] at hl44_
  refine sm_T_b0 (a := 0) (z := 197) rfl (fun c22_ => ?_) (fun c22_ => ?_)
  · have c22_ : v21_ = 0 := of_decide_eq_true c22_
    refine sm_T_go 1 (c1 := (246, [some (.inr (.inr (some (13, 0)))), some (.inl f_), some (.inl (S0_.1 13 0 3)), some (.inl f_), some (.inl v15_), none, none], [.inl v15_], sm_aI (sm_aL (sm_aI (sm_aI S0_ 120 0 (S0_.1 13 0 3).toNat f_) 121 0 (S0_.1 13 0 3).toNat 0) 122 0 (S0_.1 13 0 3).toNat 0) 123 0 (S0_.1 13 0 3).toNat 0)) rfl ?_
    refine sm_T_cal (d1 := 0) (Q1 := vq_284 v15_ (sm_aI (sm_aL (sm_aI (sm_aI S0_ 120 0 (S0_.1 13 0 3).toNat f_) 121 0 (S0_.1 13 0 3).toNat 0) 122 0 (S0_.1 13 0 3).toNat 0) 123 0 (S0_.1 13 0 3).toNat 0)) rfl rfl (by decide) (vc_284 v15_ (sm_aI (sm_aL (sm_aI (sm_aI S0_ 120 0 (S0_.1 13 0 3).toNat f_) 121 0 (S0_.1 13 0 3).toNat 0) 122 0 (S0_.1 13 0 3).toNat 0) 123 0 (S0_.1 13 0 3).toNat 0) hI8_ ) (fun u_ S23_ p26_ => ?_)
    obtain ⟨rfl, v28_, rfl, p26_⟩ := p26_
    have hg246_ := if01 p26_
    rw [hc37_, hbg_] at hg246_
    refine sm_T_b0 (a := 0) (z := 83) rfl (fun c29_ => ?_) (fun c29_ => ?_)
    · have c29_ : v28_ = 0 := of_decide_eq_true c29_
      refine sm_T_go 0 (c1 := (332, [some (.inr (.inr (some (13, 0)))), some (.inl f_), some (.inl (S0_.1 13 0 3)), some (.inl f_), some (.inl v15_), none, none], [], sm_aI (sm_aL (sm_aI (sm_aI S0_ 120 0 (S0_.1 13 0 3).toNat f_) 121 0 (S0_.1 13 0 3).toNat 0) 122 0 (S0_.1 13 0 3).toNat 0) 123 0 (S0_.1 13 0 3).toNat 0)) rfl ?_
      refine (vl_290 f_ b_ n_ p_ t_ S0_ hb_ hn_ hn1_ hp_ hpn_ ht_ ht1_ _).2.2 (S0_.1 13 0 3) f_ v15_ (sm_aI (sm_aL (sm_aI (sm_aI S0_ 120 0 (S0_.1 13 0 3).toNat f_) 121 0 (S0_.1 13 0 3).toNat 0) 122 0 (S0_.1 13 0 3).toNat 0) 123 0 (S0_.1 13 0 3).toNat 0) hI8_ hF9_ ⟨?_, ?_, ?_, ?_, trivial⟩ (Nat.lt_succ_self _)
      · exact ⟨ht_, hp_, hc37_⟩
      · exact ⟨by omega, by omega⟩
      · (try simp only [rd_eq, rd_ne, rf_eq, rf_nk, rf_nt, rd_fa, rd_af, rd_fl, rd_al, rd_lf, rd_la, rd_leq, rd_lne, rd_fr, rd_ar, ne_eq, Nat.reduceEqDiff, not_false_eq_true])
        simp only [ett_, if_true, reduceIte]
        exact hp_
      · intro j_ hj_
        (try simp only [rd_eq, rd_ne, rf_eq, rf_nk, rf_nt, rd_fa, rd_af, rd_fl, rd_al, rd_lf, rd_la, rd_leq, rd_lne, rd_fr, rd_ar, ne_eq, Nat.reduceEqDiff, not_false_eq_true])
        simp only [ett_, if_neg hj_]
        exact ⟨trivial, trivial, trivial, trivial, trivial⟩
    · have c29_ : ¬ (v28_ = 0) := of_decide_eq_false c29_
      refine sm_T_go 0 (c1 := (252, [some (.inr (.inr (some (13, 0)))), some (.inl f_), some (.inl (S0_.1 13 0 3)), some (.inl f_), some (.inl v15_), none, none], [], sm_aI (sm_aL (sm_aI (sm_aI S0_ 120 0 (S0_.1 13 0 3).toNat f_) 121 0 (S0_.1 13 0 3).toNat 0) 122 0 (S0_.1 13 0 3).toNat 0) 123 0 (S0_.1 13 0 3).toNat 0)) rfl ?_
      refine (vl_290 f_ b_ n_ p_ t_ S0_ hb_ hn_ hn1_ hp_ hpn_ ht_ ht1_ _).2.1 (S0_.1 13 0 3) f_ v15_ (sm_aI (sm_aL (sm_aI (sm_aI S0_ 120 0 (S0_.1 13 0 3).toNat f_) 121 0 (S0_.1 13 0 3).toNat 0) 122 0 (S0_.1 13 0 3).toNat 0) 123 0 (S0_.1 13 0 3).toNat 0) hI8_ hF9_ ⟨?_, ?_, ?_, ?_, ?_, trivial⟩ (Nat.lt_succ_self _)
      · exact ⟨ht_, by omega, by omega⟩
      · exact ⟨0, by omega, by omega, rfl, fun j_ hj_ => absurd hj_ (Nat.not_lt_zero _)⟩
      · rw [show (f_ - p_).toNat = 0 by omega]
        (try simp only [rd_eq, rd_ne, rf_eq, rf_nk, rf_nt, rd_fa, rd_af, rd_fl, rd_al, rd_lf, rd_la, rd_leq, rd_lne, rd_fr, rd_ar, ne_eq, Nat.reduceEqDiff, not_false_eq_true])
        simp only [ett_, if_true, reduceIte]
        rfl
      · (try simp only [rd_eq, rd_ne, rf_eq, rf_nk, rf_nt, rd_fa, rd_af, rd_fl, rd_al, rd_lf, rd_la, rd_leq, rd_lne, rd_fr, rd_ar, ne_eq, Nat.reduceEqDiff, not_false_eq_true])
        simp only [ett_, if_true, reduceIte]
        exact hp_
      · intro j_ hj_
        (try simp only [rd_eq, rd_ne, rf_eq, rf_nk, rf_nt, rd_fa, rd_af, rd_fl, rd_al, rd_lf, rd_la, rd_leq, rd_lne, rd_fr, rd_ar, ne_eq, Nat.reduceEqDiff, not_false_eq_true])
        simp only [ett_, if_neg hj_]
        exact ⟨trivial, trivial, trivial, trivial, trivial⟩
  · have c22_ : ¬ (v21_ = 0) := of_decide_eq_false c22_
    refine sm_T_go 0 (c1 := (50, [some (.inr (.inr (some (13, 0)))), some (.inl f_), some (.inl (S0_.1 13 0 3)), some (.inl f_), some (.inl v15_), none, none], [], sm_aI (sm_aL (sm_aI (sm_aI S0_ 120 0 (S0_.1 13 0 3).toNat f_) 121 0 (S0_.1 13 0 3).toNat 0) 122 0 (S0_.1 13 0 3).toNat 0) 123 0 (S0_.1 13 0 3).toNat 0)) rfl ?_
    refine (vl_290 f_ b_ n_ p_ t_ S0_ hb_ hn_ hn1_ hp_ hpn_ ht_ ht1_ _).1 (S0_.1 13 0 3) f_ v15_ (sm_aI (sm_aL (sm_aI (sm_aI S0_ 120 0 (S0_.1 13 0 3).toNat f_) 121 0 (S0_.1 13 0 3).toNat 0) 122 0 (S0_.1 13 0 3).toNat 0) 123 0 (S0_.1 13 0 3).toNat 0) hI8_ hF9_ ⟨?_, ?_, ?_, ?_, ?_, trivial⟩ (Nat.lt_succ_self _)
    · exact ⟨ht_, by omega⟩
    · exact ⟨0, by omega, by omega, rfl, fun j_ hj_ => absurd hj_ (Nat.not_lt_zero _)⟩
    · rw [show (f_ - p_).toNat = 0 by omega]
      (try simp only [rd_eq, rd_ne, rf_eq, rf_nk, rf_nt, rd_fa, rd_af, rd_fl, rd_al, rd_lf, rd_la, rd_leq, rd_lne, rd_fr, rd_ar, ne_eq, Nat.reduceEqDiff, not_false_eq_true])
      simp only [ett_, if_true, reduceIte]
      exact ⟨rfl, rfl⟩
    · (try simp only [rd_eq, rd_ne, rf_eq, rf_nk, rf_nt, rd_fa, rd_af, rd_fl, rd_al, rd_lf, rd_la, rd_leq, rd_lne, rd_fr, rd_ar, ne_eq, Nat.reduceEqDiff, not_false_eq_true])
      simp only [ett_, if_true, reduceIte]
      exact ⟨trivial, hp_⟩
    · intro j_ hj_
      (try simp only [rd_eq, rd_ne, rf_eq, rf_nk, rf_nt, rd_fa, rd_af, rd_fl, rd_al, rd_lf, rd_la, rd_leq, rd_lne, rd_fr, rd_ar, ne_eq, Nat.reduceEqDiff, not_false_eq_true])
      simp only [ett_, if_neg hj_]
      exact ⟨trivial, trivial, trivial, trivial, trivial⟩
