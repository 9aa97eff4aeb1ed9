/-! the reference: all tokens; written by wip/p55/gen/vg -/
theorem lx_en_lt {b_ : Nat → Int} {n_ p_ : Nat} (h_ : p_ < n_) : p_ < lx_en b_ n_ p_ := by
  unfold lx_en
  rw [if_neg (by omega)]
  split
  · rename_i q_
    rw [lx_e_go, if_pos ⟨h_, Or.inl q_⟩]
    have := lx_ne_le (b := b_) (show p_ + 1 ≤ n_ by omega)
    omega
  · split
    · rename_i q_
      rw [lx_f_go, if_pos ⟨h_, q_⟩]
      have := lx_de_le (b := b_) (show p_ + 1 ≤ n_ by omega)
      omega
    · exact (lx_sn_le h_).1
/-- the_ places of_ the_ tokens, one_ after the_ other -/
def lxp (b_ : Nat → Int) (n_ : Nat) : Nat → Nat
  | 0 => lx_k b_ n_ 0
  | i_ + 1 => lx_nx b_ n_ (lxp b_ n_ i_)
theorem lxp_le {b_ : Nat → Int} {n_ : Nat} : ∀ i_, lxp b_ n_ i_ ≤ n_
  | 0 => (lx_k_le (Nat.zero_le n_)).2
  | i_ + 1 => (lx_nx_le (lxp_le i_)).2
theorem lxp_lt {b_ : Nat → Int} {n_ i_ : Nat} (h_ : lxp b_ n_ i_ < n_) : lxp b_ n_ i_ < lxp b_ n_ (i_ + 1) := by
  have h1_ := lx_en_lt (b_ := b_) h_
  have h2_ := lx_en_le (b := b_) (Nat.le_of_lt h_)
  have h3_ := lx_k_le (b := b_) h2_.2
  show _ < lx_nx b_ n_ (lxp b_ n_ i_)
  unfold lx_nx
  omega
theorem lxp_ge {b_ : Nat → Int} {n_ : Nat} : ∀ i_, (∀ j_, j_ < i_ → lxp b_ n_ j_ < n_) → i_ ≤ lxp b_ n_ i_
  | 0, _ => Nat.zero_le _
  | i_ + 1, h_ => by
    have h1_ := lxp_ge i_ (fun j_ hj_ => h_ j_ (by omega))
    have h2_ := lxp_lt (h_ i_ (by omega))
    omega
def rrow (b_ : Nat → Int) (n_ : Nat) (S_ : sm_S) (t_ p_ : Nat) : Prop := (S_.2.2.1 120 0 (t_)) = (p_ : Int) ∧ (S_.2.2.1 119 0 (t_)) = r_so (lx_kd b_ n_ p_) ∧ (lx_kd b_ n_ p_ ≠ -1 → (S_.2.2.1 121 0 (t_)) = r_nu (lx_kd b_ n_ p_) (lx_vl b_ n_ p_)) ∧ (lx_kd b_ n_ p_ = 1 → (S_.2.2.2 122 0 (t_)) = rk1 b_ p_ (lx_sz b_ n_ p_) ∧ (S_.2.2.1 123 0 (t_)) = rk2 b_ p_ (lx_sz b_ n_ p_))
def tkt (b_ : Nat → Int) (n_ T_ : Nat) (S_ : sm_S) : Prop := (∀ i_, i_ < T_ → lxp b_ n_ i_ < n_ ∧ rrow b_ n_ S_ i_ (lxp b_ n_ i_)) ∧ (∀ i_, i_ + 1 < T_ → lx_kd b_ n_ (lxp b_ n_ i_) ≠ -1)
/-! M_.cutTape -/
def vw_291 : sx_Wl := ([(13, 3)], [119, 120, 121, 122, 123], [])
def vq_291 (b_ : Nat → Int) (n_ : Nat) (S0_ : sm_S) (u_ : Option sm_V) (S1_ : sm_S) : Prop := u_ = none ∧ gi S1_ ∧ ai_fr (sx_W vw_291) S0_ S1_ ∧ (∃ T_ : Nat, (S1_.1 13 0 3) = (T_ : Int) ∧ T_ ≤ 1280 ∧ tkt b_ n_ T_ S1_ ∧ (S1_.2.2.1 119 0 (T_)) = 5 ∧ (S1_.2.2.1 120 0 (T_)) = (n_ : Int) ∧ (S1_.2.2.1 121 0 (T_)) = 0 ∧ ((lxp b_ n_ T_ = n_ ∧ ∀ i_, i_ < T_ → lx_kd b_ n_ (lxp b_ n_ i_) ≠ -1) ∨ (0 < T_ ∧ lx_kd b_ n_ (lxp b_ n_ (T_ - 1)) = -1)))
theorem vl_291 {sc_ : Nat × (Nat → Int)} (b_ : Nat → Int) (n_ : Nat) (S0_ : sm_S) (hb_ : S0_.2.2.1 118 0 = b_) (hn_ : (S0_.1 13 0 2) = (n_ : Int)) (hn1_ : n_ ≤ 1280) : ∀ nn_ : Nat, (∀ (k_ : Int) (bad_ : Int) (S_ : sm_S), gi S_ → ai_fr (sx_W vw_291) S0_ S_ → ((bad_ = 0 ∨ bad_ = 1) ∧ (∃ T_ : Nat, (S_.1 13 0 3) = (T_ : Int) ∧ T_ ≤ n_ ∧ k_ = (lxp b_ n_ T_ : Nat) ∧ tkt b_ n_ T_ S_ ∧ ((bad_ = 0 ∧ ∀ i_, i_ < T_ → lx_kd b_ n_ (lxp b_ n_ i_) ≠ -1) ∨ (bad_ = 1 ∧ 0 < T_ ∧ lx_kd b_ n_ (lxp b_ n_ (T_ - 1)) = -1))) ∧ True) → ((1300 - (S_.1 13 0 3)).toNat) < nn_ → sm_T (mt_P sc_) 3 291 (13, [some (.inr (.inr (some (13, 0)))), some (.inl k_), some (.inl bad_)], [], S_) (fun r_ => ∃ u_ S1_, r_ = (.inl u_, S1_, 0) ∧ vq_291 b_ n_ S0_ u_ S1_)) := by
  intro nn_
  induction nn_ with
  | zero => exact fun _ _ _ _ _ _ h_ => absurd h_ (Nat.not_lt_zero _)
  | succ nn_ ih_ =>
    rintro k_ bad_ S_ hI_ hF_ ⟨h0_, h1_, -⟩ hm_
    have hb1_ : S_.2.2.1 118 0 = b_ := (fr_arr hF_ rfl).trans hb_
    have hn2_ : (S_.1 13 0 2) = (n_ : Int) := (hF_.1 13 0 2 rfl).trans hn_
    have hbb_ : ∀ k_, -128 ≤ b_ k_ ∧ b_ k_ ≤ 127 := fun k_ => by rw [← hb1_]; exact hI_.2 118 0 k_
    obtain ⟨T_, hT_, hTn_, hk_, ht_, hd_⟩ := h1_
    have hle_ := (lxp_le T_ : lxp b_ n_ T_ ≤ n_)
    have hge_ := lxp_ge (b_ := b_) (n_ := n_) T_ (fun j_ hj_ => (ht_.1 j_ hj_).1)
    have hel_ := lx_en_le (b := b_) hle_
    have eT_ : (S_.1 13 0 3).toNat = T_ := by omega
    have b1_ : 0 ≤ S_.1 13 0 2 ∧ S_.1 13 0 2 ≤ 1280 := hI_.1 13 0 2 rfl
    refine sm_T_go 3 (c1 := (18, [some (.inr (.inr (some (13, 0)))), some (.inl k_), some (.inl bad_)], [.inl (S_.1 13 0 2), .inl k_], S_)) rfl ?_
    refine sm_T_br (a := 3) (z := 49) rfl (fun c2_ => ?_) (fun c2_ => ?_)
    · have c2_ : (S_.1 13 0 2) ≤ k_ := of_decide_eq_true c2_
      have b3_ : 0 ≤ S_.1 13 0 3 ∧ S_.1 13 0 3 ≤ 1280 := hI_.1 13 0 3 rfl
      refine sm_T_go 5 (c1 := (76, [some (.inr (.inr (some (13, 0)))), some (.inl k_), some (.inl bad_)], [.inl 5, .inl (S_.1 13 0 3), .inr (.inr (some (119, 0)))], S_)) rfl ?_
      refine sm_T_bas1 (n := 65537) rfl rfl (by omega) (by omega) (by decide) ?_
      have hI4_ : gi (sm_aI S_ 119 0 (S_.1 13 0 3).toNat 5) := gi_aI hI_ (show (-128) ≤ 5 ∧ 5 ≤ 127 from ⟨by omega, by omega⟩)
      have hF5_ : ai_fr (sx_W vw_291) S0_ (sm_aI S_ 119 0 (S_.1 13 0 3).toNat 5) := ai_fr_tr hF_ (ai_fr_aI rfl)
      refine sm_T_go 6 (c1 := (89, [some (.inr (.inr (some (13, 0)))), some (.inl k_), some (.inl bad_)], [.inl (S_.1 13 0 2), .inl (S_.1 13 0 3), .inr (.inr (some (120, 0)))], sm_aI S_ 119 0 (S_.1 13 0 3).toNat 5)) rfl ?_
      refine sm_T_iast (n := 65537) rfl rfl (by omega) (by omega) ?_
      have hI6_ : gi (sm_aI (sm_aI S_ 119 0 (S_.1 13 0 3).toNat 5) 120 0 (S_.1 13 0 3).toNat (S_.1 13 0 2)) := gi_aI hI4_ (show 0 ≤ (S_.1 13 0 2) ∧ (S_.1 13 0 2) ≤ 1280 from ⟨by omega, by omega⟩)
      have hF7_ : ai_fr (sx_W vw_291) S0_ (sm_aI (sm_aI S_ 119 0 (S_.1 13 0 3).toNat 5) 120 0 (S_.1 13 0 3).toNat (S_.1 13 0 2)) := ai_fr_tr hF5_ (ai_fr_aI rfl)
      refine sm_T_go 5 (c1 := (99, [some (.inr (.inr (some (13, 0)))), some (.inl k_), some (.inl bad_)], [.inl 0, .inl (S_.1 13 0 3), .inr (.inr (some (121, 0)))], sm_aI (sm_aI S_ 119 0 (S_.1 13 0 3).toNat 5) 120 0 (S_.1 13 0 3).toNat (S_.1 13 0 2))) rfl ?_
      refine sm_T_iast (n := 65537) rfl rfl (by omega) (by omega) ?_
      have hI8_ : gi (sm_aI (sm_aI (sm_aI S_ 119 0 (S_.1 13 0 3).toNat 5) 120 0 (S_.1 13 0 3).toNat (S_.1 13 0 2)) 121 0 (S_.1 13 0 3).toNat 0) := gi_aI hI6_ (show (-2147483648) ≤ 0 ∧ 0 ≤ 2147483647 from ⟨by omega, by omega⟩)
      have hF9_ : ai_fr (sx_W vw_291) S0_ (sm_aI (sm_aI (sm_aI S_ 119 0 (S_.1 13 0 3).toNat 5) 120 0 (S_.1 13 0 3).toNat (S_.1 13 0 2)) 121 0 (S_.1 13 0 3).toNat 0) := ai_fr_tr hF7_ (ai_fr_aI rfl)
      refine sm_T_rv rfl ⟨_, _, rfl, rfl, hI8_, hF9_, ?_⟩
      refine ⟨T_, hT_, by omega, ?_, ?_, ?_, ?_, ?_⟩
      · refine ⟨fun i_ hi_ => ⟨(ht_.1 i_ hi_).1, ?_⟩, ht_.2⟩
        have hv_ := (ht_.1 i_ hi_).2
        unfold rrow at hv_ ⊢
        (try simp only [rd_eq, rd_ne, rf_eq, rf_nk, rf_nt, rd_fa, rd_af, rd_fl, rd_al, rd_lf, rd_la, rd_leq, rd_lne, rd_fr, rd_ar, ne_eq, Nat.reduceEqDiff, not_false_eq_true])
        simp only [eT_, show i_ ≠ T_ by omega, if_false, reduceIte]
        exact hv_
      · (try simp only [rd_eq, rd_ne, rf_eq, rf_nk, rf_nt, rd_fa, rd_af, rd_fl, rd_al, rd_lf, rd_la, rd_leq, rd_lne, rd_fr, rd_ar, ne_eq, Nat.reduceEqDiff, not_false_eq_true]); simp only [eT_, if_true, reduceIte]
      · (try simp only [rd_eq, rd_ne, rf_eq, rf_nk, rf_nt, rd_fa, rd_af, rd_fl, rd_al, rd_lf, rd_la, rd_leq, rd_lne, rd_fr, rd_ar, ne_eq, Nat.reduceEqDiff, not_false_eq_true]); simp only [eT_, if_true, reduceIte]; exact hn2_
      · (try simp only [rd_eq, rd_ne, rf_eq, rf_nk, rf_nt, rd_fa, rd_af, rd_fl, rd_al, rd_lf, rd_la, rd_leq, rd_lne, rd_fr, rd_ar, ne_eq, Nat.reduceEqDiff, not_false_eq_true]); simp only [eT_, if_true, reduceIte]
      · rcases hd_ with hd_ | hd_
        · left; exact ⟨by omega, hd_.2⟩
        · right; exact hd_.2
    · have c2_ : ¬ ((S_.1 13 0 2) ≤ k_) := of_decide_eq_false c2_
      refine sm_T_go 1 (c1 := (22, [some (.inr (.inr (some (13, 0)))), some (.inl k_), some (.inl bad_)], [.inl bad_], S_)) rfl ?_
      refine sm_T_b0 (a := 1) (z := 45) rfl (fun c10_ => ?_) (fun c10_ => ?_)
      · have c10_ : bad_ ≠ 0 := of_decide_eq_true c10_
        have b11_ : 0 ≤ S_.1 13 0 3 ∧ S_.1 13 0 3 ≤ 1280 := hI_.1 13 0 3 rfl
        refine sm_T_go 5 (c1 := (76, [some (.inr (.inr (some (13, 0)))), some (.inl k_), some (.inl bad_)], [.inl 5, .inl (S_.1 13 0 3), .inr (.inr (some (119, 0)))], S_)) rfl ?_
        refine sm_T_bas1 (n := 65537) rfl rfl (by omega) (by omega) (by decide) ?_
        have hI12_ : gi (sm_aI S_ 119 0 (S_.1 13 0 3).toNat 5) := gi_aI hI_ (show (-128) ≤ 5 ∧ 5 ≤ 127 from ⟨by omega, by omega⟩)
        have hF13_ : ai_fr (sx_W vw_291) S0_ (sm_aI S_ 119 0 (S_.1 13 0 3).toNat 5) := ai_fr_tr hF_ (ai_fr_aI rfl)
        refine sm_T_go 6 (c1 := (89, [some (.inr (.inr (some (13, 0)))), some (.inl k_), some (.inl bad_)], [.inl (S_.1 13 0 2), .inl (S_.1 13 0 3), .inr (.inr (some (120, 0)))], sm_aI S_ 119 0 (S_.1 13 0 3).toNat 5)) rfl ?_
        refine sm_T_iast (n := 65537) rfl rfl (by omega) (by omega) ?_
        have hI14_ : gi (sm_aI (sm_aI S_ 119 0 (S_.1 13 0 3).toNat 5) 120 0 (S_.1 13 0 3).toNat (S_.1 13 0 2)) := gi_aI hI12_ (show 0 ≤ (S_.1 13 0 2) ∧ (S_.1 13 0 2) ≤ 1280 from ⟨by omega, by omega⟩)
        have hF15_ : ai_fr (sx_W vw_291) S0_ (sm_aI (sm_aI S_ 119 0 (S_.1 13 0 3).toNat 5) 120 0 (S_.1 13 0 3).toNat (S_.1 13 0 2)) := ai_fr_tr hF13_ (ai_fr_aI rfl)
        refine sm_T_go 5 (c1 := (99, [some (.inr (.inr (some (13, 0)))), some (.inl k_), some (.inl bad_)], [.inl 0, .inl (S_.1 13 0 3), .inr (.inr (some (121, 0)))], sm_aI (sm_aI S_ 119 0 (S_.1 13 0 3).toNat 5) 120 0 (S_.1 13 0 3).toNat (S_.1 13 0 2))) rfl ?_
        refine sm_T_iast (n := 65537) rfl rfl (by omega) (by omega) ?_
        have hI16_ : gi (sm_aI (sm_aI (sm_aI S_ 119 0 (S_.1 13 0 3).toNat 5) 120 0 (S_.1 13 0 3).toNat (S_.1 13 0 2)) 121 0 (S_.1 13 0 3).toNat 0) := gi_aI hI14_ (show (-2147483648) ≤ 0 ∧ 0 ≤ 2147483647 from ⟨by omega, by omega⟩)
        have hF17_ : ai_fr (sx_W vw_291) S0_ (sm_aI (sm_aI (sm_aI S_ 119 0 (S_.1 13 0 3).toNat 5) 120 0 (S_.1 13 0 3).toNat (S_.1 13 0 2)) 121 0 (S_.1 13 0 3).toNat 0) := ai_fr_tr hF15_ (ai_fr_aI rfl)
        refine sm_T_rv rfl ⟨_, _, rfl, rfl, hI16_, hF17_, ?_⟩
        refine ⟨T_, hT_, by omega, ?_, ?_, ?_, ?_, ?_⟩
        · refine ⟨fun i_ hi_ => ⟨(ht_.1 i_ hi_).1, ?_⟩, ht_.2⟩
          have hv_ := (ht_.1 i_ hi_).2
          unfold rrow at hv_ ⊢
          (try simp only [rd_eq, rd_ne, rf_eq, rf_nk, rf_nt, rd_fa, rd_af, rd_fl, rd_al, rd_lf, rd_la, rd_leq, rd_lne, rd_fr, rd_ar, ne_eq, Nat.reduceEqDiff, not_false_eq_true])
          simp only [eT_, show i_ ≠ T_ by omega, if_false, reduceIte]
          exact hv_
        · (try simp only [rd_eq, rd_ne, rf_eq, rf_nk, rf_nt, rd_fa, rd_af, rd_fl, rd_al, rd_lf, rd_la, rd_leq, rd_lne, rd_fr, rd_ar, ne_eq, Nat.reduceEqDiff, not_false_eq_true]); simp only [eT_, if_true, reduceIte]
        · (try simp only [rd_eq, rd_ne, rf_eq, rf_nk, rf_nt, rd_fa, rd_af, rd_fl, rd_al, rd_lf, rd_la, rd_leq, rd_lne, rd_fr, rd_ar, ne_eq, Nat.reduceEqDiff, not_false_eq_true]); simp only [eT_, if_true, reduceIte]; exact hn2_
        · (try simp only [rd_eq, rd_ne, rf_eq, rf_nk, rf_nt, rd_fa, rd_af, rd_fl, rd_al, rd_lf, rd_la, rd_leq, rd_lne, rd_fr, rd_ar, ne_eq, Nat.reduceEqDiff, not_false_eq_true]); simp only [eT_, if_true, reduceIte]
        · rcases hd_ with hd_ | hd_
          · left; exact ⟨by omega, hd_.2⟩
          · right; exact hd_.2
      · have c10_ : ¬ (bad_ ≠ 0) := of_decide_eq_false c10_
        refine sm_T_go 3 (c1 := (28, [some (.inr (.inr (some (13, 0)))), some (.inl k_), some (.inl bad_)], [.inl k_, .inr (.inr (some (13, 0))), .inr (.inr (some (13, 0)))], S_)) rfl ?_
        refine sm_T_cal (d1 := 2) (Q1 := vq_290 k_ b_ n_ (lxp b_ n_ T_) T_ S_) rfl rfl (by decide) (vc_290 k_ b_ n_ (lxp b_ n_ T_) T_ S_ hI_ (by exact hb1_) (by exact hn2_) (by exact hn1_) (by exact hk_) (by omega) (by exact hT_) (by omega)) (fun u_ S18_ p21_ => ?_)
        obtain ⟨v23_, rfl, hI19_, hF20_, p21_⟩ := p21_
        have hF22_ : ai_fr (sx_W vw_291) S0_ S18_ := ai_fr_tr hF_ (fr_le hF20_ rfl)
        have e24_ : S18_.1 13 0 2 = S_.1 13 0 2 := hF20_.1 13 0 2 rfl
        have hr28_ := p21_
        have hb28_ : S18_.2.2.1 118 0 = b_ := (fr_arr hF20_ rfl).trans hb1_
        have hn28_ : S18_.1 13 0 2 = (n_ : Int) := (hF20_.1 13 0 2 rfl).trans hn2_
        have hT28_ : S18_.1 13 0 3 = (T_ : Int) := (hF20_.1 13 0 3 rfl).trans hT_
        refine sm_T_cal (d1 := 1) (Q1 := vq_286 v23_ b_ n_ (lx_en b_ n_ (lxp b_ n_ T_)) S18_) rfl rfl (by decide) (vc_286 v23_ b_ n_ (lx_en b_ n_ (lxp b_ n_ T_)) S18_ hI19_ (by exact hb28_) (by exact hn28_) (by exact hn1_) (by exact hr28_.1) (by omega)) (fun u_ S25_ p28_ => ?_)
        obtain ⟨v30_, rfl, hI26_, hF27_, p28_⟩ := p28_
        have hF29_ : ai_fr (sx_W vw_291) S0_ S25_ := ai_fr_tr hF22_ (fr_le hF27_ rfl)
        have hk31_ := p28_
        have hT31_ : S25_.1 13 0 3 = (T_ : Int) := (hF27_.1 13 0 3 rfl).trans hT28_
        have hso_ : S25_.2.2.1 119 0 = S18_.2.2.1 119 0 := fr_arr hF27_ rfl
        have hpl_ : S25_.2.2.1 120 0 = S18_.2.2.1 120 0 := fr_arr hF27_ rfl
        have hnu_ : S25_.2.2.1 121 0 = S18_.2.2.1 121 0 := fr_arr hF27_ rfl
        have hse_ : S25_.2.2.1 123 0 = S18_.2.2.1 123 0 := fr_arr hF27_ rfl
        have hfi_ : S25_.2.2.2 122 0 = S18_.2.2.2 122 0 := fr_arl hF27_ rfl
        have eT31_ : (S25_.1 13 0 3).toNat = T_ := by omega
        have hnt_ : tkt b_ n_ (T_ + 1) S25_ := by refine ⟨fun i_ hi_ => ?_, fun i_ hi_ => ?_⟩; rotate_left; (by_cases hq_ : i_ + 1 < T_; (exact ht_.2 i_ hq_); (have : i_ = T_ - 1 := by omega); rw [this]; rcases hd_ with hd_ | hd_; (exact hd_.2 _ (by omega)); omega); (by_cases hq_ : i_ = T_; (rw [hq_]; refine ⟨by omega, ?_⟩; unfold rrow; rw [hso_, hpl_, hnu_, hse_, hfi_]; exact hr28_.2.1); (have hh_ := ht_.1 i_ (by omega); refine ⟨hh_.1, ?_⟩; have hu_ := hr28_.2.2 i_ hq_; have hv_ := hh_.2; unfold rrow at hv_ ⊢; rw [hso_, hpl_, hnu_, hse_, hfi_, hu_.1, hu_.2.1, hu_.2.2.1, hu_.2.2.2.1, hu_.2.2.2.2]; exact hv_))
        have hrs_ : S25_.2.2.1 119 0 T_ = r_so (lx_kd b_ n_ (lxp b_ n_ T_)) := by rw [hso_]; exact hr28_.2.1.2.1
        have b31_ : 0 ≤ S25_.1 13 0 3 ∧ S25_.1 13 0 3 ≤ 1280 := hI26_.1 13 0 3 rfl
        refine sm_T_go 5 (c1 := (43, [some (.inr (.inr (some (13, 0)))), some (.inl v30_), some (.inl bad_)], [.inl (S25_.1 13 0 3), .inr (.inr (some (119, 0)))], S25_)) rfl ?_
        refine sm_T_bald (n := 65537) rfl rfl (by omega) (by omega) ?_
        have b32_ : (-128) ≤ S25_.2.2.1 119 0 (S25_.1 13 0 3).toNat ∧ S25_.2.2.1 119 0 (S25_.1 13 0 3).toNat ≤ 127 := hI26_.2 119 0 _
        refine sm_T_go 1 (c1 := (45, [some (.inr (.inr (some (13, 0)))), some (.inl v30_), some (.inl bad_)], [.inl 4, .inl (S25_.2.2.1 119 0 (S25_.1 13 0 3).toNat)], S25_)) rfl ?_
        refine sm_T_br (a := 1) (z := 7) rfl (fun c33_ => ?_) (fun c33_ => ?_)
        · have c33_ : (S25_.2.2.1 119 0 (S25_.1 13 0 3).toNat) ≠ 4 := of_decide_eq_true c33_
          refine sm_T_go 6 (c1 := (60, [some (.inr (.inr (some (13, 0)))), some (.inl v30_), some (.inl 0)], [.inl 1, .inl (S25_.1 13 0 3), .inr (.inr (some (13, 0)))], S25_)) rfl ?_
          refine sm_T_bin (w := (S25_.1 13 0 3) + 1) rfl (bi_add (by omega) (by omega) (by omega)) ?_
          have hI34_ : gi (sm_pI S25_ 13 0 3 ((S25_.1 13 0 3) + 1)) := gi_pI hI26_ (show 0 ≤ (S25_.1 13 0 3) + 1 ∧ (S25_.1 13 0 3) + 1 ≤ 1280 from ⟨by omega, by omega⟩)
          have hF35_ : ai_fr (sx_W vw_291) S0_ (sm_pI S25_ 13 0 3 ((S25_.1 13 0 3) + 1)) := ai_fr_tr hF29_ (ai_fr_pI rfl)
          refine sm_T_go 2 (c1 := (13, [some (.inr (.inr (some (13, 0)))), some (.inl v30_), some (.inl 0)], [], sm_pI S25_ 13 0 3 ((S25_.1 13 0 3) + 1))) rfl ?_
          refine ih_ v30_ 0 (sm_pI S25_ 13 0 3 ((S25_.1 13 0 3) + 1)) hI34_ hF35_ ⟨?_, ?_, trivial⟩ ?_
          · omega
          · refine ⟨T_ + 1, ?_, by omega, hk31_, ?_, ?_⟩
            · (try simp only [rd_eq, rd_ne, rf_eq, rf_nk, rf_nt, rd_fa, rd_af, rd_fl, rd_al, rd_lf, rd_la, rd_leq, rd_lne, rd_fr, rd_ar, ne_eq, Nat.reduceEqDiff, not_false_eq_true]); push_cast; omega
            · exact hnt_
            · rw [eT31_] at c33_
              unfold r_so at hrs_
              first | (left; refine ⟨rfl, fun i_ hi_ => ?_⟩; by_cases hq_ : i_ = T_; (rw [hq_]; intro hx_; rw [if_pos hx_] at hrs_; omega); (rcases hd_ with hd_ | hd_; (exact hd_.2 i_ (by omega)); omega)) | (right; refine ⟨rfl, by omega, ?_⟩; show lx_kd b_ n_ (lxp b_ n_ T_) = -1; by_cases hx_ : lx_kd b_ n_ (lxp b_ n_ T_) = -1; (exact hx_); (exfalso; rw [if_neg hx_] at hrs_; repeat' split at hrs_; all_goals omega))
          · (try simp only [rd_eq, rd_ne, rf_eq, rf_nk, rf_nt, rd_fa, rd_af, rd_fl, rd_al, rd_lf, rd_la, rd_leq, rd_lne, rd_fr, rd_ar, ne_eq, Nat.reduceEqDiff, not_false_eq_true]); omega
        · have c33_ : ¬ ((S25_.2.2.1 119 0 (S25_.1 13 0 3).toNat) ≠ 4) := of_decide_eq_false c33_
          refine sm_T_go 7 (c1 := (60, [some (.inr (.inr (some (13, 0)))), some (.inl v30_), some (.inl 1)], [.inl 1, .inl (S25_.1 13 0 3), .inr (.inr (some (13, 0)))], S25_)) rfl ?_
          refine sm_T_bin (w := (S25_.1 13 0 3) + 1) rfl (bi_add (by omega) (by omega) (by omega)) ?_
          have hI36_ : gi (sm_pI S25_ 13 0 3 ((S25_.1 13 0 3) + 1)) := gi_pI hI26_ (show 0 ≤ (S25_.1 13 0 3) + 1 ∧ (S25_.1 13 0 3) + 1 ≤ 1280 from ⟨by omega, by omega⟩)
          have hF37_ : ai_fr (sx_W vw_291) S0_ (sm_pI S25_ 13 0 3 ((S25_.1 13 0 3) + 1)) := ai_fr_tr hF29_ (ai_fr_pI rfl)
          refine sm_T_go 2 (c1 := (13, [some (.inr (.inr (some (13, 0)))), some (.inl v30_), some (.inl 1)], [], sm_pI S25_ 13 0 3 ((S25_.1 13 0 3) + 1))) rfl ?_
          refine ih_ v30_ 1 (sm_pI S25_ 13 0 3 ((S25_.1 13 0 3) + 1)) hI36_ hF37_ ⟨?_, ?_, trivial⟩ ?_
          · omega
          · refine ⟨T_ + 1, ?_, by omega, hk31_, ?_, ?_⟩
            · (try simp only [rd_eq, rd_ne, rf_eq, rf_nk, rf_nt, rd_fa, rd_af, rd_fl, rd_al, rd_lf, rd_la, rd_leq, rd_lne, rd_fr, rd_ar, ne_eq, Nat.reduceEqDiff, not_false_eq_true]); push_cast; omega
            · exact hnt_
            · rw [eT31_] at c33_
              unfold r_so at hrs_
              first | (left; refine ⟨rfl, fun i_ hi_ => ?_⟩; by_cases hq_ : i_ = T_; (rw [hq_]; intro hx_; rw [if_pos hx_] at hrs_; omega); (rcases hd_ with hd_ | hd_; (exact hd_.2 i_ (by omega)); omega)) | (right; refine ⟨rfl, by omega, ?_⟩; show lx_kd b_ n_ (lxp b_ n_ T_) = -1; by_cases hx_ : lx_kd b_ n_ (lxp b_ n_ T_) = -1; (exact hx_); (exfalso; rw [if_neg hx_] at hrs_; repeat' split at hrs_; all_goals omega))
          · (try simp only [rd_eq, rd_ne, rf_eq, rf_nk, rf_nt, rd_fa, rd_af, rd_fl, rd_al, rd_lf, rd_la, rd_leq, rd_lne, rd_fr, rd_ar, ne_eq, Nat.reduceEqDiff, not_false_eq_true]); omega
theorem vc_291 {sc_ : Nat × (Nat → Int)} (b_ : Nat → Int) (n_ : Nat) (S0_ : sm_S) (hI_ : gi S0_) (hb_ : S0_.2.2.1 118 0 = b_) (hn_ : (S0_.1 13 0 2) = (n_ : Int)) (hn1_ : n_ ≤ 1280) : sm_T (mt_P sc_) 3 291 (0, [some (.inr (.inr (some (13, 0)))), none, none], [], S0_) (fun r_ => ∃ u_ S1_, r_ = (.inl u_, S1_, 0) ∧ vq_291 b_ n_ S0_ u_ S1_) := by
  have hF_ : ai_fr (sx_W vw_291) S0_ S0_ := ai_fr_rf
  have hb1_ := hb_
  have hn2_ := hn_
  have hI1_ : gi (sm_pI S0_ 13 0 3 0) := gi_pI hI_ (show 0 ≤ 0 ∧ 0 ≤ 1280 from ⟨by omega, by omega⟩)
  have hF2_ : ai_fr (sx_W vw_291) S0_ (sm_pI S0_ 13 0 3 0) := ai_fr_tr hF_ (ai_fr_pI rfl)
  refine sm_T_go 5 (c1 := (7, [some (.inr (.inr (some (13, 0)))), none, none], [.inl 0, .inr (.inr (some (13, 0)))], sm_pI S0_ 13 0 3 0)) rfl ?_
  refine sm_T_cal (d1 := 1) (Q1 := vq_286 0 b_ n_ 0 (sm_pI S0_ 13 0 3 0)) rfl rfl (by decide) (vc_286 0 b_ n_ 0 (sm_pI S0_ 13 0 3 0) hI1_ (by exact hb1_) (by exact hn2_) (by exact hn1_) (by rfl) (by omega)) (fun u_ S3_ p6_ => ?_)
  obtain ⟨v8_, rfl, hI4_, hF5_, p6_⟩ := p6_
  have hF7_ : ai_fr (sx_W vw_291) S0_ S3_ := ai_fr_tr hF2_ (fr_le hF5_ rfl)
  have hs7_ := p6_
  have hT7_ := hF5_.1 13 0 3 rfl
  refine sm_T_go 3 (c1 := (13, [some (.inr (.inr (some (13, 0)))), some (.inl v8_), some (.inl 0)], [], S3_)) rfl ?_
  refine (vl_291 b_ n_ S0_ hb_ hn_ hn1_ _) v8_ 0 S3_ hI4_ hF7_ ⟨?_, ?_, trivial⟩ (Nat.lt_succ_self _)
  · omega
  · refine ⟨0, ?_, by omega, hs7_, ⟨fun i_ hi_ => absurd hi_ (Nat.not_lt_zero _), fun i_ hi_ => absurd hi_ (Nat.not_lt_zero _)⟩, Or.inl ⟨rfl, fun i_ hi_ => absurd hi_ (Nat.not_lt_zero _)⟩⟩
    exact hT7_
