/-! the class: the sweep; written by wip/p55/gen/vg -/

/-! the_ sweep -/
theorem mkb_all : ∀ b_ : Fin 6, (Int64.ofInt (l_1 (l_s0 1 (i_shl 1 ((b_ : Nat) : Int))) 1)).toInt = l_1 (l_s0 1 (i_shl 1 ((b_ : Nat) : Int))) 1 ∧ l_3 (l_1 (l_s0 1 (i_shl 1 ((b_ : Nat) : Int))) 1) 1 = 1 ∧ l_1 (l_s0 1 (i_shl 1 ((b_ : Nat) : Int))) 1 ≠ 0 := by decide +kernel
theorem mkb {b_ : Int} (h_ : 0 ≤ b_ ∧ b_ < 6) : lcn (l_1 (l_s0 1 (i_shl 1 b_)) 1) ∧ l_3 (l_1 (l_s0 1 (i_shl 1 b_)) 1) 1 = 1 ∧ l_1 (l_s0 1 (i_shl 1 b_)) 1 ≠ 0 := by
  have k_ := mkb_all ⟨b_.toNat, by omega⟩
  rw [show ((⟨b_.toNat, by omega⟩ : Fin 6).val : Int) = b_ from Int.toNat_of_nonneg h_.1] at k_
  exact k_
theorem mkm : lcn (-1) ∧ l_3 (-1) 1 = 1 ∧ (-1 : Int) ≠ 0 := by
  unfold lcn
  decide
theorem wlt_cg {R_ Q_ : Nat → Int} {l_ : Int} {w_ : Nat} (h_ : Q_ (64 * (l_ / 2).toNat + w_) = R_ (64 * (l_ / 2).toNat + w_)) : wlt Q_ l_ w_ = wlt R_ l_ w_ := by
  unfold wlt
  rw [h_]
theorem sPn_cg {sf_ sg_ : Nat → Int} {n_ m_ : Nat} {v_ : Int} (e_ : ∀ k_, sg_ k_ = if k_ = n_ then v_ else sf_ k_) (hv_ : v_ ≠ 2 * (n_ : Int)) : sPn sf_ n_ m_ ↔ sPn sg_ (n_ + 1) m_ := by
  unfold sPn
  rw [e_ m_]
  by_cases z_ : m_ = n_
  · rw [if_pos z_]; omega
  · rw [if_neg z_]; omega
theorem sPn_nw {sf_ sg_ : Nat → Int} {n_ m_ : Nat} (e_ : ∀ k_, sg_ k_ = if k_ = n_ then 2 * (n_ : Int) else sf_ k_) : (sPn sf_ n_ m_ ∨ m_ = n_) ↔ sPn sg_ (n_ + 1) m_ := by
  unfold sPn
  rw [e_ m_]
  by_cases z_ : m_ = n_
  · rw [if_pos z_]; omega
  · rw [if_neg z_]; omega
/-- the_ row_ of_ a_ node as_ far_ as_ it_ is_ made -/
def srw (F_ n_ w_ : Nat) (mk_ : Int) (lo_ hi_ R_ : Nat → Int) : Prop := ∀ j_, j_ < w_ → l_3 (R_ (64 * n_ + j_)) mk_ = R_ (64 * n_ + j_) ∧ (F_ ≤ n_ → R_ (64 * n_ + j_) = l_3 (l_3 (wlt R_ (lo_ n_) j_) (wlt R_ (hi_ n_) j_)) mk_) ∧ (n_ = 0 → R_ (64 * n_ + j_) = 0)
theorem srw_up {F_ n_ w_ : Nat} {mk_ row_ : Int} {lo_ hi_ R_ Q_ : Nat → Int} (hg_ : F_ ≤ n_ → 2 ≤ lo_ n_ ∧ lo_ n_ < hi_ n_ ∧ hi_ n_ < 2 * (n_ : Int)) (hw_ : w_ < 64) (h_ : srw F_ n_ w_ mk_ lo_ hi_ R_) (e_ : ∀ k_, Q_ k_ = if k_ = 64 * n_ + w_ then l_3 row_ mk_ else R_ k_) (h1_ : F_ ≤ n_ → row_ = l_3 (wlt R_ (lo_ n_) w_) (wlt R_ (hi_ n_) w_)) (h2_ : n_ = 0 → row_ = 0) : srw F_ n_ (w_ + 1) mk_ lo_ hi_ Q_ := by
  intro j_ hj_
  have wc_ : F_ ≤ n_ → wlt Q_ (lo_ n_) j_ = wlt R_ (lo_ n_) j_ ∧ wlt Q_ (hi_ n_) j_ = wlt R_ (hi_ n_) j_ := fun a_ => by
    have g_ := hg_ a_
    exact ⟨wlt_cg (by rw [e_, if_neg (by omega)]), wlt_cg (by rw [e_, if_neg (by omega)])⟩
  by_cases z_ : j_ < w_
  · have q_ := h_ j_ z_
    rw [e_, if_neg (by omega)]
    refine ⟨q_.1, fun a_ => ?_, q_.2.2⟩
    rw [(wc_ a_).1, (wc_ a_).2]
    exact q_.2.1 a_
  · have zw_ : j_ = w_ := by omega
    subst zw_
    rw [e_, if_pos rfl]
    refine ⟨l3_id, fun a_ => ?_, fun a_ => ?_⟩
    · rw [(wc_ a_).1, (wc_ a_).2, h1_ a_]
    · rw [h2_ a_, l3_0]
theorem hsw_up {n_ w_ : Nat} {mk_ row_ tu_ hs_ : Int} {R_ Q_ : Nat → Int} (hm_ : lcn mk_) (hh_ : hs_ = hsw (nrw mk_ R_ n_) w_) (e_ : ∀ k_, Q_ k_ = if k_ = 64 * n_ + w_ then l_3 row_ mk_ else R_ k_) (ht_ : (l_3 (Q_ (64 * n_)) 1 = 0 ∧ tu_ = l_3 row_ mk_) ∨ (l_3 (Q_ (64 * n_)) 1 ≠ 0 ∧ tu_ = l_3 (l_5 row_ (-1)) mk_)) : l_0 (l_2 hs_ 31) (l_5 tu_ (l_s2 tu_ 29)) = hsw (nrw mk_ Q_ n_) (w_ + 1) := by
  have e1_ : hsw (nrw mk_ Q_ n_) w_ = hs_ := by
    rw [hh_]
    refine hsw_cg (fun j_ hj_ => ?_)
    unfold nrw
    have q1_ : Q_ (64 * n_) = R_ (64 * n_) := by rw [e_, if_neg (by omega)]
    have q2_ : Q_ (64 * n_ + j_) = R_ (64 * n_ + j_) := by rw [e_, if_neg (by omega)]
    rw [q1_, q2_]
  have e2_ : nrw mk_ Q_ n_ w_ = tu_ := by
    unfold nrw
    rw [e_ (64 * n_ + w_), if_pos rfl]
    rcases ht_ with ⟨q1_, q2_⟩ | ⟨q1_, q2_⟩
    · rw [if_pos q1_, q2_]
    · rw [if_neg q1_, q2_, l3_tn hm_]
  show _ = l_0 (l_2 (hsw (nrw mk_ Q_ n_) w_) 31) (l_5 (nrw mk_ Q_ n_ w_) (l_s2 (nrw mk_ Q_ n_ w_) 29))
  rw [e1_, e2_]
/-- whom the_ nodes of_ a_ design stand for_ -/
def swp (dd_ F_ : Nat) (S_ : sm_S) : Prop := S_.2.2.1 44 (0 + dd_) 0 = 0 ∧ ∀ m_ : Nat, (m_ : Int) < S_.1 3 dd_ 4 → sfo F_ (S_.2.2.1 42 (0 + dd_)) (S_.2.2.1 43 (0 + dd_)) (S_.2.2.1 44 (0 + dd_)) m_
theorem fr_lon {W_ : ai_W} {S_ S'_ : sm_S} {t_ i_ : Nat} (h_ : ai_fr W_ S_ S'_) (ht_ : W_.2.1 t_ = false) : S'_.2.2.2 t_ i_ = S_.2.2.2 t_ i_ := funext fun k_ => (h_.2.2 t_ ht_ i_ k_).2
theorem glo_of {dd_ F_ N_ : Nat} {S_ : sm_S} (h_ : dgr dd_ F_ S_) (hN_ : (N_ : Int) ≤ S_.1 3 dd_ 4) : glo F_ N_ (S_.2.2.1 42 (0 + dd_)) (S_.2.2.1 43 (0 + dd_)) := fun k_ h1_ h2_ => h_.2.2 k_ h1_ (by omega)
/-! Builder.sweep -/
def vw_47 : sx_Wl := ([(1, 13)], [29, 32, 44], [])
def vq_47 (dd_ : Nat) (F_ : Nat) (S0_ : sm_S) (u_ : Option sm_V) (S1_ : sm_S) : Prop := u_ = none ∧ gi S1_ ∧ ai_fr (sx_W vw_47) S0_ S1_ ∧ (idf dd_ S0_ S1_ ∧ (swp dd_ F_ S1_))
set_option maxHeartbeats 4000000 in
set_option maxRecDepth 20000 in
theorem vl_47 {sc_ : Nat × (Nat → Int)} (dd_ : Nat) (F_ : Nat) (S0_ : sm_S) (hd_ : S0_.2.1 1 0 1 = some dd_) (hg_ : dgr dd_ F_ S0_) : ∀ nn_ : Nat, (∀ (bi_ : Int) (mk_ : Int) (n_ : Int) (Wz_ : Int) (S_ : sm_S), gi S_ → ai_fr (sx_W vw_47) S0_ S_ → (((S_.1 1 0 13) = Wz_ ∧ 1 ≤ Wz_ ∧ Wz_ ≤ 64) ∧ (lcn mk_ ∧ l_3 mk_ 1 = 1 ∧ mk_ ≠ 0) ∧ (0 ≤ n_ ∧ n_ ≤ S0_.1 3 dd_ 4) ∧ (sw1 F_ Wz_.toNat n_.toNat mk_ (S0_.2.2.1 42 (0 + dd_)) (S0_.2.2.1 43 (0 + dd_)) (S_.2.2.1 44 (0 + dd_)) (S_.2.2.2 32 0)) ∧ (0 < n_ → S_.2.2.1 44 (0 + dd_) 0 = 0 ∧ ∀ w9_, w9_ < Wz_.toNat → S_.2.2.2 32 0 w9_ = 0) ∧ (bks (sPn (S_.2.2.1 44 (0 + dd_)) n_.toNat) n_.toNat (hrw Wz_.toNat mk_ (S_.2.2.2 32 0)) (S_.2.2.1 29 0)) ∧ (idf dd_ S0_ S_) ∧ True) → ((1000 * (1100 - n_) + 200).toNat) < nn_ → sm_T (mt_P sc_) 1 47 (67, [some (.inr (.inr (some (1, 0)))), some (.inl bi_), some (.inr (.inl mk_)), none, some (.inl n_), none, none, none, none, none, none, none, none], [], S_) (fun ro9_ => ∃ u_ S1_, ro9_ = (.inl u_, S1_, 0) ∧ vq_47 dd_ F_ S0_ u_ S1_)) ∧ (∀ (bi_ : Int) (mk_ : Int) (n_ : Int) (an_ : Int) (hs_ : Int) (w_ : Int) (Wz_ : Int) (S_ : sm_S), gi S_ → ai_fr (sx_W vw_47) S0_ S_ → (((S_.1 1 0 13) = Wz_ ∧ 1 ≤ Wz_ ∧ Wz_ ≤ 64) ∧ (lcn mk_ ∧ l_3 mk_ 1 = 1 ∧ mk_ ≠ 0) ∧ (0 ≤ n_ ∧ n_ < S0_.1 3 dd_ 4 ∧ 0 ≤ w_ ∧ w_ ≤ Wz_ ∧ ((an_ = 1 ∧ (F_ : Int) ≤ n_) ∨ (an_ = 0 ∧ n_ < (F_ : Int)))) ∧ (sw1 F_ Wz_.toNat n_.toNat mk_ (S0_.2.2.1 42 (0 + dd_)) (S0_.2.2.1 43 (0 + dd_)) (S_.2.2.1 44 (0 + dd_)) (S_.2.2.2 32 0)) ∧ (0 < n_ → S_.2.2.1 44 (0 + dd_) 0 = 0 ∧ ∀ w9_, w9_ < Wz_.toNat → S_.2.2.2 32 0 w9_ = 0) ∧ (bks (sPn (S_.2.2.1 44 (0 + dd_)) n_.toNat) n_.toNat (hrw Wz_.toNat mk_ (S_.2.2.2 32 0)) (S_.2.2.1 29 0)) ∧ (hs_ = hsw (nrw mk_ (S_.2.2.2 32 0) n_.toNat) w_.toNat) ∧ (srw F_ n_.toNat w_.toNat mk_ (S0_.2.2.1 42 (0 + dd_)) (S0_.2.2.1 43 (0 + dd_)) (S_.2.2.2 32 0)) ∧ (idf dd_ S0_ S_) ∧ True) → ((1000 * (1100 - n_) + 100 - w_).toNat) < nn_ → sm_T (mt_P sc_) 1 47 (104, [some (.inr (.inr (some (1, 0)))), some (.inl bi_), some (.inr (.inl mk_)), none, some (.inl n_), some (.inl an_), some (.inr (.inl hs_)), none, some (.inl w_), none, none, none, none], [], S_) (fun ro9_ => ∃ u_ S1_, ro9_ = (.inl u_, S1_, 0) ∧ vq_47 dd_ F_ S0_ u_ S1_)) := by
  intro nn_
  induction nn_ with
  | zero => exact ⟨fun _ _ _ _ _ _ _ _ h_ => absurd h_ (Nat.not_lt_zero _), fun _ _ _ _ _ _ _ _ _ _ _ h_ => absurd h_ (Nat.not_lt_zero _)⟩
  | succ nn_ ih_ =>
    refine ⟨?_, ?_⟩
    · rintro bi_ mk_ n_ Wz_ S_ hI_ hF_ ⟨hW_, hmk_, h0_, h1_, h2_, h3_, hD_, -⟩ hm_
      have g1_ := hg_.1
      have g2_ := hg_.2.1
      have e4_ : S_.1 3 dd_ 4 = S0_.1 3 dd_ 4 := hF_.1 3 dd_ 4 rfl
      have e1_ : S_.1 3 dd_ 1 = S0_.1 3 dd_ 1 := hF_.1 3 dd_ 1 rfl
      have e2_ : S_.1 3 dd_ 2 = S0_.1 3 dd_ 2 := hF_.1 3 dd_ 2 rfl
      have f42_ : S_.2.2.1 42 (0 + dd_) = S0_.2.2.1 42 (0 + dd_) := fr_arr hF_ rfl
      have f43_ : S_.2.2.1 43 (0 + dd_) = S0_.2.2.1 43 (0 + dd_) := fr_arr hF_ rfl
      refine sm_T_go 2 (c1 := (70, [some (.inr (.inr (some (1, 0)))), some (.inl bi_), some (.inr (.inl mk_)), none, some (.inl n_), none, none, none, none, none, none, none, none], [.inr (.inr (some (1, 0))), .inl n_], S_)) rfl ?_
      refine sm_T_gr rfl rfl ((hF_.2.1 1 0 1 rfl).trans hd_) ?_
      have bx1_ : 0 ≤ S_.1 3 dd_ 4 ∧ S_.1 3 dd_ 4 ≤ 1013 := hI_.1 3 dd_ 4 rfl
      refine sm_T_go 1 (c1 := (76, [some (.inr (.inr (some (1, 0)))), some (.inl bi_), some (.inr (.inl mk_)), none, some (.inl n_), none, none, none, none, none, none, none, none], [.inl (S_.1 3 dd_ 4), .inl n_], S_)) rfl ?_
      refine sm_T_br (a := 3) (z := 197) rfl (fun cx2_ => ?_) (fun cx2_ => ?_)
      · have cx2_ : (S_.1 3 dd_ 4) ≤ n_ := of_decide_eq_true cx2_
        refine sm_T_rv rfl ⟨_, _, rfl, rfl, hI_, hF_, ?_⟩
        refine ⟨hD_, ?_⟩
        have n9_ : S_.1 3 dd_ 4 = n_ := by omega
        refine ⟨(h2_ (by omega)).1, fun m9_ hm9_ => ?_⟩
        rw [f42_, f43_]
        exact (h1_ m9_ (by omega)).1
      · have cx2_ : ¬ ((S_.1 3 dd_ 4) ≤ n_) := of_decide_eq_false cx2_
        refine sm_T_go 2 (c1 := (82, [some (.inr (.inr (some (1, 0)))), some (.inl bi_), some (.inr (.inl mk_)), none, some (.inl n_), none, none, none, none, none, none, none, none], [.inr (.inr (some (1, 0))), .inl n_], S_)) rfl ?_
        refine sm_T_gr rfl rfl ((hF_.2.1 1 0 1 rfl).trans hd_) ?_
        refine sm_T_cal (d1 := 0) (Q1 := vq_63 dd_ S_) rfl rfl (by decide) (vc_63 dd_ S_ hI_ (by omega)) (fun u_ Sx3_ px6_ => ?_)
        obtain ⟨rfl, vx8_, rfl, px6_⟩ := px6_
        have e85_ := px6_
        refine sm_T_br (a := 2) (z := 7) rfl (fun cx9_ => ?_) (fun cx9_ => ?_)
        · have cx9_ : n_ < vx8_ := of_decide_eq_true cx9_
          refine sm_T_go 6 (c1 := (104, [some (.inr (.inr (some (1, 0)))), some (.inl bi_), some (.inr (.inl mk_)), none, some (.inl n_), some (.inl 0), some (.inr (.inl 0)), none, some (.inl 0), none, none, none, none], [], S_)) rfl ?_
          refine ih_.2 bi_ mk_ n_ 0 0 0 Wz_ S_ hI_ hF_ ⟨?_, ?_, ?_, ?_, ?_, ?_, ?_, ?_, ?_, trivial⟩ ?_
          · exact hW_
          · exact hmk_
          · omega
          · exact h1_
          · exact h2_
          · exact h3_
          · rfl
          · (intro j9_ hj9_; exact absurd hj9_ (Nat.not_lt_zero _))
          · exact hD_
          · omega
        · have cx9_ : ¬ (n_ < vx8_) := of_decide_eq_false cx9_
          refine sm_T_go 7 (c1 := (104, [some (.inr (.inr (some (1, 0)))), some (.inl bi_), some (.inr (.inl mk_)), none, some (.inl n_), some (.inl 1), some (.inr (.inl 0)), none, some (.inl 0), none, none, none, none], [], S_)) rfl ?_
          refine ih_.2 bi_ mk_ n_ 1 0 0 Wz_ S_ hI_ hF_ ⟨?_, ?_, ?_, ?_, ?_, ?_, ?_, ?_, ?_, trivial⟩ ?_
          · exact hW_
          · exact hmk_
          · omega
          · exact h1_
          · exact h2_
          · exact h3_
          · rfl
          · (intro j9_ hj9_; exact absurd hj9_ (Nat.not_lt_zero _))
          · exact hD_
          · omega
    · rintro bi_ mk_ n_ an_ hs_ w_ Wz_ S_ hI_ hF_ ⟨hW_, hmk_, h0_, h1_, h2_, h3_, h4_, h5_, hD_, -⟩ hm_
      have g1_ := hg_.1
      have g2_ := hg_.2.1
      have e4_ : S_.1 3 dd_ 4 = S0_.1 3 dd_ 4 := hF_.1 3 dd_ 4 rfl
      have e1_ : S_.1 3 dd_ 1 = S0_.1 3 dd_ 1 := hF_.1 3 dd_ 1 rfl
      have e2_ : S_.1 3 dd_ 2 = S0_.1 3 dd_ 2 := hF_.1 3 dd_ 2 rfl
      have f42_ : S_.2.2.1 42 (0 + dd_) = S0_.2.2.1 42 (0 + dd_) := fr_arr hF_ rfl
      have f43_ : S_.2.2.1 43 (0 + dd_) = S0_.2.2.1 43 (0 + dd_) := fr_arr hF_ rfl
      have bx1_ : 0 ≤ S_.1 1 0 13 ∧ S_.1 1 0 13 ≤ 64 := hI_.1 1 0 13 rfl
      refine sm_T_go 3 (c1 := (110, [some (.inr (.inr (some (1, 0)))), some (.inl bi_), some (.inr (.inl mk_)), none, some (.inl n_), some (.inl an_), some (.inr (.inl hs_)), none, some (.inl w_), none, none, none, none], [.inl (S_.1 1 0 13), .inl w_], S_)) rfl ?_
      refine sm_T_br (a := 3) (z := 138) rfl (fun cx2_ => ?_) (fun cx2_ => ?_)
      · have cx2_ : (S_.1 1 0 13) ≤ w_ := of_decide_eq_true cx2_
        refine sm_T_go 1 (c1 := (249, [some (.inr (.inr (some (1, 0)))), some (.inl bi_), some (.inr (.inl mk_)), none, some (.inl n_), some (.inl an_), some (.inr (.inl hs_)), none, some (.inl w_), none, none, none, none], [.inr (.inr (some (1, 0)))], S_)) rfl ?_
        refine sm_T_gr rfl rfl ((hF_.2.1 1 0 1 rfl).trans hd_) ?_
        refine sm_T_go 6 (c1 := (263, [some (.inr (.inr (some (1, 0)))), some (.inl bi_), some (.inr (.inl mk_)), none, some (.inl n_), some (.inl an_), some (.inr (.inl hs_)), none, some (.inl w_), none, none, none, none], [.inr (.inl mk_), .inr (.inl hs_), .inl n_, .inr (.inr (some (1, 0))), .inl n_, .inr (.inr (some (44, (0 + dd_))))], S_)) rfl ?_
        refine sm_T_cal (d1 := 0) (Q1 := vq_50 n_ hs_ mk_ (sPn (S_.2.2.1 44 (0 + dd_)) n_.toNat) n_.toNat Wz_.toNat n_.toNat S_) rfl rfl (by decide) (vc_50 n_ hs_ mk_ (sPn (S_.2.2.1 44 (0 + dd_)) n_.toNat) n_.toNat Wz_.toNat n_.toNat S_ hI_ (by omega) (by omega) (by exact ⟨h3_, by omega⟩) (by exact fun m9_ h9_ => h9_.1) (by exact hmk_) (by (rw [show Wz_.toNat = w_.toNat by omega]; exact h4_)) (by (intro m9_ h9_; rcases h9_ with h9_ | h9_; (exact (h1_ m9_ h9_.1).2.1); (rw [h9_]; exact fun w9_ hw9_ => (h5_ w9_ (by omega)).1)))) (fun u_ Sx3_ px6_ => ?_)
        obtain ⟨vx8_, rfl, hIx4_, hFx5_, px6_⟩ := px6_
        have hFx7_ : ai_fr (sx_W vw_47) S0_ Sx3_ := ai_fr_tr hF_ (fr_le hFx5_ rfl)
        have hDx9_ : idf dd_ S0_ Sx3_ := idf_tr hD_ (idf_fr hFx5_ (by decide) (by decide))
        have ex10_ : Sx3_.1 1 0 13 = S_.1 1 0 13 := hFx5_.1 1 0 13 rfl
        have e263_ := px6_
        have r9_ : Sx3_.2.2.2 32 0 = S_.2.2.2 32 0 := fr_lon hFx5_ rfl
        have s9_ : Sx3_.2.2.1 44 (0 + dd_) = S_.2.2.1 44 (0 + dd_) := fr_arr hFx5_ rfl
        have w9_ := hFx5_.1 1 0 13 rfl
        have SG_ : ∀ k9_, (sm_aI Sx3_ 44 (0 + dd_) n_.toNat vx8_).2.2.1 44 (0 + dd_) k9_ = if k9_ = n_.toNat then vx8_ else S_.2.2.1 44 (0 + dd_) k9_ := fun k9_ => by rw [← s9_]; exact rd_eq
        have SB_ : (sm_aI Sx3_ 44 (0 + dd_) n_.toNat vx8_).2.2.1 29 0 = Sx3_.2.2.1 29 0 := funext fun k9_ => rd_ne (by decide)
        have v9_ : 0 ≤ vx8_ ∧ vx8_ ≤ 2 * n_ + 1 := by rcases e263_ with ⟨m9_, t9_, q1_, q2_, q3_, q4_, q5_⟩ | q9_; (have := q1_.1; rw [q4_]; split <;> omega); (have := q9_.1; omega)
        refine sm_T_iast (n := 1013) rfl rfl (by omega) (by omega) ?_
        have hIx11_ : gi (sm_aI Sx3_ 44 (0 + dd_) n_.toNat vx8_) := gi_aI hIx4_ (show 0 ≤ vx8_ ∧ vx8_ ≤ 2025 from ⟨by omega, by omega⟩)
        have hFx12_ : ai_fr (sx_W vw_47) S0_ (sm_aI Sx3_ 44 (0 + dd_) n_.toNat vx8_) := ai_fr_tr hFx7_ (ai_fr_aI rfl)
        have hDx13_ : idf dd_ S0_ (sm_aI Sx3_ 44 (0 + dd_) n_.toNat vx8_) := idf_aI hDx9_ (Or.inr rfl)
        refine sm_T_inc (a := 4) (z := 1) (v := n_) (w := n_ + 1) rfl rfl (by omega) (by omega) (by omega) ?_
        refine sm_T_go 1 (c1 := (67, [some (.inr (.inr (some (1, 0)))), some (.inl bi_), some (.inr (.inl mk_)), none, some (.inl (n_ + 1)), some (.inl an_), some (.inr (.inl hs_)), none, some (.inl w_), none, none, none, none], [], sm_aI Sx3_ 44 (0 + dd_) n_.toNat vx8_)) rfl ?_
        refine sm_T_wk [some (.inr (.inr (some (1, 0)))), some (.inl bi_), some (.inr (.inl mk_)), none, some (.inl (n_ + 1)), none, none, none, none, none, none, none, none] (by exact ⟨rfl, rfl, rfl, rfl, trivial⟩) ?_
        refine ih_.1 bi_ mk_ (n_ + 1) Wz_ (sm_aI Sx3_ 44 (0 + dd_) n_.toNat vx8_) hIx11_ hFx12_ ⟨?_, ?_, ?_, ?_, ?_, ?_, ?_, trivial⟩ ?_
        · (clear e263_; refine ⟨?_, hW_.2⟩; (try simp only [rd_af]); omega)
        · exact hmk_
        · (clear e263_; omega)
        · rw [rd_al, r9_, show (n_ + 1).toNat = n_.toNat + 1 by omega]
          rcases e263_ with ⟨m9_, t9_, q1_, q2_, q3_, q4_, q5_⟩ | ⟨q1_, q2_, q3_⟩
          · exact sw_fd (N_ := n_.toNat + 1) (glo_of hg_ (by omega)) (by omega) h1_ (fun w9_ hw9_ => (h5_ w9_ (by omega)).1) q1_ q2_ q3_ q4_ SG_
          · have sg_ := fun k9_ => (SG_ k9_).trans (show _ = (if k9_ = n_.toNat then 2 * ((n_.toNat : Nat) : Int) else S_.2.2.1 44 (0 + dd_) k9_) by rw [q1_])
            exact sw_nw (N_ := n_.toNat + 1) (glo_of hg_ (by omega)) g1_.2.1.1 (by omega) (by omega) hmk_.1 h1_ (fun z9_ => (h2_ (by omega)).2) (fun w9_ hw9_ => (h5_ w9_ (by omega)).1) (fun a9_ w9_ hw9_ => (h5_ w9_ (by omega)).2.1 a9_) q3_ sg_ (fun z9_ => (h2_ (by omega)).1)
        · intro z9_
          rw [rd_al, r9_]
          by_cases n0_ : n_ = 0
          · refine ⟨?_, fun w9_ hw9_ => ?_⟩
            · rw [rd_eq, if_pos (by omega)]; rcases e263_ with ⟨m9_, t9_, q1_, q2_, q3_, q4_, q5_⟩ | ⟨q1_, q2_, q3_⟩; (have := q1_.1; omega); omega
            · have := (h5_ w9_ (by omega)).2.2 (by omega); rw [show 64 * n_.toNat + w9_ = w9_ by omega] at this; exact this
          · have q9_ := h2_ (by omega)
            refine ⟨?_, q9_.2⟩
            rw [rd_eq, if_neg (by omega), s9_]; exact q9_.1
        · rw [rd_al, r9_, show (n_ + 1).toNat = n_.toNat + 1 by omega]
          rw [SB_]
          rcases e263_ with ⟨m9_, t9_, q1_, q2_, q3_, q4_, q5_⟩ | ⟨q1_, q2_, q3_⟩
          · rw [q5_]; exact bks_cg h3_ (fun m8_ => sPn_cg SG_ (by have := q1_.1; rw [q4_]; split <;> omega)) (by omega) (fun _ _ => rfl)
          · have sg_ := fun k9_ => (SG_ k9_).trans (show _ = (if k9_ = n_.toNat then 2 * ((n_.toNat : Nat) : Int) else S_.2.2.1 44 (0 + dd_) k9_) by rw [q1_])
            exact bks_cg q2_ (fun m8_ => sPn_nw sg_) (Nat.le_refl _) (fun _ _ => rfl)
        · exact hDx13_
        · (clear e263_; omega)
      · have cx2_ : ¬ ((S_.1 1 0 13) ≤ w_) := of_decide_eq_false cx2_
        refine sm_T_go 1 (c1 := (115, [some (.inr (.inr (some (1, 0)))), some (.inl bi_), some (.inr (.inl mk_)), none, some (.inl n_), some (.inl an_), some (.inr (.inl hs_)), none, some (.inl w_), none, none, none, none], [.inl an_], S_)) rfl ?_
        refine sm_T_b0 (a := 0) (z := 39) rfl (fun cx14_ => ?_) (fun cx14_ => ?_)
        · have cx14_ : an_ = 0 := of_decide_eq_true cx14_
          refine sm_T_go 1 (c1 := (156, [some (.inr (.inr (some (1, 0)))), some (.inl bi_), some (.inr (.inl mk_)), none, some (.inl n_), some (.inl an_), some (.inr (.inl hs_)), none, some (.inl w_), none, none, none, none], [.inl n_], S_)) rfl ?_
          refine sm_T_b0 (a := 1) (z := 7) rfl (fun cx15_ => ?_) (fun cx15_ => ?_)
          · have cx15_ : n_ ≠ 0 := of_decide_eq_true cx15_
            refine sm_T_go 2 (c1 := (166, [some (.inr (.inr (some (1, 0)))), some (.inl bi_), some (.inr (.inl mk_)), none, some (.inl n_), some (.inl an_), some (.inr (.inl hs_)), none, some (.inl w_), none, none, none, none], [.inl 1, .inl n_], S_)) rfl ?_
            refine sm_T_bin (w := n_ - 1) rfl (bi_sub (by omega) (by omega) (by omega)) ?_
            refine sm_T_go 1 (c1 := (169, [some (.inr (.inr (some (1, 0)))), some (.inl bi_), some (.inr (.inl mk_)), none, some (.inl n_), some (.inl an_), some (.inr (.inl hs_)), none, some (.inl w_), none, none, none, none], [.inl w_, .inl (n_ - 1)], S_)) rfl ?_
            refine sm_T_cal (d1 := 0) (Q1 := vq_49 (n_ - 1) w_ S_) rfl rfl (by decide) (vc_49 (n_ - 1) w_ S_ hI_ (by omega) (by omega)) (fun u_ Sx16_ px19_ => ?_)
            obtain ⟨rfl, vx21_, rfl, px19_⟩ := px19_
            have e169_ := px19_
            refine sm_T_go 5 (c1 := (182, [some (.inr (.inr (some (1, 0)))), some (.inl bi_), some (.inr (.inl mk_)), none, some (.inl n_), some (.inl an_), some (.inr (.inl hs_)), none, some (.inl w_), some (.inr (.inl vx21_)), none, none, none], [.inl 64, .inl n_, .inr (.inr (some (32, 0)))], S_)) rfl ?_
            refine sm_T_bin (w := 64 * n_) rfl (bi_mul (by omega) (by omega) (by omega)) ?_
            refine sm_T_go 1 (c1 := (185, [some (.inr (.inr (some (1, 0)))), some (.inl bi_), some (.inr (.inl mk_)), none, some (.inl n_), some (.inl an_), some (.inr (.inl hs_)), none, some (.inl w_), some (.inr (.inl vx21_)), none, none, none], [.inl w_, .inl (64 * n_), .inr (.inr (some (32, 0)))], S_)) rfl ?_
            refine sm_T_bin (w := 64 * n_ + w_) rfl (bi_add (by omega) (by omega) (by omega)) ?_
            refine sm_T_go 3 (c1 := (190, [some (.inr (.inr (some (1, 0)))), some (.inl bi_), some (.inr (.inl mk_)), none, some (.inl n_), some (.inl an_), some (.inr (.inl hs_)), none, some (.inl w_), some (.inr (.inl vx21_)), none, none, none], [.inr (.inl (l_3 vx21_ mk_)), .inl (64 * n_ + w_), .inr (.inr (some (32, 0)))], S_)) rfl ?_
            refine sm_T_last (n := 64832) rfl rfl (by omega) (by omega) ?_
            have hIx22_ : gi (sm_aL S_ 32 0 (64 * n_ + w_).toNat ((l_3 vx21_ mk_))) := gi_aL hI_
            have hFx23_ : ai_fr (sx_W vw_47) S0_ (sm_aL S_ 32 0 (64 * n_ + w_).toNat ((l_3 vx21_ mk_))) := ai_fr_tr hF_ (ai_fr_aL rfl)
            have hDx24_ : idf dd_ S0_ (sm_aL S_ 32 0 (64 * n_ + w_).toNat ((l_3 vx21_ mk_))) := idf_aL hD_
            refine sm_T_go 4 (c1 := (199, [some (.inr (.inr (some (1, 0)))), some (.inl bi_), some (.inr (.inl mk_)), none, some (.inl n_), some (.inl an_), some (.inr (.inl hs_)), none, some (.inl w_), some (.inr (.inl vx21_)), none, none, none], [.inl 64, .inl n_, .inr (.inr (some (32, 0)))], sm_aL S_ 32 0 (64 * n_ + w_).toNat ((l_3 vx21_ mk_)))) rfl ?_
            refine sm_T_bin (w := 64 * n_) rfl (bi_mul (by omega) (by omega) (by omega)) ?_
            refine sm_T_lald (n := 64832) rfl rfl (by omega) (by omega) ?_
            refine sm_T_go 4 (c1 := (205, [some (.inr (.inr (some (1, 0)))), some (.inl bi_), some (.inr (.inl mk_)), none, some (.inl n_), some (.inl an_), some (.inr (.inl hs_)), none, some (.inl w_), some (.inr (.inl vx21_)), none, none, none], [.inl (sm_lcmp ((l_3 (((sm_aL S_ 32 0 (64 * n_ + w_).toNat ((l_3 vx21_ mk_))).2.2.2 32 0 (64 * n_).toNat)) 1)) 0)], sm_aL S_ 32 0 (64 * n_ + w_).toNat ((l_3 vx21_ mk_)))) rfl ?_
            refine sm_T_b0 (a := 1) (z := 10) rfl (fun cx25_ => ?_) (fun cx25_ => ?_)
            · have cx25_ : (sm_lcmp ((l_3 (((sm_aL S_ 32 0 (64 * n_ + w_).toNat ((l_3 vx21_ mk_))).2.2.2 32 0 (64 * n_).toNat)) 1)) 0) ≠ 0 := of_decide_eq_true cx25_
              refine sm_T_go 1 (c1 := (217, [some (.inr (.inr (some (1, 0)))), some (.inl bi_), some (.inr (.inl mk_)), none, some (.inl n_), some (.inl an_), some (.inr (.inl hs_)), none, some (.inl w_), some (.inr (.inl vx21_)), none, none, none], [.inr (.inl vx21_)], sm_aL S_ 32 0 (64 * n_ + w_).toNat ((l_3 vx21_ mk_)))) rfl ?_
              refine sm_T_nt (u := some (.inr (.inl (-1)))) (S1 := sm_aL S_ 32 0 (64 * n_ + w_).toNat ((l_3 vx21_ mk_))) rfl rfl rfl ?_
              refine sm_T_go 5 (c1 := (227, [some (.inr (.inr (some (1, 0)))), some (.inl bi_), some (.inr (.inl mk_)), none, some (.inl n_), some (.inl an_), some (.inr (.inl hs_)), none, some (.inl w_), some (.inr (.inl vx21_)), none, some (.inr (.inl (l_3 ((l_5 vx21_ (-1))) mk_))), none], [.inr (.inl hs_)], sm_aL S_ 32 0 (64 * n_ + w_).toNat ((l_3 vx21_ mk_)))) rfl ?_
              refine sm_T_nt (u := some (.inr (.inl 31))) (S1 := sm_aL S_ 32 0 (64 * n_ + w_).toNat ((l_3 vx21_ mk_))) rfl rfl rfl ?_
              refine sm_T_go 8 (c1 := (242, [some (.inr (.inr (some (1, 0)))), some (.inl bi_), some (.inr (.inl mk_)), none, some (.inl n_), some (.inl an_), some (.inr (.inl (l_0 ((l_2 hs_ 31)) ((l_5 ((l_3 ((l_5 vx21_ (-1))) mk_)) ((l_s2 ((l_3 ((l_5 vx21_ (-1))) mk_)) 29))))))), none, some (.inl w_), some (.inr (.inl vx21_)), none, some (.inr (.inl (l_3 ((l_5 vx21_ (-1))) mk_))), none], [], sm_aL S_ 32 0 (64 * n_ + w_).toNat ((l_3 vx21_ mk_)))) rfl ?_
              refine sm_T_inc (a := 8) (z := 1) (v := w_) (w := w_ + 1) rfl rfl (by omega) (by omega) (by omega) ?_
              refine sm_T_go 1 (c1 := (104, [some (.inr (.inr (some (1, 0)))), some (.inl bi_), some (.inr (.inl mk_)), none, some (.inl n_), some (.inl an_), some (.inr (.inl (l_0 ((l_2 hs_ 31)) ((l_5 ((l_3 ((l_5 vx21_ (-1))) mk_)) ((l_s2 ((l_3 ((l_5 vx21_ (-1))) mk_)) 29))))))), none, some (.inl (w_ + 1)), some (.inr (.inl vx21_)), none, some (.inr (.inl (l_3 ((l_5 vx21_ (-1))) mk_))), none], [], sm_aL S_ 32 0 (64 * n_ + w_).toNat ((l_3 vx21_ mk_)))) rfl ?_
              refine sm_T_wk [some (.inr (.inr (some (1, 0)))), some (.inl bi_), some (.inr (.inl mk_)), none, some (.inl n_), some (.inl an_), some (.inr (.inl (l_0 ((l_2 hs_ 31)) ((l_5 ((l_3 ((l_5 vx21_ (-1))) mk_)) ((l_s2 ((l_3 ((l_5 vx21_ (-1))) mk_)) 29))))))), none, some (.inl (w_ + 1)), none, none, none, none] (by exact ⟨rfl, rfl, rfl, rfl, rfl, rfl, rfl, trivial⟩) ?_
              refine ih_.2 bi_ mk_ n_ an_ ((l_0 ((l_2 hs_ 31)) ((l_5 ((l_3 ((l_5 vx21_ (-1))) mk_)) ((l_s2 ((l_3 ((l_5 vx21_ (-1))) mk_)) 29)))))) (w_ + 1) Wz_ (sm_aL S_ 32 0 (64 * n_ + w_).toNat ((l_3 vx21_ mk_))) hIx22_ hFx23_ ⟨?_, ?_, ?_, ?_, ?_, ?_, ?_, ?_, ?_, trivial⟩ ?_
              · exact hW_
              · exact hmk_
              · omega
              · exact sw1_cg h1_ (by omega) (fun j9_ hj9_ => by rw [rd_leq, if_neg (by omega)])
              · (intro z9_; refine ⟨(h2_ z9_).1, fun w9_ hw9_ => ?_⟩; rw [rd_leq, if_neg (by omega)]; exact (h2_ z9_).2 w9_ hw9_)
              · exact bks_cg h3_ (fun _ => Iff.rfl) (Nat.le_refl _) (fun m9_ hm9_ => (hrw_cg (fun w9_ hw9_ => by have := hm9_.1; rw [rd_leq, if_neg (by omega)]) (by omega)).symm)
              · rw [show (w_ + 1).toNat = w_.toNat + 1 by omega]
                refine hsw_up hmk_.1 h4_ (fun k9_ => by rw [show 64 * n_.toNat + w_.toNat = (64 * n_ + w_).toNat by omega]; exact rd_leq) ?_
                rw [show (64 * n_).toNat = 64 * n_.toNat by omega] at cx25_
                first | exact Or.inl ⟨lc_0.mp (by omega), rfl⟩ | exact Or.inr ⟨fun q9_ => cx25_ (lc_0.mpr q9_), rfl⟩
              · rw [show (w_ + 1).toNat = w_.toNat + 1 by omega]
                refine srw_up (fun a9_ => hg_.2.2 n_.toNat a9_ (by omega)) (by omega) h5_ (fun k9_ => by rw [show 64 * n_.toNat + w_.toNat = (64 * n_ + w_).toNat by omega]; exact rd_leq) (fun a9_ => ?_) (fun a9_ => ?_)
                · first | (exfalso; omega) | (rw [e131_, e147_, f42_, f43_])
                · first | rfl | (exfalso; omega)
              · exact hDx24_
              · omega
            · have cx25_ : ¬ ((sm_lcmp ((l_3 (((sm_aL S_ 32 0 (64 * n_ + w_).toNat ((l_3 vx21_ mk_))).2.2.2 32 0 (64 * n_).toNat)) 1)) 0) ≠ 0) := of_decide_eq_false cx25_
              refine sm_T_go 6 (c1 := (227, [some (.inr (.inr (some (1, 0)))), some (.inl bi_), some (.inr (.inl mk_)), none, some (.inl n_), some (.inl an_), some (.inr (.inl hs_)), none, some (.inl w_), some (.inr (.inl vx21_)), none, some (.inr (.inl (l_3 vx21_ mk_))), none], [.inr (.inl hs_)], sm_aL S_ 32 0 (64 * n_ + w_).toNat ((l_3 vx21_ mk_)))) rfl ?_
              refine sm_T_nt (u := some (.inr (.inl 31))) (S1 := sm_aL S_ 32 0 (64 * n_ + w_).toNat ((l_3 vx21_ mk_))) rfl rfl rfl ?_
              refine sm_T_go 8 (c1 := (242, [some (.inr (.inr (some (1, 0)))), some (.inl bi_), some (.inr (.inl mk_)), none, some (.inl n_), some (.inl an_), some (.inr (.inl (l_0 ((l_2 hs_ 31)) ((l_5 ((l_3 vx21_ mk_)) ((l_s2 ((l_3 vx21_ mk_)) 29))))))), none, some (.inl w_), some (.inr (.inl vx21_)), none, some (.inr (.inl (l_3 vx21_ mk_))), none], [], sm_aL S_ 32 0 (64 * n_ + w_).toNat ((l_3 vx21_ mk_)))) rfl ?_
              refine sm_T_inc (a := 8) (z := 1) (v := w_) (w := w_ + 1) rfl rfl (by omega) (by omega) (by omega) ?_
              refine sm_T_go 1 (c1 := (104, [some (.inr (.inr (some (1, 0)))), some (.inl bi_), some (.inr (.inl mk_)), none, some (.inl n_), some (.inl an_), some (.inr (.inl (l_0 ((l_2 hs_ 31)) ((l_5 ((l_3 vx21_ mk_)) ((l_s2 ((l_3 vx21_ mk_)) 29))))))), none, some (.inl (w_ + 1)), some (.inr (.inl vx21_)), none, some (.inr (.inl (l_3 vx21_ mk_))), none], [], sm_aL S_ 32 0 (64 * n_ + w_).toNat ((l_3 vx21_ mk_)))) rfl ?_
              refine sm_T_wk [some (.inr (.inr (some (1, 0)))), some (.inl bi_), some (.inr (.inl mk_)), none, some (.inl n_), some (.inl an_), some (.inr (.inl (l_0 ((l_2 hs_ 31)) ((l_5 ((l_3 vx21_ mk_)) ((l_s2 ((l_3 vx21_ mk_)) 29))))))), none, some (.inl (w_ + 1)), none, none, none, none] (by exact ⟨rfl, rfl, rfl, rfl, rfl, rfl, rfl, trivial⟩) ?_
              refine ih_.2 bi_ mk_ n_ an_ ((l_0 ((l_2 hs_ 31)) ((l_5 ((l_3 vx21_ mk_)) ((l_s2 ((l_3 vx21_ mk_)) 29)))))) (w_ + 1) Wz_ (sm_aL S_ 32 0 (64 * n_ + w_).toNat ((l_3 vx21_ mk_))) hIx22_ hFx23_ ⟨?_, ?_, ?_, ?_, ?_, ?_, ?_, ?_, ?_, trivial⟩ ?_
              · exact hW_
              · exact hmk_
              · omega
              · exact sw1_cg h1_ (by omega) (fun j9_ hj9_ => by rw [rd_leq, if_neg (by omega)])
              · (intro z9_; refine ⟨(h2_ z9_).1, fun w9_ hw9_ => ?_⟩; rw [rd_leq, if_neg (by omega)]; exact (h2_ z9_).2 w9_ hw9_)
              · exact bks_cg h3_ (fun _ => Iff.rfl) (Nat.le_refl _) (fun m9_ hm9_ => (hrw_cg (fun w9_ hw9_ => by have := hm9_.1; rw [rd_leq, if_neg (by omega)]) (by omega)).symm)
              · rw [show (w_ + 1).toNat = w_.toNat + 1 by omega]
                refine hsw_up hmk_.1 h4_ (fun k9_ => by rw [show 64 * n_.toNat + w_.toNat = (64 * n_ + w_).toNat by omega]; exact rd_leq) ?_
                rw [show (64 * n_).toNat = 64 * n_.toNat by omega] at cx25_
                first | exact Or.inl ⟨lc_0.mp (by omega), rfl⟩ | exact Or.inr ⟨fun q9_ => cx25_ (lc_0.mpr q9_), rfl⟩
              · rw [show (w_ + 1).toNat = w_.toNat + 1 by omega]
                refine srw_up (fun a9_ => hg_.2.2 n_.toNat a9_ (by omega)) (by omega) h5_ (fun k9_ => by rw [show 64 * n_.toNat + w_.toNat = (64 * n_ + w_).toNat by omega]; exact rd_leq) (fun a9_ => ?_) (fun a9_ => ?_)
                · first | (exfalso; omega) | (rw [e131_, e147_, f42_, f43_])
                · first | rfl | (exfalso; omega)
              · exact hDx24_
              · omega
          · have cx15_ : ¬ (n_ ≠ 0) := of_decide_eq_false cx15_
            refine sm_T_go 7 (c1 := (182, [some (.inr (.inr (some (1, 0)))), some (.inl bi_), some (.inr (.inl mk_)), none, some (.inl n_), some (.inl an_), some (.inr (.inl hs_)), none, some (.inl w_), some (.inr (.inl 0)), none, none, none], [.inl 64, .inl n_, .inr (.inr (some (32, 0)))], S_)) rfl ?_
            refine sm_T_bin (w := 64 * n_) rfl (bi_mul (by omega) (by omega) (by omega)) ?_
            refine sm_T_go 1 (c1 := (185, [some (.inr (.inr (some (1, 0)))), some (.inl bi_), some (.inr (.inl mk_)), none, some (.inl n_), some (.inl an_), some (.inr (.inl hs_)), none, some (.inl w_), some (.inr (.inl 0)), none, none, none], [.inl w_, .inl (64 * n_), .inr (.inr (some (32, 0)))], S_)) rfl ?_
            refine sm_T_bin (w := 64 * n_ + w_) rfl (bi_add (by omega) (by omega) (by omega)) ?_
            refine sm_T_go 3 (c1 := (190, [some (.inr (.inr (some (1, 0)))), some (.inl bi_), some (.inr (.inl mk_)), none, some (.inl n_), some (.inl an_), some (.inr (.inl hs_)), none, some (.inl w_), some (.inr (.inl 0)), none, none, none], [.inr (.inl (l_3 0 mk_)), .inl (64 * n_ + w_), .inr (.inr (some (32, 0)))], S_)) rfl ?_
            refine sm_T_last (n := 64832) rfl rfl (by omega) (by omega) ?_
            have hIx26_ : gi (sm_aL S_ 32 0 (64 * n_ + w_).toNat ((l_3 0 mk_))) := gi_aL hI_
            have hFx27_ : ai_fr (sx_W vw_47) S0_ (sm_aL S_ 32 0 (64 * n_ + w_).toNat ((l_3 0 mk_))) := ai_fr_tr hF_ (ai_fr_aL rfl)
            have hDx28_ : idf dd_ S0_ (sm_aL S_ 32 0 (64 * n_ + w_).toNat ((l_3 0 mk_))) := idf_aL hD_
            refine sm_T_go 4 (c1 := (199, [some (.inr (.inr (some (1, 0)))), some (.inl bi_), some (.inr (.inl mk_)), none, some (.inl n_), some (.inl an_), some (.inr (.inl hs_)), none, some (.inl w_), some (.inr (.inl 0)), none, none, none], [.inl 64, .inl n_, .inr (.inr (some (32, 0)))], sm_aL S_ 32 0 (64 * n_ + w_).toNat ((l_3 0 mk_)))) rfl ?_
            refine sm_T_bin (w := 64 * n_) rfl (bi_mul (by omega) (by omega) (by omega)) ?_
            refine sm_T_lald (n := 64832) rfl rfl (by omega) (by omega) ?_
            refine sm_T_go 4 (c1 := (205, [some (.inr (.inr (some (1, 0)))), some (.inl bi_), some (.inr (.inl mk_)), none, some (.inl n_), some (.inl an_), some (.inr (.inl hs_)), none, some (.inl w_), some (.inr (.inl 0)), none, none, none], [.inl (sm_lcmp ((l_3 (((sm_aL S_ 32 0 (64 * n_ + w_).toNat ((l_3 0 mk_))).2.2.2 32 0 (64 * n_).toNat)) 1)) 0)], sm_aL S_ 32 0 (64 * n_ + w_).toNat ((l_3 0 mk_)))) rfl ?_
            refine sm_T_b0 (a := 1) (z := 10) rfl (fun cx29_ => ?_) (fun cx29_ => ?_)
            · have cx29_ : (sm_lcmp ((l_3 (((sm_aL S_ 32 0 (64 * n_ + w_).toNat ((l_3 0 mk_))).2.2.2 32 0 (64 * n_).toNat)) 1)) 0) ≠ 0 := of_decide_eq_true cx29_
              refine sm_T_go 1 (c1 := (217, [some (.inr (.inr (some (1, 0)))), some (.inl bi_), some (.inr (.inl mk_)), none, some (.inl n_), some (.inl an_), some (.inr (.inl hs_)), none, some (.inl w_), some (.inr (.inl 0)), none, none, none], [.inr (.inl 0)], sm_aL S_ 32 0 (64 * n_ + w_).toNat ((l_3 0 mk_)))) rfl ?_
              refine sm_T_nt (u := some (.inr (.inl (-1)))) (S1 := sm_aL S_ 32 0 (64 * n_ + w_).toNat ((l_3 0 mk_))) rfl rfl rfl ?_
              refine sm_T_go 5 (c1 := (227, [some (.inr (.inr (some (1, 0)))), some (.inl bi_), some (.inr (.inl mk_)), none, some (.inl n_), some (.inl an_), some (.inr (.inl hs_)), none, some (.inl w_), some (.inr (.inl 0)), none, some (.inr (.inl (l_3 ((l_5 0 (-1))) mk_))), none], [.inr (.inl hs_)], sm_aL S_ 32 0 (64 * n_ + w_).toNat ((l_3 0 mk_)))) rfl ?_
              refine sm_T_nt (u := some (.inr (.inl 31))) (S1 := sm_aL S_ 32 0 (64 * n_ + w_).toNat ((l_3 0 mk_))) rfl rfl rfl ?_
              refine sm_T_go 8 (c1 := (242, [some (.inr (.inr (some (1, 0)))), some (.inl bi_), some (.inr (.inl mk_)), none, some (.inl n_), some (.inl an_), some (.inr (.inl (l_0 ((l_2 hs_ 31)) ((l_5 ((l_3 ((l_5 0 (-1))) mk_)) ((l_s2 ((l_3 ((l_5 0 (-1))) mk_)) 29))))))), none, some (.inl w_), some (.inr (.inl 0)), none, some (.inr (.inl (l_3 ((l_5 0 (-1))) mk_))), none], [], sm_aL S_ 32 0 (64 * n_ + w_).toNat ((l_3 0 mk_)))) rfl ?_
              refine sm_T_inc (a := 8) (z := 1) (v := w_) (w := w_ + 1) rfl rfl (by omega) (by omega) (by omega) ?_
              refine sm_T_go 1 (c1 := (104, [some (.inr (.inr (some (1, 0)))), some (.inl bi_), some (.inr (.inl mk_)), none, some (.inl n_), some (.inl an_), some (.inr (.inl (l_0 ((l_2 hs_ 31)) ((l_5 ((l_3 ((l_5 0 (-1))) mk_)) ((l_s2 ((l_3 ((l_5 0 (-1))) mk_)) 29))))))), none, some (.inl (w_ + 1)), some (.inr (.inl 0)), none, some (.inr (.inl (l_3 ((l_5 0 (-1))) mk_))), none], [], sm_aL S_ 32 0 (64 * n_ + w_).toNat ((l_3 0 mk_)))) rfl ?_
              refine sm_T_wk [some (.inr (.inr (some (1, 0)))), some (.inl bi_), some (.inr (.inl mk_)), none, some (.inl n_), some (.inl an_), some (.inr (.inl (l_0 ((l_2 hs_ 31)) ((l_5 ((l_3 ((l_5 0 (-1))) mk_)) ((l_s2 ((l_3 ((l_5 0 (-1))) mk_)) 29))))))), none, some (.inl (w_ + 1)), none, none, none, none] (by exact ⟨rfl, rfl, rfl, rfl, rfl, rfl, rfl, trivial⟩) ?_
              refine ih_.2 bi_ mk_ n_ an_ ((l_0 ((l_2 hs_ 31)) ((l_5 ((l_3 ((l_5 0 (-1))) mk_)) ((l_s2 ((l_3 ((l_5 0 (-1))) mk_)) 29)))))) (w_ + 1) Wz_ (sm_aL S_ 32 0 (64 * n_ + w_).toNat ((l_3 0 mk_))) hIx26_ hFx27_ ⟨?_, ?_, ?_, ?_, ?_, ?_, ?_, ?_, ?_, trivial⟩ ?_
              · exact hW_
              · exact hmk_
              · omega
              · exact sw1_cg h1_ (by omega) (fun j9_ hj9_ => by rw [rd_leq, if_neg (by omega)])
              · (intro z9_; refine ⟨(h2_ z9_).1, fun w9_ hw9_ => ?_⟩; rw [rd_leq, if_neg (by omega)]; exact (h2_ z9_).2 w9_ hw9_)
              · exact bks_cg h3_ (fun _ => Iff.rfl) (Nat.le_refl _) (fun m9_ hm9_ => (hrw_cg (fun w9_ hw9_ => by have := hm9_.1; rw [rd_leq, if_neg (by omega)]) (by omega)).symm)
              · rw [show (w_ + 1).toNat = w_.toNat + 1 by omega]
                refine hsw_up hmk_.1 h4_ (fun k9_ => by rw [show 64 * n_.toNat + w_.toNat = (64 * n_ + w_).toNat by omega]; exact rd_leq) ?_
                rw [show (64 * n_).toNat = 64 * n_.toNat by omega] at cx29_
                first | exact Or.inl ⟨lc_0.mp (by omega), rfl⟩ | exact Or.inr ⟨fun q9_ => cx29_ (lc_0.mpr q9_), rfl⟩
              · rw [show (w_ + 1).toNat = w_.toNat + 1 by omega]
                refine srw_up (fun a9_ => hg_.2.2 n_.toNat a9_ (by omega)) (by omega) h5_ (fun k9_ => by rw [show 64 * n_.toNat + w_.toNat = (64 * n_ + w_).toNat by omega]; exact rd_leq) (fun a9_ => ?_) (fun a9_ => ?_)
                · first | (exfalso; omega) | (rw [e131_, e147_, f42_, f43_])
                · first | rfl | (exfalso; omega)
              · exact hDx28_
              · omega
            · have cx29_ : ¬ ((sm_lcmp ((l_3 (((sm_aL S_ 32 0 (64 * n_ + w_).toNat ((l_3 0 mk_))).2.2.2 32 0 (64 * n_).toNat)) 1)) 0) ≠ 0) := of_decide_eq_false cx29_
              refine sm_T_go 6 (c1 := (227, [some (.inr (.inr (some (1, 0)))), some (.inl bi_), some (.inr (.inl mk_)), none, some (.inl n_), some (.inl an_), some (.inr (.inl hs_)), none, some (.inl w_), some (.inr (.inl 0)), none, some (.inr (.inl (l_3 0 mk_))), none], [.inr (.inl hs_)], sm_aL S_ 32 0 (64 * n_ + w_).toNat ((l_3 0 mk_)))) rfl ?_
              refine sm_T_nt (u := some (.inr (.inl 31))) (S1 := sm_aL S_ 32 0 (64 * n_ + w_).toNat ((l_3 0 mk_))) rfl rfl rfl ?_
              refine sm_T_go 8 (c1 := (242, [some (.inr (.inr (some (1, 0)))), some (.inl bi_), some (.inr (.inl mk_)), none, some (.inl n_), some (.inl an_), some (.inr (.inl (l_0 ((l_2 hs_ 31)) ((l_5 ((l_3 0 mk_)) ((l_s2 ((l_3 0 mk_)) 29))))))), none, some (.inl w_), some (.inr (.inl 0)), none, some (.inr (.inl (l_3 0 mk_))), none], [], sm_aL S_ 32 0 (64 * n_ + w_).toNat ((l_3 0 mk_)))) rfl ?_
              refine sm_T_inc (a := 8) (z := 1) (v := w_) (w := w_ + 1) rfl rfl (by omega) (by omega) (by omega) ?_
              refine sm_T_go 1 (c1 := (104, [some (.inr (.inr (some (1, 0)))), some (.inl bi_), some (.inr (.inl mk_)), none, some (.inl n_), some (.inl an_), some (.inr (.inl (l_0 ((l_2 hs_ 31)) ((l_5 ((l_3 0 mk_)) ((l_s2 ((l_3 0 mk_)) 29))))))), none, some (.inl (w_ + 1)), some (.inr (.inl 0)), none, some (.inr (.inl (l_3 0 mk_))), none], [], sm_aL S_ 32 0 (64 * n_ + w_).toNat ((l_3 0 mk_)))) rfl ?_
              refine sm_T_wk [some (.inr (.inr (some (1, 0)))), some (.inl bi_), some (.inr (.inl mk_)), none, some (.inl n_), some (.inl an_), some (.inr (.inl (l_0 ((l_2 hs_ 31)) ((l_5 ((l_3 0 mk_)) ((l_s2 ((l_3 0 mk_)) 29))))))), none, some (.inl (w_ + 1)), none, none, none, none] (by exact ⟨rfl, rfl, rfl, rfl, rfl, rfl, rfl, trivial⟩) ?_
              refine ih_.2 bi_ mk_ n_ an_ ((l_0 ((l_2 hs_ 31)) ((l_5 ((l_3 0 mk_)) ((l_s2 ((l_3 0 mk_)) 29)))))) (w_ + 1) Wz_ (sm_aL S_ 32 0 (64 * n_ + w_).toNat ((l_3 0 mk_))) hIx26_ hFx27_ ⟨?_, ?_, ?_, ?_, ?_, ?_, ?_, ?_, ?_, trivial⟩ ?_
              · exact hW_
              · exact hmk_
              · omega
              · exact sw1_cg h1_ (by omega) (fun j9_ hj9_ => by rw [rd_leq, if_neg (by omega)])
              · (intro z9_; refine ⟨(h2_ z9_).1, fun w9_ hw9_ => ?_⟩; rw [rd_leq, if_neg (by omega)]; exact (h2_ z9_).2 w9_ hw9_)
              · exact bks_cg h3_ (fun _ => Iff.rfl) (Nat.le_refl _) (fun m9_ hm9_ => (hrw_cg (fun w9_ hw9_ => by have := hm9_.1; rw [rd_leq, if_neg (by omega)]) (by omega)).symm)
              · rw [show (w_ + 1).toNat = w_.toNat + 1 by omega]
                refine hsw_up hmk_.1 h4_ (fun k9_ => by rw [show 64 * n_.toNat + w_.toNat = (64 * n_ + w_).toNat by omega]; exact rd_leq) ?_
                rw [show (64 * n_).toNat = 64 * n_.toNat by omega] at cx29_
                first | exact Or.inl ⟨lc_0.mp (by omega), rfl⟩ | exact Or.inr ⟨fun q9_ => cx29_ (lc_0.mpr q9_), rfl⟩
              · rw [show (w_ + 1).toNat = w_.toNat + 1 by omega]
                refine srw_up (fun a9_ => hg_.2.2 n_.toNat a9_ (by omega)) (by omega) h5_ (fun k9_ => by rw [show 64 * n_.toNat + w_.toNat = (64 * n_ + w_).toNat by omega]; exact rd_leq) (fun a9_ => ?_) (fun a9_ => ?_)
                · first | (exfalso; omega) | (rw [e131_, e147_, f42_, f43_])
                · first | rfl | (exfalso; omega)
              · exact hDx28_
              · omega
        · have cx14_ : ¬ (an_ = 0) := of_decide_eq_false cx14_
          refine sm_T_go 2 (c1 := (120, [some (.inr (.inr (some (1, 0)))), some (.inl bi_), some (.inr (.inl mk_)), none, some (.inl n_), some (.inl an_), some (.inr (.inl hs_)), none, some (.inl w_), none, none, none, none], [.inr (.inr (some (1, 0))), .inr (.inr (some (1, 0)))], S_)) rfl ?_
          refine sm_T_gr rfl rfl ((hF_.2.1 1 0 1 rfl).trans hd_) ?_
          refine sm_T_go 2 (c1 := (128, [some (.inr (.inr (some (1, 0)))), some (.inl bi_), some (.inr (.inl mk_)), none, some (.inl n_), some (.inl an_), some (.inr (.inl hs_)), none, some (.inl w_), none, none, none, none], [.inl n_, .inr (.inr (some (42, (0 + dd_)))), .inr (.inr (some (1, 0)))], S_)) rfl ?_
          refine sm_T_iald (n := 1013) rfl rfl (by omega) (by omega) ?_
          have bx30_ : 0 ≤ S_.2.2.1 42 (0 + dd_) n_.toNat ∧ S_.2.2.1 42 (0 + dd_) n_.toNat ≤ 2025 := hI_.2 42 (0 + dd_) _
          refine sm_T_go 1 (c1 := (131, [some (.inr (.inr (some (1, 0)))), some (.inl bi_), some (.inr (.inl mk_)), none, some (.inl n_), some (.inl an_), some (.inr (.inl hs_)), none, some (.inl w_), none, none, none, none], [.inl w_, .inl (S_.2.2.1 42 (0 + dd_) n_.toNat), .inr (.inr (some (1, 0)))], S_)) rfl ?_
          refine sm_T_cal (d1 := 0) (Q1 := vq_48 (S_.2.2.1 42 (0 + dd_) n_.toNat) w_ S_) rfl rfl (by decide) (vc_48 (S_.2.2.1 42 (0 + dd_) n_.toNat) w_ S_ hI_ (by omega) (by omega)) (fun u_ Sx31_ px34_ => ?_)
          obtain ⟨rfl, vx36_, rfl, px34_⟩ := px34_
          have e131_ := px34_
          refine sm_T_go 2 (c1 := (136, [some (.inr (.inr (some (1, 0)))), some (.inl bi_), some (.inr (.inl mk_)), none, some (.inl n_), some (.inl an_), some (.inr (.inl hs_)), none, some (.inl w_), none, none, none, none], [.inr (.inr (some (1, 0))), .inr (.inr (some (1, 0))), .inr (.inl vx36_)], S_)) rfl ?_
          refine sm_T_gr rfl rfl ((hF_.2.1 1 0 1 rfl).trans hd_) ?_
          refine sm_T_go 2 (c1 := (144, [some (.inr (.inr (some (1, 0)))), some (.inl bi_), some (.inr (.inl mk_)), none, some (.inl n_), some (.inl an_), some (.inr (.inl hs_)), none, some (.inl w_), none, none, none, none], [.inl n_, .inr (.inr (some (43, (0 + dd_)))), .inr (.inr (some (1, 0))), .inr (.inl vx36_)], S_)) rfl ?_
          refine sm_T_iald (n := 1013) rfl rfl (by omega) (by omega) ?_
          have bx37_ : 0 ≤ S_.2.2.1 43 (0 + dd_) n_.toNat ∧ S_.2.2.1 43 (0 + dd_) n_.toNat ≤ 2025 := hI_.2 43 (0 + dd_) _
          refine sm_T_go 1 (c1 := (147, [some (.inr (.inr (some (1, 0)))), some (.inl bi_), some (.inr (.inl mk_)), none, some (.inl n_), some (.inl an_), some (.inr (.inl hs_)), none, some (.inl w_), none, none, none, none], [.inl w_, .inl (S_.2.2.1 43 (0 + dd_) n_.toNat), .inr (.inr (some (1, 0))), .inr (.inl vx36_)], S_)) rfl ?_
          refine sm_T_cal (d1 := 0) (Q1 := vq_48 (S_.2.2.1 43 (0 + dd_) n_.toNat) w_ S_) rfl rfl (by decide) (vc_48 (S_.2.2.1 43 (0 + dd_) n_.toNat) w_ S_ hI_ (by omega) (by omega)) (fun u_ Sx38_ px41_ => ?_)
          obtain ⟨rfl, vx43_, rfl, px41_⟩ := px41_
          have e147_ := px41_
          refine sm_T_go 7 (c1 := (182, [some (.inr (.inr (some (1, 0)))), some (.inl bi_), some (.inr (.inl mk_)), none, some (.inl n_), some (.inl an_), some (.inr (.inl hs_)), none, some (.inl w_), some (.inr (.inl (l_3 vx36_ vx43_))), none, none, none], [.inl 64, .inl n_, .inr (.inr (some (32, 0)))], S_)) rfl ?_
          refine sm_T_bin (w := 64 * n_) rfl (bi_mul (by omega) (by omega) (by omega)) ?_
          refine sm_T_go 1 (c1 := (185, [some (.inr (.inr (some (1, 0)))), some (.inl bi_), some (.inr (.inl mk_)), none, some (.inl n_), some (.inl an_), some (.inr (.inl hs_)), none, some (.inl w_), some (.inr (.inl (l_3 vx36_ vx43_))), none, none, none], [.inl w_, .inl (64 * n_), .inr (.inr (some (32, 0)))], S_)) rfl ?_
          refine sm_T_bin (w := 64 * n_ + w_) rfl (bi_add (by omega) (by omega) (by omega)) ?_
          refine sm_T_go 3 (c1 := (190, [some (.inr (.inr (some (1, 0)))), some (.inl bi_), some (.inr (.inl mk_)), none, some (.inl n_), some (.inl an_), some (.inr (.inl hs_)), none, some (.inl w_), some (.inr (.inl (l_3 vx36_ vx43_))), none, none, none], [.inr (.inl (l_3 ((l_3 vx36_ vx43_)) mk_)), .inl (64 * n_ + w_), .inr (.inr (some (32, 0)))], S_)) rfl ?_
          refine sm_T_last (n := 64832) rfl rfl (by omega) (by omega) ?_
          have hIx44_ : gi (sm_aL S_ 32 0 (64 * n_ + w_).toNat ((l_3 ((l_3 vx36_ vx43_)) mk_))) := gi_aL hI_
          have hFx45_ : ai_fr (sx_W vw_47) S0_ (sm_aL S_ 32 0 (64 * n_ + w_).toNat ((l_3 ((l_3 vx36_ vx43_)) mk_))) := ai_fr_tr hF_ (ai_fr_aL rfl)
          have hDx46_ : idf dd_ S0_ (sm_aL S_ 32 0 (64 * n_ + w_).toNat ((l_3 ((l_3 vx36_ vx43_)) mk_))) := idf_aL hD_
          refine sm_T_go 4 (c1 := (199, [some (.inr (.inr (some (1, 0)))), some (.inl bi_), some (.inr (.inl mk_)), none, some (.inl n_), some (.inl an_), some (.inr (.inl hs_)), none, some (.inl w_), some (.inr (.inl (l_3 vx36_ vx43_))), none, none, none], [.inl 64, .inl n_, .inr (.inr (some (32, 0)))], sm_aL S_ 32 0 (64 * n_ + w_).toNat ((l_3 ((l_3 vx36_ vx43_)) mk_)))) rfl ?_
          refine sm_T_bin (w := 64 * n_) rfl (bi_mul (by omega) (by omega) (by omega)) ?_
          refine sm_T_lald (n := 64832) rfl rfl (by omega) (by omega) ?_
          refine sm_T_go 4 (c1 := (205, [some (.inr (.inr (some (1, 0)))), some (.inl bi_), some (.inr (.inl mk_)), none, some (.inl n_), some (.inl an_), some (.inr (.inl hs_)), none, some (.inl w_), some (.inr (.inl (l_3 vx36_ vx43_))), none, none, none], [.inl (sm_lcmp ((l_3 (((sm_aL S_ 32 0 (64 * n_ + w_).toNat ((l_3 ((l_3 vx36_ vx43_)) mk_))).2.2.2 32 0 (64 * n_).toNat)) 1)) 0)], sm_aL S_ 32 0 (64 * n_ + w_).toNat ((l_3 ((l_3 vx36_ vx43_)) mk_)))) rfl ?_
          refine sm_T_b0 (a := 1) (z := 10) rfl (fun cx47_ => ?_) (fun cx47_ => ?_)
          · have cx47_ : (sm_lcmp ((l_3 (((sm_aL S_ 32 0 (64 * n_ + w_).toNat ((l_3 ((l_3 vx36_ vx43_)) mk_))).2.2.2 32 0 (64 * n_).toNat)) 1)) 0) ≠ 0 := of_decide_eq_true cx47_
            refine sm_T_go 1 (c1 := (217, [some (.inr (.inr (some (1, 0)))), some (.inl bi_), some (.inr (.inl mk_)), none, some (.inl n_), some (.inl an_), some (.inr (.inl hs_)), none, some (.inl w_), some (.inr (.inl (l_3 vx36_ vx43_))), none, none, none], [.inr (.inl (l_3 vx36_ vx43_))], sm_aL S_ 32 0 (64 * n_ + w_).toNat ((l_3 ((l_3 vx36_ vx43_)) mk_)))) rfl ?_
            refine sm_T_nt (u := some (.inr (.inl (-1)))) (S1 := sm_aL S_ 32 0 (64 * n_ + w_).toNat ((l_3 ((l_3 vx36_ vx43_)) mk_))) rfl rfl rfl ?_
            refine sm_T_go 5 (c1 := (227, [some (.inr (.inr (some (1, 0)))), some (.inl bi_), some (.inr (.inl mk_)), none, some (.inl n_), some (.inl an_), some (.inr (.inl hs_)), none, some (.inl w_), some (.inr (.inl (l_3 vx36_ vx43_))), none, some (.inr (.inl (l_3 ((l_5 ((l_3 vx36_ vx43_)) (-1))) mk_))), none], [.inr (.inl hs_)], sm_aL S_ 32 0 (64 * n_ + w_).toNat ((l_3 ((l_3 vx36_ vx43_)) mk_)))) rfl ?_
            refine sm_T_nt (u := some (.inr (.inl 31))) (S1 := sm_aL S_ 32 0 (64 * n_ + w_).toNat ((l_3 ((l_3 vx36_ vx43_)) mk_))) rfl rfl rfl ?_
            refine sm_T_go 8 (c1 := (242, [some (.inr (.inr (some (1, 0)))), some (.inl bi_), some (.inr (.inl mk_)), none, some (.inl n_), some (.inl an_), some (.inr (.inl (l_0 ((l_2 hs_ 31)) ((l_5 ((l_3 ((l_5 ((l_3 vx36_ vx43_)) (-1))) mk_)) ((l_s2 ((l_3 ((l_5 ((l_3 vx36_ vx43_)) (-1))) mk_)) 29))))))), none, some (.inl w_), some (.inr (.inl (l_3 vx36_ vx43_))), none, some (.inr (.inl (l_3 ((l_5 ((l_3 vx36_ vx43_)) (-1))) mk_))), none], [], sm_aL S_ 32 0 (64 * n_ + w_).toNat ((l_3 ((l_3 vx36_ vx43_)) mk_)))) rfl ?_
            refine sm_T_inc (a := 8) (z := 1) (v := w_) (w := w_ + 1) rfl rfl (by omega) (by omega) (by omega) ?_
            refine sm_T_go 1 (c1 := (104, [some (.inr (.inr (some (1, 0)))), some (.inl bi_), some (.inr (.inl mk_)), none, some (.inl n_), some (.inl an_), some (.inr (.inl (l_0 ((l_2 hs_ 31)) ((l_5 ((l_3 ((l_5 ((l_3 vx36_ vx43_)) (-1))) mk_)) ((l_s2 ((l_3 ((l_5 ((l_3 vx36_ vx43_)) (-1))) mk_)) 29))))))), none, some (.inl (w_ + 1)), some (.inr (.inl (l_3 vx36_ vx43_))), none, some (.inr (.inl (l_3 ((l_5 ((l_3 vx36_ vx43_)) (-1))) mk_))), none], [], sm_aL S_ 32 0 (64 * n_ + w_).toNat ((l_3 ((l_3 vx36_ vx43_)) mk_)))) rfl ?_
            refine sm_T_wk [some (.inr (.inr (some (1, 0)))), some (.inl bi_), some (.inr (.inl mk_)), none, some (.inl n_), some (.inl an_), some (.inr (.inl (l_0 ((l_2 hs_ 31)) ((l_5 ((l_3 ((l_5 ((l_3 vx36_ vx43_)) (-1))) mk_)) ((l_s2 ((l_3 ((l_5 ((l_3 vx36_ vx43_)) (-1))) mk_)) 29))))))), none, some (.inl (w_ + 1)), none, none, none, none] (by exact ⟨rfl, rfl, rfl, rfl, rfl, rfl, rfl, trivial⟩) ?_
            refine ih_.2 bi_ mk_ n_ an_ ((l_0 ((l_2 hs_ 31)) ((l_5 ((l_3 ((l_5 ((l_3 vx36_ vx43_)) (-1))) mk_)) ((l_s2 ((l_3 ((l_5 ((l_3 vx36_ vx43_)) (-1))) mk_)) 29)))))) (w_ + 1) Wz_ (sm_aL S_ 32 0 (64 * n_ + w_).toNat ((l_3 ((l_3 vx36_ vx43_)) mk_))) hIx44_ hFx45_ ⟨?_, ?_, ?_, ?_, ?_, ?_, ?_, ?_, ?_, trivial⟩ ?_
            · exact hW_
            · exact hmk_
            · omega
            · exact sw1_cg h1_ (by omega) (fun j9_ hj9_ => by rw [rd_leq, if_neg (by omega)])
            · (intro z9_; refine ⟨(h2_ z9_).1, fun w9_ hw9_ => ?_⟩; rw [rd_leq, if_neg (by omega)]; exact (h2_ z9_).2 w9_ hw9_)
            · exact bks_cg h3_ (fun _ => Iff.rfl) (Nat.le_refl _) (fun m9_ hm9_ => (hrw_cg (fun w9_ hw9_ => by have := hm9_.1; rw [rd_leq, if_neg (by omega)]) (by omega)).symm)
            · rw [show (w_ + 1).toNat = w_.toNat + 1 by omega]
              refine hsw_up hmk_.1 h4_ (fun k9_ => by rw [show 64 * n_.toNat + w_.toNat = (64 * n_ + w_).toNat by omega]; exact rd_leq) ?_
              rw [show (64 * n_).toNat = 64 * n_.toNat by omega] at cx47_
              first | exact Or.inl ⟨lc_0.mp (by omega), rfl⟩ | exact Or.inr ⟨fun q9_ => cx47_ (lc_0.mpr q9_), rfl⟩
            · rw [show (w_ + 1).toNat = w_.toNat + 1 by omega]
              refine srw_up (fun a9_ => hg_.2.2 n_.toNat a9_ (by omega)) (by omega) h5_ (fun k9_ => by rw [show 64 * n_.toNat + w_.toNat = (64 * n_ + w_).toNat by omega]; exact rd_leq) (fun a9_ => ?_) (fun a9_ => ?_)
              · first | (exfalso; omega) | (rw [e131_, e147_, f42_, f43_])
              · first | rfl | (exfalso; omega)
            · exact hDx46_
            · omega
          · have cx47_ : ¬ ((sm_lcmp ((l_3 (((sm_aL S_ 32 0 (64 * n_ + w_).toNat ((l_3 ((l_3 vx36_ vx43_)) mk_))).2.2.2 32 0 (64 * n_).toNat)) 1)) 0) ≠ 0) := of_decide_eq_false cx47_
            refine sm_T_go 6 (c1 := (227, [some (.inr (.inr (some (1, 0)))), some (.inl bi_), some (.inr (.inl mk_)), none, some (.inl n_), some (.inl an_), some (.inr (.inl hs_)), none, some (.inl w_), some (.inr (.inl (l_3 vx36_ vx43_))), none, some (.inr (.inl (l_3 ((l_3 vx36_ vx43_)) mk_))), none], [.inr (.inl hs_)], sm_aL S_ 32 0 (64 * n_ + w_).toNat ((l_3 ((l_3 vx36_ vx43_)) mk_)))) rfl ?_
            refine sm_T_nt (u := some (.inr (.inl 31))) (S1 := sm_aL S_ 32 0 (64 * n_ + w_).toNat ((l_3 ((l_3 vx36_ vx43_)) mk_))) rfl rfl rfl ?_
            refine sm_T_go 8 (c1 := (242, [some (.inr (.inr (some (1, 0)))), some (.inl bi_), some (.inr (.inl mk_)), none, some (.inl n_), some (.inl an_), some (.inr (.inl (l_0 ((l_2 hs_ 31)) ((l_5 ((l_3 ((l_3 vx36_ vx43_)) mk_)) ((l_s2 ((l_3 ((l_3 vx36_ vx43_)) mk_)) 29))))))), none, some (.inl w_), some (.inr (.inl (l_3 vx36_ vx43_))), none, some (.inr (.inl (l_3 ((l_3 vx36_ vx43_)) mk_))), none], [], sm_aL S_ 32 0 (64 * n_ + w_).toNat ((l_3 ((l_3 vx36_ vx43_)) mk_)))) rfl ?_
            refine sm_T_inc (a := 8) (z := 1) (v := w_) (w := w_ + 1) rfl rfl (by omega) (by omega) (by omega) ?_
            refine sm_T_go 1 (c1 := (104, [some (.inr (.inr (some (1, 0)))), some (.inl bi_), some (.inr (.inl mk_)), none, some (.inl n_), some (.inl an_), some (.inr (.inl (l_0 ((l_2 hs_ 31)) ((l_5 ((l_3 ((l_3 vx36_ vx43_)) mk_)) ((l_s2 ((l_3 ((l_3 vx36_ vx43_)) mk_)) 29))))))), none, some (.inl (w_ + 1)), some (.inr (.inl (l_3 vx36_ vx43_))), none, some (.inr (.inl (l_3 ((l_3 vx36_ vx43_)) mk_))), none], [], sm_aL S_ 32 0 (64 * n_ + w_).toNat ((l_3 ((l_3 vx36_ vx43_)) mk_)))) rfl ?_
            refine sm_T_wk [some (.inr (.inr (some (1, 0)))), some (.inl bi_), some (.inr (.inl mk_)), none, some (.inl n_), some (.inl an_), some (.inr (.inl (l_0 ((l_2 hs_ 31)) ((l_5 ((l_3 ((l_3 vx36_ vx43_)) mk_)) ((l_s2 ((l_3 ((l_3 vx36_ vx43_)) mk_)) 29))))))), none, some (.inl (w_ + 1)), none, none, none, none] (by exact ⟨rfl, rfl, rfl, rfl, rfl, rfl, rfl, trivial⟩) ?_
            refine ih_.2 bi_ mk_ n_ an_ ((l_0 ((l_2 hs_ 31)) ((l_5 ((l_3 ((l_3 vx36_ vx43_)) mk_)) ((l_s2 ((l_3 ((l_3 vx36_ vx43_)) mk_)) 29)))))) (w_ + 1) Wz_ (sm_aL S_ 32 0 (64 * n_ + w_).toNat ((l_3 ((l_3 vx36_ vx43_)) mk_))) hIx44_ hFx45_ ⟨?_, ?_, ?_, ?_, ?_, ?_, ?_, ?_, ?_, trivial⟩ ?_
            · exact hW_
            · exact hmk_
            · omega
            · exact sw1_cg h1_ (by omega) (fun j9_ hj9_ => by rw [rd_leq, if_neg (by omega)])
            · (intro z9_; refine ⟨(h2_ z9_).1, fun w9_ hw9_ => ?_⟩; rw [rd_leq, if_neg (by omega)]; exact (h2_ z9_).2 w9_ hw9_)
            · exact bks_cg h3_ (fun _ => Iff.rfl) (Nat.le_refl _) (fun m9_ hm9_ => (hrw_cg (fun w9_ hw9_ => by have := hm9_.1; rw [rd_leq, if_neg (by omega)]) (by omega)).symm)
            · rw [show (w_ + 1).toNat = w_.toNat + 1 by omega]
              refine hsw_up hmk_.1 h4_ (fun k9_ => by rw [show 64 * n_.toNat + w_.toNat = (64 * n_ + w_).toNat by omega]; exact rd_leq) ?_
              rw [show (64 * n_).toNat = 64 * n_.toNat by omega] at cx47_
              first | exact Or.inl ⟨lc_0.mp (by omega), rfl⟩ | exact Or.inr ⟨fun q9_ => cx47_ (lc_0.mpr q9_), rfl⟩
            · rw [show (w_ + 1).toNat = w_.toNat + 1 by omega]
              refine srw_up (fun a9_ => hg_.2.2 n_.toNat a9_ (by omega)) (by omega) h5_ (fun k9_ => by rw [show 64 * n_.toNat + w_.toNat = (64 * n_ + w_).toNat by omega]; exact rd_leq) (fun a9_ => ?_) (fun a9_ => ?_)
              · first | (exfalso; omega) | (rw [e131_, e147_, f42_, f43_])
              · first | rfl | (exfalso; omega)
            · exact hDx46_
            · omega
set_option maxHeartbeats 4000000 in
set_option maxRecDepth 20000 in
theorem vc_47 {sc_ : Nat × (Nat → Int)} (dd_ : Nat) (F_ : Nat) (S0_ : sm_S) (hI_ : gi S0_) (hd_ : S0_.2.1 1 0 1 = some dd_) (hg_ : dgr dd_ F_ S0_) : sm_T (mt_P sc_) 1 47 (0, [some (.inr (.inr (some (1, 0)))), none, none, none, none, none, none, none, none, none, none, none, none], [], S0_) (fun ro9_ => ∃ u_ S1_, ro9_ = (.inl u_, S1_, 0) ∧ vq_47 dd_ F_ S0_ u_ S1_) := by
  have hF_ : ai_fr (sx_W vw_47) S0_ S0_ := ai_fr_rf
  have hD_ : idf dd_ S0_ S0_ := idf_rf
  have g1_ := hg_.1
  have g2_ := hg_.2.1
  refine sm_T_go 1 (c1 := (1, [some (.inr (.inr (some (1, 0)))), none, none, none, none, none, none, none, none, none, none, none, none], [.inr (.inr (some (1, 0)))], S0_)) rfl ?_
  refine sm_T_gr rfl rfl ((hF_.2.1 1 0 1 rfl).trans hd_) ?_
  have bx1_ : 0 ≤ S0_.1 3 dd_ 1 ∧ S0_.1 3 dd_ 1 ≤ 320 := hI_.1 3 dd_ 1 rfl
  refine sm_T_go 2 (c1 := (8, [some (.inr (.inr (some (1, 0)))), none, none, none, none, none, none, none, none, none, none, none, none], [.inr (.inr (some (1, 0))), .inl (S0_.1 3 dd_ 1)], S0_)) rfl ?_
  refine sm_T_gr rfl rfl ((hF_.2.1 1 0 1 rfl).trans hd_) ?_
  have bx2_ : 0 ≤ S0_.1 3 dd_ 2 ∧ S0_.1 3 dd_ 2 ≤ 100000 := hI_.1 3 dd_ 2 rfl
  refine sm_T_go 1 (c1 := (14, [some (.inr (.inr (some (1, 0)))), none, none, none, none, none, none, none, none, none, none, none, none], [.inl (S0_.1 3 dd_ 2), .inl (S0_.1 3 dd_ 1)], S0_)) rfl ?_
  refine sm_T_bin (w := (S0_.1 3 dd_ 1) + (S0_.1 3 dd_ 2)) rfl (bi_add (by omega) (by omega) (by omega)) ?_
  refine sm_T_go 4 (c1 := (20, [some (.inr (.inr (some (1, 0)))), some (.inl ((S0_.1 3 dd_ 1) + (S0_.1 3 dd_ 2))), none, none, none, none, none, none, none, none, none, none, none], [.inl 6, .inl ((S0_.1 3 dd_ 1) + (S0_.1 3 dd_ 2)), .inr (.inr (some (1, 0)))], S0_)) rfl ?_
  refine sm_T_br (a := 4) (z := 7) rfl (fun cx3_ => ?_) (fun cx3_ => ?_)
  · have cx3_ : 6 < (S0_.1 3 dd_ 1) + (S0_.1 3 dd_ 2) := of_decide_eq_true cx3_
    refine sm_T_go 3 (c1 := (31, [some (.inr (.inr (some (1, 0)))), some (.inl ((S0_.1 3 dd_ 1) + (S0_.1 3 dd_ 2))), none, none, none, none, none, none, none, none, none, none, none], [.inl 6, .inl ((S0_.1 3 dd_ 1) + (S0_.1 3 dd_ 2)), .inl 1, .inr (.inr (some (1, 0)))], S0_)) rfl ?_
    refine sm_T_bin (w := (S0_.1 3 dd_ 1) + (S0_.1 3 dd_ 2) - 6) rfl (bi_sub (by omega) (by omega) (by omega)) ?_
    refine sm_T_bin (w := (i_shl 1 ((S0_.1 3 dd_ 1) + (S0_.1 3 dd_ 2) - 6))) rfl rfl ?_
    have bx4_ := i_shl1 (e := ((S0_.1 3 dd_ 1) + (S0_.1 3 dd_ 2) - 6)) (by omega) (by omega)
    have hp_ := pw_le (n := (((S0_.1 3 dd_ 1) + (S0_.1 3 dd_ 2) - 6)).toNat) (m := 6) (by omega)
    have hp0_ := pw_pos (((S0_.1 3 dd_ 1) + (S0_.1 3 dd_ 2) - 6)).toNat
    have hIx7_ : gi (sm_pI S0_ 1 0 13 (i_shl 1 ((S0_.1 3 dd_ 1) + (S0_.1 3 dd_ 2) - 6))) := gi_pI hI_ (show 0 ≤ (i_shl 1 ((S0_.1 3 dd_ 1) + (S0_.1 3 dd_ 2) - 6)) ∧ (i_shl 1 ((S0_.1 3 dd_ 1) + (S0_.1 3 dd_ 2) - 6)) ≤ 64 from ⟨by omega, by omega⟩)
    have hFx8_ : ai_fr (sx_W vw_47) S0_ (sm_pI S0_ 1 0 13 (i_shl 1 ((S0_.1 3 dd_ 1) + (S0_.1 3 dd_ 2) - 6))) := ai_fr_tr hF_ (ai_fr_pI rfl)
    have hDx9_ : idf dd_ S0_ (sm_pI S0_ 1 0 13 (i_shl 1 ((S0_.1 3 dd_ 1) + (S0_.1 3 dd_ 2) - 6))) := idf_pI hD_ (Or.inl (by decide))
    refine sm_T_go 3 (c1 := (39, [some (.inr (.inr (some (1, 0)))), some (.inl ((S0_.1 3 dd_ 1) + (S0_.1 3 dd_ 2))), none, none, none, none, none, none, none, none, none, none, none], [.inl 6, .inl ((S0_.1 3 dd_ 1) + (S0_.1 3 dd_ 2))], sm_pI S0_ 1 0 13 (i_shl 1 ((S0_.1 3 dd_ 1) + (S0_.1 3 dd_ 2) - 6)))) rfl ?_
    refine sm_T_br (a := 2) (z := 9) rfl (fun cx10_ => ?_) (fun cx10_ => ?_)
    · have cx10_ : (S0_.1 3 dd_ 1) + (S0_.1 3 dd_ 2) < 6 := of_decide_eq_true cx10_
      exfalso; omega
    · have cx10_ : ¬ ((S0_.1 3 dd_ 1) + (S0_.1 3 dd_ 2) < 6) := of_decide_eq_false cx10_
      refine sm_T_nt (u := some (.inr (.inl (-1)))) (S1 := sm_pI S0_ 1 0 13 (i_shl 1 ((S0_.1 3 dd_ 1) + (S0_.1 3 dd_ 2) - 6))) rfl rfl rfl ?_
      refine sm_T_go 5 (c1 := (61, [some (.inr (.inr (some (1, 0)))), some (.inl ((S0_.1 3 dd_ 1) + (S0_.1 3 dd_ 2))), some (.inr (.inl (-1))), none, none, none, none, none, none, none, none, none, none], [.inl (-1), .inr (.inr (some (29, 0)))], sm_pI S0_ 1 0 13 (i_shl 1 ((S0_.1 3 dd_ 1) + (S0_.1 3 dd_ 2) - 6)))) rfl ?_
      refine sm_T_cal (d1 := 0) (Q1 := vq_2b (-1) (sm_pI S0_ 1 0 13 (i_shl 1 ((S0_.1 3 dd_ 1) + (S0_.1 3 dd_ 2) - 6)))) rfl rfl (by decide) (vc_2b (-1) (sm_pI S0_ 1 0 13 (i_shl 1 ((S0_.1 3 dd_ 1) + (S0_.1 3 dd_ 2) - 6))) hIx7_ (by decide)) (fun u_ Sx11_ px14_ => ?_)
      obtain ⟨rfl, hIx12_, hFx13_, px14_⟩ := px14_
      have hFx15_ : ai_fr (sx_W vw_47) S0_ Sx11_ := ai_fr_tr hFx8_ (fr_le hFx13_ rfl)
      have hDx16_ : idf dd_ S0_ Sx11_ := idf_tr hDx9_ (idf_fr hFx13_ (by decide) (by decide))
      have e61_ := px14_
      have w61_ := hFx13_.1 1 0 13 rfl
      simp only [rf_eq] at w61_
      refine sm_T_go 2 (c1 := (67, [some (.inr (.inr (some (1, 0)))), some (.inl ((S0_.1 3 dd_ 1) + (S0_.1 3 dd_ 2))), some (.inr (.inl (-1))), none, some (.inl 0), none, none, none, none, none, none, none, none], [], Sx11_)) rfl ?_
      refine (vl_47 dd_ F_ S0_ hd_ hg_ _).1 ((S0_.1 3 dd_ 1) + (S0_.1 3 dd_ 2)) (-1) 0 (Sx11_.1 1 0 13) Sx11_ hIx12_ hFx15_ ⟨?_, ?_, ?_, ?_, ?_, ?_, ?_, trivial⟩ (Nat.lt_succ_self _)
      · omega
      · first | exact mkm | exact mkb (by omega)
      · (have g1_ := hg_.1; have g2_ := hg_.2.1; omega)
      · (intro m9_ hm9_; exact absurd hm9_ (Nat.not_lt_zero _))
      · (intro z9_; exact absurd z9_ (by decide))
      · exact bks_0 (fun j9_ hj9_ => e61_ j9_ hj9_) (fun m9_ hm9_ => absurd hm9_.1 (Nat.not_lt_zero _))
      · exact hDx16_
  · have cx3_ : ¬ (6 < (S0_.1 3 dd_ 1) + (S0_.1 3 dd_ 2)) := of_decide_eq_false cx3_
    have hIx17_ : gi (sm_pI S0_ 1 0 13 1) := gi_pI hI_ (show 0 ≤ 1 ∧ 1 ≤ 64 from ⟨by omega, by omega⟩)
    have hFx18_ : ai_fr (sx_W vw_47) S0_ (sm_pI S0_ 1 0 13 1) := ai_fr_tr hF_ (ai_fr_pI rfl)
    have hDx19_ : idf dd_ S0_ (sm_pI S0_ 1 0 13 1) := idf_pI hD_ (Or.inl (by decide))
    refine sm_T_go 5 (c1 := (39, [some (.inr (.inr (some (1, 0)))), some (.inl ((S0_.1 3 dd_ 1) + (S0_.1 3 dd_ 2))), none, none, none, none, none, none, none, none, none, none, none], [.inl 6, .inl ((S0_.1 3 dd_ 1) + (S0_.1 3 dd_ 2))], sm_pI S0_ 1 0 13 1)) rfl ?_
    refine sm_T_br (a := 2) (z := 9) rfl (fun cx20_ => ?_) (fun cx20_ => ?_)
    · have cx20_ : (S0_.1 3 dd_ 1) + (S0_.1 3 dd_ 2) < 6 := of_decide_eq_true cx20_
      refine sm_T_go 3 (c1 := (51, [some (.inr (.inr (some (1, 0)))), some (.inl ((S0_.1 3 dd_ 1) + (S0_.1 3 dd_ 2))), none, none, none, none, none, none, none, none, none, none, none], [.inl ((S0_.1 3 dd_ 1) + (S0_.1 3 dd_ 2)), .inl 1, .inr (.inl 1)], sm_pI S0_ 1 0 13 1)) rfl ?_
      refine sm_T_bin (w := (i_shl 1 ((S0_.1 3 dd_ 1) + (S0_.1 3 dd_ 2)))) rfl rfl ?_
      have bx21_ := i_shl1 (e := ((S0_.1 3 dd_ 1) + (S0_.1 3 dd_ 2))) (by omega) (by omega)
      have hp_ := pw_le (n := (((S0_.1 3 dd_ 1) + (S0_.1 3 dd_ 2))).toNat) (m := 6) (by omega)
      have hp0_ := pw_pos (((S0_.1 3 dd_ 1) + (S0_.1 3 dd_ 2))).toNat
      refine sm_T_go 7 (c1 := (61, [some (.inr (.inr (some (1, 0)))), some (.inl ((S0_.1 3 dd_ 1) + (S0_.1 3 dd_ 2))), some (.inr (.inl (l_1 ((l_s0 1 (i_shl 1 ((S0_.1 3 dd_ 1) + (S0_.1 3 dd_ 2))))) 1))), none, none, none, none, none, none, none, none, none, none], [.inl (-1), .inr (.inr (some (29, 0)))], sm_pI S0_ 1 0 13 1)) rfl ?_
      refine sm_T_cal (d1 := 0) (Q1 := vq_2b (-1) (sm_pI S0_ 1 0 13 1)) rfl rfl (by decide) (vc_2b (-1) (sm_pI S0_ 1 0 13 1) hIx17_ (by decide)) (fun u_ Sx24_ px27_ => ?_)
      obtain ⟨rfl, hIx25_, hFx26_, px27_⟩ := px27_
      have hFx28_ : ai_fr (sx_W vw_47) S0_ Sx24_ := ai_fr_tr hFx18_ (fr_le hFx26_ rfl)
      have hDx29_ : idf dd_ S0_ Sx24_ := idf_tr hDx19_ (idf_fr hFx26_ (by decide) (by decide))
      have e61_ := px27_
      have w61_ := hFx26_.1 1 0 13 rfl
      simp only [rf_eq] at w61_
      refine sm_T_go 2 (c1 := (67, [some (.inr (.inr (some (1, 0)))), some (.inl ((S0_.1 3 dd_ 1) + (S0_.1 3 dd_ 2))), some (.inr (.inl (l_1 ((l_s0 1 (i_shl 1 ((S0_.1 3 dd_ 1) + (S0_.1 3 dd_ 2))))) 1))), none, some (.inl 0), none, none, none, none, none, none, none, none], [], Sx24_)) rfl ?_
      refine (vl_47 dd_ F_ S0_ hd_ hg_ _).1 ((S0_.1 3 dd_ 1) + (S0_.1 3 dd_ 2)) ((l_1 ((l_s0 1 (i_shl 1 ((S0_.1 3 dd_ 1) + (S0_.1 3 dd_ 2))))) 1)) 0 (Sx24_.1 1 0 13) Sx24_ hIx25_ hFx28_ ⟨?_, ?_, ?_, ?_, ?_, ?_, ?_, trivial⟩ (Nat.lt_succ_self _)
      · omega
      · first | exact mkm | exact mkb (by omega)
      · (have g1_ := hg_.1; have g2_ := hg_.2.1; omega)
      · (intro m9_ hm9_; exact absurd hm9_ (Nat.not_lt_zero _))
      · (intro z9_; exact absurd z9_ (by decide))
      · exact bks_0 (fun j9_ hj9_ => e61_ j9_ hj9_) (fun m9_ hm9_ => absurd hm9_.1 (Nat.not_lt_zero _))
      · exact hDx29_
    · have cx20_ : ¬ ((S0_.1 3 dd_ 1) + (S0_.1 3 dd_ 2) < 6) := of_decide_eq_false cx20_
      refine sm_T_nt (u := some (.inr (.inl (-1)))) (S1 := sm_pI S0_ 1 0 13 1) rfl rfl rfl ?_
      refine sm_T_go 5 (c1 := (61, [some (.inr (.inr (some (1, 0)))), some (.inl ((S0_.1 3 dd_ 1) + (S0_.1 3 dd_ 2))), some (.inr (.inl (-1))), none, none, none, none, none, none, none, none, none, none], [.inl (-1), .inr (.inr (some (29, 0)))], sm_pI S0_ 1 0 13 1)) rfl ?_
      refine sm_T_cal (d1 := 0) (Q1 := vq_2b (-1) (sm_pI S0_ 1 0 13 1)) rfl rfl (by decide) (vc_2b (-1) (sm_pI S0_ 1 0 13 1) hIx17_ (by decide)) (fun u_ Sx30_ px33_ => ?_)
      obtain ⟨rfl, hIx31_, hFx32_, px33_⟩ := px33_
      have hFx34_ : ai_fr (sx_W vw_47) S0_ Sx30_ := ai_fr_tr hFx18_ (fr_le hFx32_ rfl)
      have hDx35_ : idf dd_ S0_ Sx30_ := idf_tr hDx19_ (idf_fr hFx32_ (by decide) (by decide))
      have e61_ := px33_
      have w61_ := hFx32_.1 1 0 13 rfl
      simp only [rf_eq] at w61_
      refine sm_T_go 2 (c1 := (67, [some (.inr (.inr (some (1, 0)))), some (.inl ((S0_.1 3 dd_ 1) + (S0_.1 3 dd_ 2))), some (.inr (.inl (-1))), none, some (.inl 0), none, none, none, none, none, none, none, none], [], Sx30_)) rfl ?_
      refine (vl_47 dd_ F_ S0_ hd_ hg_ _).1 ((S0_.1 3 dd_ 1) + (S0_.1 3 dd_ 2)) (-1) 0 (Sx30_.1 1 0 13) Sx30_ hIx31_ hFx34_ ⟨?_, ?_, ?_, ?_, ?_, ?_, ?_, trivial⟩ (Nat.lt_succ_self _)
      · omega
      · first | exact mkm | exact mkb (by omega)
      · (have g1_ := hg_.1; have g2_ := hg_.2.1; omega)
      · (intro m9_ hm9_; exact absurd hm9_ (Nat.not_lt_zero _))
      · (intro z9_; exact absurd z9_ (by decide))
      · exact bks_0 (fun j9_ hj9_ => e61_ j9_ hj9_) (fun m9_ hm9_ => absurd hm9_.1 (Nat.not_lt_zero _))
      · exact hDx35_
