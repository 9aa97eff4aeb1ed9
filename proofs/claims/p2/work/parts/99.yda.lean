/-! the reference: inputs of cells; written by wip/p55/gen/vg -/

/-! inputs of_ cells -/
theorem nm_q_2 {b_ : Nat → Int} {n_ p_ a_ c_ : Nat} (h1_ : nm_q b_ n_ a_ p_ = true) (h2_ : nm_q b_ n_ c_ p_ = true) : nm_q b_ n_ a_ c_ = true := by
  rw [nm_q_t] at h1_ h2_ ⊢
  exact ⟨h1_.1.trans h2_.1.symm, fun k_ hk_ => (h1_.2 k_ hk_).trans (h2_.2 k_ (by rw [h2_.1, ← h1_.1]; exact hk_)).symm⟩
def inr_ (b_ : Nat → Int) (n_ T_ K_ : Nat) (f_ : Nat → Nat) (S_ : sm_S) : Prop := S_.1 13 0 80 = (K_ : Int) ∧ K_ ≤ 3 ∧ (∀ j_, j_ < K_ → rtk b_ n_ T_ (S_.2.2.1 177 0 j_) (f_ j_)) ∧ ∀ i_ j_, i_ < j_ → j_ < K_ → nm_q b_ n_ (f_ i_) (f_ j_) = false
theorem fd_u {g_ : Nat → Bool} {k_ : Nat} (h_ : g_ k_ = true) (hu_ : ∀ i_, i_ < k_ → g_ i_ = false) : p_fd g_ (k_ + 1) = (k_ : Int) := by
  have h1_ : p_fd g_ k_ = -1 := by
    by_cases z_ : p_fd g_ k_ = -1
    · exact z_
    · exfalso
      have h2_ := p_fd_b (f_ := g_) k_
      obtain ⟨s_, hs_⟩ : ∃ s_ : Nat, p_fd g_ k_ = (s_ : Int) := ⟨(p_fd g_ k_).toNat, by omega⟩
      have h3_ := p_fd_f hs_
      rw [hu_ s_ h3_.2] at h3_
      exact absurd h3_.1 (by decide)
  rw [p_fd, if_pos h1_, if_pos h_]
theorem fd_n {g_ : Nat → Bool} {k_ : Nat} (h_ : g_ k_ = false) : p_fd g_ (k_ + 1) = p_fd g_ k_ := by
  rw [p_fd]
  split
  · rename_i z_
    rw [if_neg (by rw [h_]; decide), z_]
  · rfl
/-! M_.cellInput -/
def vw_327 : sx_Wl := ([(13, 9), (13, 10), (13, 11)], [138, 139], [])
def vq_327 (b_ : Nat → Int) (n_ : Nat) (T_ : Nat) (mo_ : Int) (p_ : Nat) (i_ : Nat) (gl_ : Nat) (K_ : Nat) (f_ : Nat → Nat) (S0_ : sm_S) (u_ : Option sm_V) (S1_ : sm_S) : Prop := u_ = none ∧ gi S1_ ∧ ai_fr (sx_W vw_327) S0_ S1_ ∧ (rg b_ n_ T_ (pb (p_pl b_ n_ K_ f_ p_) fun r_ => .inr r_.1) S1_ ∧ ∀ r_, p_pl b_ n_ K_ f_ p_ = .inr r_ → ∀ l_ : List Int, l_.length = gl_ → stk (fun j_ => S0_.2.2.1 139 0 (8 * j_)) l_ → stk (fun j_ => S1_.2.2.1 139 0 (8 * j_)) (r_.2.1 :: l_))
set_option maxHeartbeats 1500000 in
theorem vl_327 {sc_ : Nat × (Nat → Int)} (b_ : Nat → Int) (n_ : Nat) (T_ : Nat) (mo_ : Int) (p_ : Nat) (i_ : Nat) (gl_ : Nat) (K_ : Nat) (f_ : Nat → Nat) (S0_ : sm_S) (ht_ : rtab b_ n_ T_ S0_) (hf_ : (S0_.1 13 0 10) = 0) (hi_ : (S0_.1 13 0 9) = (i_ : Int) ∧ rp b_ n_ T_ i_ p_) (hv_ : (S0_.1 13 0 34) = (gl_ : Int) ∧ gl_ ≤ 1000) (hmo_ : (S0_.1 13 0 27) = mo_) (hw_ : (S0_.1 13 0 32) ≤ 800) (hr_ : inr_ b_ n_ T_ K_ f_ S0_) : ∀ nn_ : Nat, (∀ (k_ : Int) (i2_ : Int) (S_ : sm_S), gi S_ → ai_fr (sx_W vw_327) S0_ S_ → ((0 ≤ i2_ ∧ i2_ ≤ (K_ : Int)) ∧ (k_ = p_fd (fun s_ => nm_q b_ n_ (f_ s_) p_) i2_.toNat) ∧ (lx_kd b_ n_ p_ = 1) ∧ (S_ = S0_) ∧ True) → (((K_ : Int) - i2_).toNat) < nn_ → sm_T (mt_P sc_) 3 327 (27, [some (.inr (.inr (some (13, 0)))), some (.inl k_), some (.inl i2_)], [], S_) (fun r_ => ∃ u_ S1_, r_ = (.inl u_, S1_, 0) ∧ vq_327 b_ n_ T_ mo_ p_ i_ gl_ K_ f_ S0_ u_ S1_)) := by
  intro nn_
  induction nn_ with
  | zero => exact fun _ _ _ _ _ _ h_ => absurd h_ (Nat.not_lt_zero _)
  | succ nn_ ih_ =>
    rintro k_ i2_ S_ hI_ hF_ ⟨h0_, h1_, h9_, hS_, -⟩ hm_
    have ht1_ : rtab b_ n_ T_ S_ := by rw [hS_]; exact ht_
    have hx_ : rg b_ n_ T_ (.inr p_) S0_ := ⟨hf_, i_, hi_.1, hi_.2⟩
    have hi9_ := hi_.2.1
    have hT_ := ht_.2.1
    have ra_ := rp_at ht_ hi_.2
    have rk_ := r_st_3 (lx_kd_r hi_.2.2.2.1)
    have e4_ : (S0_.1 13 0 9).toNat = i_ := by omega
    have hK_ : S_.1 13 0 80 = (K_ : Int) := by rw [hS_]; exact hr_.1
    have hK3_ := hr_.2.1
    have fdb_ := p_fd_b (f_ := fun s_ => nm_q b_ n_ (f_ s_) p_) i2_.toNat
    have hat_ : S_.1 13 0 9 = (i_ : Int) := by rw [hS_]; exact hi_.1
    have hvl_ : S_.1 13 0 34 = (gl_ : Int) := by rw [hS_]; exact hv_.1
    have eK_ : ¬ i2_ < (K_ : Int) → i2_.toNat = K_ := fun z_ => by omega
    have bx1_ : 0 ≤ S_.1 13 0 80 ∧ S_.1 13 0 80 ≤ 3 := hI_.1 13 0 80 rfl
    refine sm_T_go 3 (c1 := (32, [some (.inr (.inr (some (13, 0)))), some (.inl k_), some (.inl i2_)], [.inl (S_.1 13 0 80), .inl i2_], S_)) rfl ?_
    refine sm_T_br (a := 3) (z := 32) rfl (fun cx2_ => ?_) (fun cx2_ => ?_)
    · have cx2_ : (S_.1 13 0 80) ≤ i2_ := of_decide_eq_true cx2_
      have eK2_ : i2_.toNat = K_ := by omega
      rw [eK2_] at h1_ fdb_
      refine sm_T_go 2 (c1 := (66, [some (.inr (.inr (some (13, 0)))), some (.inl k_), some (.inl i2_)], [.inl (-1), .inl k_], S_)) rfl ?_
      refine sm_T_br (a := 1) (z := 14) rfl (fun cx3_ => ?_) (fun cx3_ => ?_)
      · have cx3_ : k_ ≠ (-1) := of_decide_eq_true cx3_
        have bx4_ : 0 ≤ S_.1 13 0 34 ∧ S_.1 13 0 34 ≤ 1023 := hI_.1 13 0 34 rfl
        refine sm_T_go 5 (c1 := (90, [some (.inr (.inr (some (13, 0)))), some (.inl k_), some (.inl i2_)], [.inl (S_.1 13 0 34), .inl 8, .inr (.inr (some (139, 0)))], S_)) rfl ?_
        refine sm_T_bin (w := 8 * (S_.1 13 0 34)) rfl (bi_mul (by omega) (by omega) (by omega)) ?_
        refine sm_T_go 1 (c1 := (92, [some (.inr (.inr (some (13, 0)))), some (.inl k_), some (.inl i2_)], [.inl k_, .inl (8 * (S_.1 13 0 34)), .inr (.inr (some (139, 0)))], S_)) rfl ?_
        refine sm_T_b0 (a := 1) (z := 9) rfl (fun cx5_ => ?_) (fun cx5_ => ?_)
        · have cx5_ : k_ ≠ 0 := of_decide_eq_true cx5_
          refine sm_T_go 2 (c1 := (103, [some (.inr (.inr (some (13, 0)))), some (.inl k_), some (.inl i2_)], [.inl 1, .inl k_, .inl (8 * (S_.1 13 0 34)), .inr (.inr (some (139, 0)))], S_)) rfl ?_
          refine sm_T_br (a := 1) (z := 9) rfl (fun cx6_ => ?_) (fun cx6_ => ?_)
          · have cx6_ : k_ ≠ 1 := of_decide_eq_true cx6_
            refine sm_T_go 1 (c1 := (115, [some (.inr (.inr (some (13, 0)))), some (.inl k_), some (.inl i2_)], [.inl 240, .inl (8 * (S_.1 13 0 34)), .inr (.inr (some (139, 0)))], S_)) rfl ?_
            refine sm_T_iast (n := 8192) rfl rfl (by omega) (by omega) ?_
            have hIx7_ : gi (sm_aI S_ 139 0 (8 * (S_.1 13 0 34)).toNat 240) := gi_aI hI_ (show 0 ≤ 240 ∧ 240 ≤ 2047 from ⟨by omega, by omega⟩)
            have hFx8_ : ai_fr (sx_W vw_327) S0_ (sm_aI S_ 139 0 (8 * (S_.1 13 0 34)).toNat 240) := ai_fr_tr hF_ (ai_fr_aI rfl)
            refine sm_T_go 5 (c1 := (125, [some (.inr (.inr (some (13, 0)))), some (.inl k_), some (.inl i2_)], [.inl 1, .inl (S_.1 13 0 34), .inr (.inr (some (138, 0)))], sm_aI S_ 139 0 (8 * (S_.1 13 0 34)).toNat 240)) rfl ?_
            refine sm_T_iast (n := 1024) rfl rfl (by omega) (by omega) ?_
            have hIx9_ : gi (sm_aI (sm_aI S_ 139 0 (8 * (S_.1 13 0 34)).toNat 240) 138 0 (S_.1 13 0 34).toNat 1) := gi_aI hIx7_ (show (-2147483648) ≤ 1 ∧ 1 ≤ 2147483647 from ⟨by omega, by omega⟩)
            have hFx10_ : ai_fr (sx_W vw_327) S0_ (sm_aI (sm_aI S_ 139 0 (8 * (S_.1 13 0 34)).toNat 240) 138 0 (S_.1 13 0 34).toNat 1) := ai_fr_tr hFx8_ (ai_fr_aI rfl)
            refine sm_T_go 1 (c1 := (127, [some (.inr (.inr (some (13, 0)))), some (.inl k_), some (.inl i2_)], [.inr (.inr (some (13, 0)))], sm_aI (sm_aI S_ 139 0 (8 * (S_.1 13 0 34)).toNat 240) 138 0 (S_.1 13 0 34).toNat 1)) rfl ?_
            refine sm_T_cal (d1 := 2) (Q1 := vq_297 b_ n_ T_ (.inr p_) (sm_aI (sm_aI S_ 139 0 (8 * (S_.1 13 0 34)).toNat 240) 138 0 (S_.1 13 0 34).toNat 1)) rfl rfl (by decide) (vc_297 b_ n_ T_ (.inr p_) (sm_aI (sm_aI S_ 139 0 (8 * (S_.1 13 0 34)).toNat 240) 138 0 (S_.1 13 0 34).toNat 1) hIx9_ (by exact rtab_fr ht_ hFx10_ rfl rfl rfl rfl rfl) (by (rw [hS_]; exact hx_)) (by (intro q_ e_; cases e_; omega))) (fun u_ Sx11_ px14_ => ?_)
            obtain ⟨rfl, hIx12_, hFx13_, px14_⟩ := px14_
            have hFx15_ : ai_fr (sx_W vw_327) S0_ Sx11_ := ai_fr_tr hFx10_ (fr_le hFx13_ rfl)
            have g127_ := px14_.1
            rw [pb_r rfl] at g127_
            have l127_ := fr_arr (t := 139) (i := 0) hFx13_ rfl
            refine sm_T_rv rfl ⟨_, _, rfl, rfl, hIx12_, hFx15_, ?_⟩
            subst hS_
            have hp_ : p_pl b_ n_ K_ f_ p_ = pb (p_ad b_ n_ p_) fun q_ => .inr (q_, if p_fd (fun s_ => nm_q b_ n_ (f_ s_) p_) K_ = 0 then 170 else if p_fd (fun s_ => nm_q b_ n_ (f_ s_) p_) K_ = 1 then 204 else 240, []) := by unfold p_pl; rw [if_pos h9_, if_neg (by omega)]
            refine ⟨?_, fun r_ hr_ l_ hl_ hs_ => ?_⟩
            · rw [hp_]
              cases hq_ : p_ad b_ n_ p_ with
              | inl e_ => rw [hq_] at g127_; exact g127_
              | inr q_ => rw [hq_] at g127_; exact g127_
            · rw [hp_] at hr_
              obtain ⟨q_, z1_, z2_⟩ := pb_inr hr_
              cases z2_
              rw [l127_]
              refine stk_8o (stk_8p (by omega) ?_ hs_) (by decide)
              first | (rw [if_pos (by omega)]) | (rw [if_neg (by omega), if_pos (by omega)]) | (rw [if_neg (by omega), if_neg (by omega)])
          · have cx6_ : ¬ (k_ ≠ 1) := of_decide_eq_false cx6_
            refine sm_T_go 2 (c1 := (115, [some (.inr (.inr (some (13, 0)))), some (.inl k_), some (.inl i2_)], [.inl 204, .inl (8 * (S_.1 13 0 34)), .inr (.inr (some (139, 0)))], S_)) rfl ?_
            refine sm_T_iast (n := 8192) rfl rfl (by omega) (by omega) ?_
            have hIx16_ : gi (sm_aI S_ 139 0 (8 * (S_.1 13 0 34)).toNat 204) := gi_aI hI_ (show 0 ≤ 204 ∧ 204 ≤ 2047 from ⟨by omega, by omega⟩)
            have hFx17_ : ai_fr (sx_W vw_327) S0_ (sm_aI S_ 139 0 (8 * (S_.1 13 0 34)).toNat 204) := ai_fr_tr hF_ (ai_fr_aI rfl)
            refine sm_T_go 5 (c1 := (125, [some (.inr (.inr (some (13, 0)))), some (.inl k_), some (.inl i2_)], [.inl 1, .inl (S_.1 13 0 34), .inr (.inr (some (138, 0)))], sm_aI S_ 139 0 (8 * (S_.1 13 0 34)).toNat 204)) rfl ?_
            refine sm_T_iast (n := 1024) rfl rfl (by omega) (by omega) ?_
            have hIx18_ : gi (sm_aI (sm_aI S_ 139 0 (8 * (S_.1 13 0 34)).toNat 204) 138 0 (S_.1 13 0 34).toNat 1) := gi_aI hIx16_ (show (-2147483648) ≤ 1 ∧ 1 ≤ 2147483647 from ⟨by omega, by omega⟩)
            have hFx19_ : ai_fr (sx_W vw_327) S0_ (sm_aI (sm_aI S_ 139 0 (8 * (S_.1 13 0 34)).toNat 204) 138 0 (S_.1 13 0 34).toNat 1) := ai_fr_tr hFx17_ (ai_fr_aI rfl)
            refine sm_T_go 1 (c1 := (127, [some (.inr (.inr (some (13, 0)))), some (.inl k_), some (.inl i2_)], [.inr (.inr (some (13, 0)))], sm_aI (sm_aI S_ 139 0 (8 * (S_.1 13 0 34)).toNat 204) 138 0 (S_.1 13 0 34).toNat 1)) rfl ?_
            refine sm_T_cal (d1 := 2) (Q1 := vq_297 b_ n_ T_ (.inr p_) (sm_aI (sm_aI S_ 139 0 (8 * (S_.1 13 0 34)).toNat 204) 138 0 (S_.1 13 0 34).toNat 1)) rfl rfl (by decide) (vc_297 b_ n_ T_ (.inr p_) (sm_aI (sm_aI S_ 139 0 (8 * (S_.1 13 0 34)).toNat 204) 138 0 (S_.1 13 0 34).toNat 1) hIx18_ (by exact rtab_fr ht_ hFx19_ rfl rfl rfl rfl rfl) (by (rw [hS_]; exact hx_)) (by (intro q_ e_; cases e_; omega))) (fun u_ Sx20_ px23_ => ?_)
            obtain ⟨rfl, hIx21_, hFx22_, px23_⟩ := px23_
            have hFx24_ : ai_fr (sx_W vw_327) S0_ Sx20_ := ai_fr_tr hFx19_ (fr_le hFx22_ rfl)
            have g127_ := px23_.1
            rw [pb_r rfl] at g127_
            have l127_ := fr_arr (t := 139) (i := 0) hFx22_ rfl
            refine sm_T_rv rfl ⟨_, _, rfl, rfl, hIx21_, hFx24_, ?_⟩
            subst hS_
            have hp_ : p_pl b_ n_ K_ f_ p_ = pb (p_ad b_ n_ p_) fun q_ => .inr (q_, if p_fd (fun s_ => nm_q b_ n_ (f_ s_) p_) K_ = 0 then 170 else if p_fd (fun s_ => nm_q b_ n_ (f_ s_) p_) K_ = 1 then 204 else 240, []) := by unfold p_pl; rw [if_pos h9_, if_neg (by omega)]
            refine ⟨?_, fun r_ hr_ l_ hl_ hs_ => ?_⟩
            · rw [hp_]
              cases hq_ : p_ad b_ n_ p_ with
              | inl e_ => rw [hq_] at g127_; exact g127_
              | inr q_ => rw [hq_] at g127_; exact g127_
            · rw [hp_] at hr_
              obtain ⟨q_, z1_, z2_⟩ := pb_inr hr_
              cases z2_
              rw [l127_]
              refine stk_8o (stk_8p (by omega) ?_ hs_) (by decide)
              first | (rw [if_pos (by omega)]) | (rw [if_neg (by omega), if_pos (by omega)]) | (rw [if_neg (by omega), if_neg (by omega)])
        · have cx5_ : ¬ (k_ ≠ 0) := of_decide_eq_false cx5_
          refine sm_T_go 2 (c1 := (115, [some (.inr (.inr (some (13, 0)))), some (.inl k_), some (.inl i2_)], [.inl 170, .inl (8 * (S_.1 13 0 34)), .inr (.inr (some (139, 0)))], S_)) rfl ?_
          refine sm_T_iast (n := 8192) rfl rfl (by omega) (by omega) ?_
          have hIx25_ : gi (sm_aI S_ 139 0 (8 * (S_.1 13 0 34)).toNat 170) := gi_aI hI_ (show 0 ≤ 170 ∧ 170 ≤ 2047 from ⟨by omega, by omega⟩)
          have hFx26_ : ai_fr (sx_W vw_327) S0_ (sm_aI S_ 139 0 (8 * (S_.1 13 0 34)).toNat 170) := ai_fr_tr hF_ (ai_fr_aI rfl)
          refine sm_T_go 5 (c1 := (125, [some (.inr (.inr (some (13, 0)))), some (.inl k_), some (.inl i2_)], [.inl 1, .inl (S_.1 13 0 34), .inr (.inr (some (138, 0)))], sm_aI S_ 139 0 (8 * (S_.1 13 0 34)).toNat 170)) rfl ?_
          refine sm_T_iast (n := 1024) rfl rfl (by omega) (by omega) ?_
          have hIx27_ : gi (sm_aI (sm_aI S_ 139 0 (8 * (S_.1 13 0 34)).toNat 170) 138 0 (S_.1 13 0 34).toNat 1) := gi_aI hIx25_ (show (-2147483648) ≤ 1 ∧ 1 ≤ 2147483647 from ⟨by omega, by omega⟩)
          have hFx28_ : ai_fr (sx_W vw_327) S0_ (sm_aI (sm_aI S_ 139 0 (8 * (S_.1 13 0 34)).toNat 170) 138 0 (S_.1 13 0 34).toNat 1) := ai_fr_tr hFx26_ (ai_fr_aI rfl)
          refine sm_T_go 1 (c1 := (127, [some (.inr (.inr (some (13, 0)))), some (.inl k_), some (.inl i2_)], [.inr (.inr (some (13, 0)))], sm_aI (sm_aI S_ 139 0 (8 * (S_.1 13 0 34)).toNat 170) 138 0 (S_.1 13 0 34).toNat 1)) rfl ?_
          refine sm_T_cal (d1 := 2) (Q1 := vq_297 b_ n_ T_ (.inr p_) (sm_aI (sm_aI S_ 139 0 (8 * (S_.1 13 0 34)).toNat 170) 138 0 (S_.1 13 0 34).toNat 1)) rfl rfl (by decide) (vc_297 b_ n_ T_ (.inr p_) (sm_aI (sm_aI S_ 139 0 (8 * (S_.1 13 0 34)).toNat 170) 138 0 (S_.1 13 0 34).toNat 1) hIx27_ (by exact rtab_fr ht_ hFx28_ rfl rfl rfl rfl rfl) (by (rw [hS_]; exact hx_)) (by (intro q_ e_; cases e_; omega))) (fun u_ Sx29_ px32_ => ?_)
          obtain ⟨rfl, hIx30_, hFx31_, px32_⟩ := px32_
          have hFx33_ : ai_fr (sx_W vw_327) S0_ Sx29_ := ai_fr_tr hFx28_ (fr_le hFx31_ rfl)
          have g127_ := px32_.1
          rw [pb_r rfl] at g127_
          have l127_ := fr_arr (t := 139) (i := 0) hFx31_ rfl
          refine sm_T_rv rfl ⟨_, _, rfl, rfl, hIx30_, hFx33_, ?_⟩
          subst hS_
          have hp_ : p_pl b_ n_ K_ f_ p_ = pb (p_ad b_ n_ p_) fun q_ => .inr (q_, if p_fd (fun s_ => nm_q b_ n_ (f_ s_) p_) K_ = 0 then 170 else if p_fd (fun s_ => nm_q b_ n_ (f_ s_) p_) K_ = 1 then 204 else 240, []) := by unfold p_pl; rw [if_pos h9_, if_neg (by omega)]
          refine ⟨?_, fun r_ hr_ l_ hl_ hs_ => ?_⟩
          · rw [hp_]
            cases hq_ : p_ad b_ n_ p_ with
            | inl e_ => rw [hq_] at g127_; exact g127_
            | inr q_ => rw [hq_] at g127_; exact g127_
          · rw [hp_] at hr_
            obtain ⟨q_, z1_, z2_⟩ := pb_inr hr_
            cases z2_
            rw [l127_]
            refine stk_8o (stk_8p (by omega) ?_ hs_) (by decide)
            first | (rw [if_pos (by omega)]) | (rw [if_neg (by omega), if_pos (by omega)]) | (rw [if_neg (by omega), if_neg (by omega)])
      · have cx3_ : ¬ (k_ ≠ (-1)) := of_decide_eq_false cx3_
        have bx34_ : 0 ≤ S_.1 13 0 9 ∧ S_.1 13 0 9 ≤ 1280 := hI_.1 13 0 9 rfl
        refine sm_T_go 4 (c1 := (76, [some (.inr (.inr (some (13, 0)))), some (.inl k_), some (.inl i2_)], [.inl (S_.1 13 0 9), .inl 11, .inr (.inr (some (13, 0)))], S_)) rfl ?_
        refine sm_T_cal (d1 := 0) (Q1 := vq_293 11 (S_.1 13 0 9) S_) rfl rfl (by decide) (vc_293 11 (S_.1 13 0 9) S_ hI_ (by decide) (by omega)) (fun u_ Sx35_ px38_ => ?_)
        obtain ⟨rfl, hIx36_, hFx37_, px38_⟩ := px38_
        have hFx39_ : ai_fr (sx_W vw_327) S0_ Sx35_ := ai_fr_tr hF_ (fr_le hFx37_ rfl)
        have ex40_ : Sx35_.1 13 0 80 = S_.1 13 0 80 := hFx37_.1 13 0 80 rfl
        have ex41_ : Sx35_.1 13 0 9 = S_.1 13 0 9 := hFx37_.1 13 0 9 rfl
        have e76_ := px38_
        refine sm_T_rv rfl ⟨_, _, rfl, rfl, hIx36_, hFx39_, ?_⟩
        have hp_ : p_pl b_ n_ K_ f_ p_ = .inl (11, p_) := by unfold p_pl; rw [if_pos h9_, if_pos (by omega)]
        refine ⟨?_, fun r_ hr_ => by rw [hp_] at hr_; cases hr_⟩
        rw [hp_]
        rw [hS_] at e76_
        rcases e76_ with z_ | z_
        · exact absurd hf_ z_.1
        · refine ⟨z_.2.1.trans (if_neg ?_), ?_, by show (11 : Int) ≠ 0; decide⟩
          · rw [e4_, ra_.1]; exact rk_.2.2.2.2.2
          · rw [z_.2.2, e4_]; exact ra_.2.1
    · have cx2_ : ¬ ((S_.1 13 0 80) ≤ i2_) := of_decide_eq_false cx2_
      refine sm_T_go 4 (c1 := (41, [some (.inr (.inr (some (13, 0)))), some (.inl k_), some (.inl i2_)], [.inl i2_, .inr (.inr (some (177, 0))), .inr (.inr (some (13, 0)))], S_)) rfl ?_
      refine sm_T_iald (n := 3) rfl rfl (by omega) (by omega) ?_
      have bx42_ : 0 ≤ S_.2.2.1 177 0 i2_.toNat ∧ S_.2.2.1 177 0 i2_.toNat ≤ 1280 := hI_.2 177 0 _
      have bx43_ : 0 ≤ S_.1 13 0 9 ∧ S_.1 13 0 9 ≤ 1280 := hI_.1 13 0 9 rfl
      refine sm_T_go 2 (c1 := (46, [some (.inr (.inr (some (13, 0)))), some (.inl k_), some (.inl i2_)], [.inl (S_.1 13 0 9), .inl (S_.2.2.1 177 0 i2_.toNat), .inr (.inr (some (13, 0)))], S_)) rfl ?_
      refine sm_T_cal (d1 := 0) (Q1 := vq_301 (S_.2.2.1 177 0 i2_.toNat) (S_.1 13 0 9) b_ n_ T_ (f_ i2_.toNat) p_ S_) rfl rfl (by decide) (vc_301 (S_.2.2.1 177 0 i2_.toNat) (S_.1 13 0 9) b_ n_ T_ (f_ i2_.toNat) p_ S_ hI_ (by exact ht1_) (by rw [hS_]; exact hr_.2.2.1 i2_.toNat (by omega)) (by rw [hS_, hi_.1]; exact (rp_rtk ht_ hi_.2 h9_).1)) (fun u_ Sx44_ px47_ => ?_)
      obtain ⟨rfl, vx49_, rfl, px47_⟩ := px47_
      have e46_ := px47_
      refine sm_T_b0 (a := 0) (z := 7) rfl (fun cx50_ => ?_) (fun cx50_ => ?_)
      · have cx50_ : vx49_ = 0 := of_decide_eq_true cx50_
        refine sm_T_go 2 (c1 := (58, [some (.inr (.inr (some (13, 0)))), some (.inl k_), some (.inl i2_)], [], S_)) rfl ?_
        refine sm_T_inc (a := 2) (z := 1) (v := i2_) (w := i2_ + 1) rfl rfl (by omega) (by omega) (by omega) ?_
        refine sm_T_go 1 (c1 := (27, [some (.inr (.inr (some (13, 0)))), some (.inl k_), some (.inl (i2_ + 1))], [], S_)) rfl ?_
        refine ih_ k_ (i2_ + 1) S_ hI_ hF_ ⟨?_, ?_, ?_, ?_, trivial⟩ ?_
        · omega
        · rw [show (i2_ + 1).toNat = i2_.toNat + 1 by omega]
          by_cases g_ : nm_q b_ n_ (f_ i2_.toNat) p_ = true
          · rw [if_pos g_] at e46_
            first | (exfalso; omega) | (rw [fd_u (g_ := fun s_ => nm_q b_ n_ (f_ s_) p_) g_ (fun j_ hj_ => (by by_cases z_ : nm_q b_ n_ (f_ j_) p_ = true; (exact absurd (nm_q_2 z_ g_) (by rw [hr_.2.2.2 j_ i2_.toNat hj_ (by omega)]; decide)); (exact Bool.eq_false_iff.mpr z_)))]; omega)
          · rw [if_neg g_] at e46_
            first | (exfalso; omega) | (rw [fd_n (g_ := fun s_ => nm_q b_ n_ (f_ s_) p_) (Bool.eq_false_iff.mpr g_)]; exact h1_)
        · exact h9_
        · exact hS_
        · omega
      · have cx50_ : ¬ (vx49_ = 0) := of_decide_eq_false cx50_
        refine sm_T_go 3 (c1 := (58, [some (.inr (.inr (some (13, 0)))), some (.inl i2_), some (.inl i2_)], [], S_)) rfl ?_
        refine sm_T_inc (a := 2) (z := 1) (v := i2_) (w := i2_ + 1) rfl rfl (by omega) (by omega) (by omega) ?_
        refine sm_T_go 1 (c1 := (27, [some (.inr (.inr (some (13, 0)))), some (.inl i2_), some (.inl (i2_ + 1))], [], S_)) rfl ?_
        refine ih_ i2_ (i2_ + 1) S_ hI_ hF_ ⟨?_, ?_, ?_, ?_, trivial⟩ ?_
        · omega
        · rw [show (i2_ + 1).toNat = i2_.toNat + 1 by omega]
          by_cases g_ : nm_q b_ n_ (f_ i2_.toNat) p_ = true
          · rw [if_pos g_] at e46_
            first | (exfalso; omega) | (rw [fd_u (g_ := fun s_ => nm_q b_ n_ (f_ s_) p_) g_ (fun j_ hj_ => (by by_cases z_ : nm_q b_ n_ (f_ j_) p_ = true; (exact absurd (nm_q_2 z_ g_) (by rw [hr_.2.2.2 j_ i2_.toNat hj_ (by omega)]; decide)); (exact Bool.eq_false_iff.mpr z_)))]; omega)
          · rw [if_neg g_] at e46_
            first | (exfalso; omega) | (rw [fd_n (g_ := fun s_ => nm_q b_ n_ (f_ s_) p_) (Bool.eq_false_iff.mpr g_)]; exact h1_)
        · exact h9_
        · exact hS_
        · omega
set_option maxHeartbeats 1500000 in
theorem vc_327 {sc_ : Nat × (Nat → Int)} (b_ : Nat → Int) (n_ : Nat) (T_ : Nat) (mo_ : Int) (p_ : Nat) (i_ : Nat) (gl_ : Nat) (K_ : Nat) (f_ : Nat → Nat) (S0_ : sm_S) (hI_ : gi S0_) (ht_ : rtab b_ n_ T_ S0_) (hf_ : (S0_.1 13 0 10) = 0) (hi_ : (S0_.1 13 0 9) = (i_ : Int) ∧ rp b_ n_ T_ i_ p_) (hv_ : (S0_.1 13 0 34) = (gl_ : Int) ∧ gl_ ≤ 1000) (hmo_ : (S0_.1 13 0 27) = mo_) (hw_ : (S0_.1 13 0 32) ≤ 800) (hr_ : inr_ b_ n_ T_ K_ f_ S0_) : sm_T (mt_P sc_) 3 327 (0, [some (.inr (.inr (some (13, 0)))), none, none], [], S0_) (fun r_ => ∃ u_ S1_, r_ = (.inl u_, S1_, 0) ∧ vq_327 b_ n_ T_ mo_ p_ i_ gl_ K_ f_ S0_ u_ S1_) := by
  have hF_ : ai_fr (sx_W vw_327) S0_ S0_ := ai_fr_rf
  have hx_ : rg b_ n_ T_ (.inr p_) S0_ := ⟨hf_, i_, hi_.1, hi_.2⟩
  have hi9_ := hi_.2.1
  have hT_ := ht_.2.1
  have ra_ := rp_at ht_ hi_.2
  have rk_ := r_st_3 (lx_kd_r hi_.2.2.2.1)
  have e4_ : (S0_.1 13 0 9).toNat = i_ := by omega
  have so4_ : S0_.2.2.1 119 0 (S0_.1 13 0 9).toNat = r_st (lx_kd b_ n_ p_) := by rw [e4_]; exact ra_.1
  have bx1_ : 0 ≤ S0_.1 13 0 9 ∧ S0_.1 13 0 9 ≤ 1280 := hI_.1 13 0 9 rfl
  refine sm_T_go 4 (c1 := (8, [some (.inr (.inr (some (13, 0)))), none, none], [.inl (S0_.1 13 0 9), .inr (.inr (some (119, 0)))], S0_)) rfl ?_
  refine sm_T_bald (n := 65537) rfl rfl (by omega) (by omega) ?_
  have bx2_ : (-128) ≤ S0_.2.2.1 119 0 (S0_.1 13 0 9).toNat ∧ S0_.2.2.1 119 0 (S0_.1 13 0 9).toNat ≤ 127 := hI_.2 119 0 _
  refine sm_T_go 1 (c1 := (10, [some (.inr (.inr (some (13, 0)))), none, none], [.inl 1, .inl (S0_.2.2.1 119 0 (S0_.1 13 0 9).toNat)], S0_)) rfl ?_
  refine sm_T_br (a := 0) (z := 13) rfl (fun cx3_ => ?_) (fun cx3_ => ?_)
  · have cx3_ : (S0_.2.2.1 119 0 (S0_.1 13 0 9).toNat) = 1 := of_decide_eq_true cx3_
    refine sm_T_go 4 (c1 := (27, [some (.inr (.inr (some (13, 0)))), some (.inl (-1)), some (.inl 0)], [], S0_)) rfl ?_
    refine (vl_327 b_ n_ T_ mo_ p_ i_ gl_ K_ f_ S0_ ht_ hf_ hi_ hv_ hmo_ hw_ hr_ _) (-1) 0 S0_ hI_ hF_ ⟨?_, ?_, ?_, ?_, trivial⟩ (Nat.lt_succ_self _)
    · (have := hr_.2.1); omega
    · rfl
    · exact rk_.2.1.mp (by omega)
    · rfl
  · have cx3_ : ¬ ((S0_.2.2.1 119 0 (S0_.1 13 0 9).toNat) = 1) := of_decide_eq_false cx3_
    refine sm_T_go 4 (c1 := (19, [some (.inr (.inr (some (13, 0)))), none, none], [.inl (S0_.1 13 0 9), .inl 2, .inr (.inr (some (13, 0)))], S0_)) rfl ?_
    refine sm_T_cal (d1 := 0) (Q1 := vq_293 2 (S0_.1 13 0 9) S0_) rfl rfl (by decide) (vc_293 2 (S0_.1 13 0 9) S0_ hI_ (by decide) (by omega)) (fun u_ Sx4_ px7_ => ?_)
    obtain ⟨rfl, hIx5_, hFx6_, px7_⟩ := px7_
    have hFx8_ : ai_fr (sx_W vw_327) S0_ Sx4_ := ai_fr_tr hF_ (fr_le hFx6_ rfl)
    have ex9_ : Sx4_.1 13 0 9 = S0_.1 13 0 9 := hFx6_.1 13 0 9 rfl
    have e19_ := px7_
    refine sm_T_rv rfl ⟨_, _, rfl, rfl, hIx5_, hFx8_, ?_⟩
    have hp_ : p_pl b_ n_ K_ f_ p_ = .inl (2, p_) := if_neg (fun z_ => by have := rk_.2.1.mpr z_; omega)
    refine ⟨?_, fun r_ hr_ => by rw [hp_] at hr_; cases hr_⟩
    rw [hp_]
    rcases e19_ with z_ | z_
    · exact absurd hf_ z_.1
    · refine ⟨z_.2.1.trans (if_neg ?_), ?_, by show (2 : Int) ≠ 0; decide⟩
      · rw [e4_, ra_.1]; exact rk_.2.2.2.2.2
      · rw [z_.2.2, e4_]; exact ra_.2.1
