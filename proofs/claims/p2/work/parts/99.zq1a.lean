/-! bytes fed; written by wip/p55/gen/vg -/

/-! bytes fed -/
def fby (x_ e_ : Int) : Int := (vp_nar .byte (Int32.ofInt (i_i2b (i_shr x_ e_)))).toInt
def fdw (a_ b_ c_ d_ e_ : Int) (j_ : Nat) : Int := fby (if j_ < 4 then a_ else if j_ < 8 then b_ else if j_ < 12 then c_ else if j_ < 16 then d_ else e_) (24 - 8 * ((j_ % 4 : Nat) : Int))
def fed (f_ : Nat → Int) (n_ : Nat) (a_ b_ c_ d_ e_ : Int) : Nat → Int := fun k_ => if n_ ≤ k_ ∧ k_ < n_ + 20 then fdw a_ b_ c_ d_ e_ (k_ - n_) else f_ k_
def fd4 (f_ : Nat → Int) (n_ : Nat) (x_ : Int) : Nat → Int := fun k_ => if n_ ≤ k_ ∧ k_ < n_ + 4 then fby x_ (24 - 8 * ((k_ - n_ : Nat) : Int)) else f_ k_
theorem fd4_5 {f_ : Nat → Int} {n_ : Nat} {a_ b_ c_ d_ e_ : Int} : fd4 (fd4 (fd4 (fd4 (fd4 f_ n_ a_) (n_ + 4) b_) (n_ + 8) c_) (n_ + 12) d_) (n_ + 16) e_ = fed f_ n_ a_ b_ c_ d_ e_ := by
  funext k_
  unfold fd4 fed fdw
  by_cases h_ : n_ ≤ k_ ∧ k_ < n_ + 20
  · rw [if_pos h_]
    have hh_ : k_ < n_ + 4 ∨ (n_ + 4 ≤ k_ ∧ k_ < n_ + 8) ∨ (n_ + 8 ≤ k_ ∧ k_ < n_ + 12) ∨ (n_ + 12 ≤ k_ ∧ k_ < n_ + 16) ∨ n_ + 16 ≤ k_ := by omega
    rcases hh_ with z_ | z_ | z_ | z_ | z_
    · rw [if_neg (by omega), if_neg (by omega), if_neg (by omega), if_neg (by omega), if_pos (by omega), if_pos (by omega), show (k_ - n_) % 4 = k_ - n_ by omega]
    · rw [if_neg (by omega), if_neg (by omega), if_neg (by omega), if_pos (by omega), if_neg (by omega), if_pos (by omega), show (k_ - n_) % 4 = k_ - (n_ + 4) by omega]
    · rw [if_neg (by omega), if_neg (by omega), if_pos (by omega), if_neg (by omega), if_neg (by omega), if_pos (by omega), show (k_ - n_) % 4 = k_ - (n_ + 8) by omega]
    · rw [if_neg (by omega), if_pos (by omega), if_neg (by omega), if_neg (by omega), if_neg (by omega), if_pos (by omega), show (k_ - n_) % 4 = k_ - (n_ + 12) by omega]
    · rw [if_pos (by omega), if_neg (by omega), if_neg (by omega), if_neg (by omega), if_neg (by omega), show (k_ - n_) % 4 = k_ - (n_ + 16) by omega]
  · rw [if_neg h_, if_neg (by omega), if_neg (by omega), if_neg (by omega), if_neg (by omega), if_neg (by omega)]
/-! Text.append -/
def vw_185 : sx_Wl := ([(10, 1)], [98], [])
def vq_185 (a1_ : Int) (S0_ : sm_S) (u_ : Option sm_V) (S1_ : sm_S) : Prop := u_ = none ∧ gi S1_ ∧ ai_fr (sx_W vw_185) S0_ S1_ ∧ (S1_.1 10 0 1 = S0_.1 10 0 1 + 4 ∧ S1_.2.2.1 98 0 = fd4 (S0_.2.2.1 98 0) (S0_.1 10 0 1).toNat a1_)
set_option maxHeartbeats 2000000 in
theorem vl_185 {sc_ : Nat × (Nat → Int)} (a1_ : Int) (S0_ : sm_S) (h1_ : S0_.1 10 0 1 ≤ 1276) : ∀ nn_ : Nat, (∀ (i9_ : Int) (S_ : sm_S), gi S_ → ai_fr (sx_W vw_185) S0_ S_ → ((i9_ = 24 - 8 * (S_.1 10 0 1 - S0_.1 10 0 1) ∧ 0 ≤ S_.1 10 0 1 - S0_.1 10 0 1 ∧ S_.1 10 0 1 - S0_.1 10 0 1 ≤ 4) ∧ (∀ k_ : Nat, S_.2.2.1 98 0 k_ = if (S0_.1 10 0 1).toNat ≤ k_ ∧ (k_ : Int) < S_.1 10 0 1 then fby a1_ (24 - 8 * ((k_ - (S0_.1 10 0 1).toNat : Nat) : Int)) else S0_.2.2.1 98 0 k_) ∧ (0 ≤ S0_.1 10 0 1) ∧ True) → ((i9_ + 100).toNat) < nn_ → sm_T (mt_P sc_) 0 185 (3, [some (.inr (.inr (some (10, 0)))), some (.inl a1_), some (.inl i9_)], [], S_) (fun ro9_ => ∃ u_ S1_, ro9_ = (.inl u_, S1_, 0) ∧ vq_185 a1_ S0_ u_ S1_)) := by
  intro nn_
  induction nn_ with
  | zero => exact fun _ _ _ _ _ h_ => absurd h_ (Nat.not_lt_zero _)
  | succ nn_ ih_ =>
    rintro i9_ S_ hI_ hF_ ⟨h0_, hb_, hc0_, -⟩ hm_
    refine sm_T_go 1 (c1 := (4, [some (.inr (.inr (some (10, 0)))), some (.inl a1_), some (.inl i9_)], [.inl i9_], S_)) rfl ?_
    refine sm_T_b0 (a := 2) (z := 41) rfl (fun cx1_ => ?_) (fun cx1_ => ?_)
    · have cx1_ : i9_ < 0 := of_decide_eq_true cx1_
      refine sm_T_rv rfl ⟨_, _, rfl, rfl, hI_, hF_, ?_⟩
      refine ⟨by omega, funext fun k_ => ?_⟩
      rw [hb_ k_]
      unfold fd4
      by_cases y_ : (S0_.1 10 0 1).toNat ≤ k_ ∧ k_ < (S0_.1 10 0 1).toNat + 4
      · rw [if_pos y_, if_pos (by omega)]
      · rw [if_neg y_, if_neg (by omega)]
    · have cx1_ : ¬ (i9_ < 0) := of_decide_eq_false cx1_
      have bx2_ : 0 ≤ S_.1 10 0 1 ∧ S_.1 10 0 1 ≤ 1280 := hI_.1 10 0 1 rfl
      refine sm_T_go 2 (c1 := (11, [some (.inr (.inr (some (10, 0)))), some (.inl a1_), some (.inl i9_)], [.inl (S_.1 10 0 1)], S_)) rfl ?_
      refine sm_T_nt (u := some (.inl 65536)) (S1 := S_) rfl rfl rfl ?_
      refine sm_T_br (a := 3) (z := 26) rfl (fun cx3_ => ?_) (fun cx3_ => ?_)
      · have cx3_ : 65536 ≤ (S_.1 10 0 1) := of_decide_eq_true cx3_
        exfalso; omega
      · have cx3_ : ¬ (65536 ≤ (S_.1 10 0 1)) := of_decide_eq_false cx3_
        refine sm_T_go 6 (c1 := (26, [some (.inr (.inr (some (10, 0)))), some (.inl a1_), some (.inl i9_)], [.inl i9_, .inl a1_, .inl (S_.1 10 0 1), .inr (.inr (some (98, 0)))], S_)) rfl ?_
        refine sm_T_bin (w := (i_shr a1_ i9_)) rfl rfl ?_ -- pc_ 26
        refine sm_T_go 1 (c1 := (28, [some (.inr (.inr (some (10, 0)))), some (.inl a1_), some (.inl i9_)], [.inl (i_i2b (i_shr a1_ i9_)), .inl (S_.1 10 0 1), .inr (.inr (some (98, 0)))], S_)) rfl ?_
        refine sm_T_bast (n := 65536) rfl rfl (by omega) (by omega) ?_
        have bx4_ := ai_nar_b (Int32.ofInt (i_i2b (i_shr a1_ i9_)))
        have hIx5_ : gi (sm_aI S_ 98 0 (S_.1 10 0 1).toNat ((vp_nar .byte (Int32.ofInt (i_i2b (i_shr a1_ i9_)))).toInt)) := gi_aI hI_ (show (-128) ≤ ((vp_nar .byte (Int32.ofInt (i_i2b (i_shr a1_ i9_)))).toInt) ∧ ((vp_nar .byte (Int32.ofInt (i_i2b (i_shr a1_ i9_)))).toInt) ≤ 127 from ⟨by omega, by omega⟩)
        have hFx6_ : ai_fr (sx_W vw_185) S0_ (sm_aI S_ 98 0 (S_.1 10 0 1).toNat ((vp_nar .byte (Int32.ofInt (i_i2b (i_shr a1_ i9_)))).toInt)) := ai_fr_tr hF_ (ai_fr_aI rfl)
        refine sm_T_go 4 (c1 := (35, [some (.inr (.inr (some (10, 0)))), some (.inl a1_), some (.inl i9_)], [.inl 1, .inl (S_.1 10 0 1), .inr (.inr (some (10, 0)))], sm_aI S_ 98 0 (S_.1 10 0 1).toNat ((vp_nar .byte (Int32.ofInt (i_i2b (i_shr a1_ i9_)))).toInt))) rfl ?_
        refine sm_T_bin (w := (S_.1 10 0 1) + 1) rfl (bi_add (by omega) (by omega) (by omega)) ?_ -- pc_ 35
        have hIx7_ : gi (sm_pI (sm_aI S_ 98 0 (S_.1 10 0 1).toNat ((vp_nar .byte (Int32.ofInt (i_i2b (i_shr a1_ i9_)))).toInt)) 10 0 1 ((S_.1 10 0 1) + 1)) := gi_pI hIx5_ (show 0 ≤ (S_.1 10 0 1) + 1 ∧ (S_.1 10 0 1) + 1 ≤ 1280 from ⟨by omega, by omega⟩)
        have hFx8_ : ai_fr (sx_W vw_185) S0_ (sm_pI (sm_aI S_ 98 0 (S_.1 10 0 1).toNat ((vp_nar .byte (Int32.ofInt (i_i2b (i_shr a1_ i9_)))).toInt)) 10 0 1 ((S_.1 10 0 1) + 1)) := ai_fr_tr hFx6_ (ai_fr_pI rfl)
        refine sm_T_go 1 (c1 := (39, [some (.inr (.inr (some (10, 0)))), some (.inl a1_), some (.inl i9_)], [], sm_pI (sm_aI S_ 98 0 (S_.1 10 0 1).toNat ((vp_nar .byte (Int32.ofInt (i_i2b (i_shr a1_ i9_)))).toInt)) 10 0 1 ((S_.1 10 0 1) + 1))) rfl ?_
        refine sm_T_inc (a := 2) (z := (-8)) (v := i9_) (w := i9_ - 8) rfl rfl (by omega) (by omega) (by omega) ?_ -- pc_ 39
        refine sm_T_go 1 (c1 := (3, [some (.inr (.inr (some (10, 0)))), some (.inl a1_), some (.inl (i9_ - 8))], [], sm_pI (sm_aI S_ 98 0 (S_.1 10 0 1).toNat ((vp_nar .byte (Int32.ofInt (i_i2b (i_shr a1_ i9_)))).toInt)) 10 0 1 ((S_.1 10 0 1) + 1))) rfl ?_
        refine ih_ (i9_ - 8) (sm_pI (sm_aI S_ 98 0 (S_.1 10 0 1).toNat ((vp_nar .byte (Int32.ofInt (i_i2b (i_shr a1_ i9_)))).toInt)) 10 0 1 ((S_.1 10 0 1) + 1)) hIx7_ hFx8_ ⟨?_, ?_, ?_, trivial⟩ ?_
        · (rw [rf_eq]; omega)
        · intro k_
          have w9_ := hb_ k_
          rw [rd_fa, rd_eq, rf_eq]
          by_cases y_ : k_ = (S_.1 10 0 1).toNat
          · rw [if_pos y_, if_pos (by omega)]
            unfold fby
            rw [show 24 - 8 * ((k_ - (S0_.1 10 0 1).toNat : Nat) : Int) = i9_ by omega]
          · rw [if_neg y_, w9_]
            by_cases z_ : (S0_.1 10 0 1).toNat ≤ k_ ∧ (k_ : Int) < S_.1 10 0 1
            · rw [if_pos z_, if_pos (by omega)]
            · rw [if_neg z_, if_neg (by omega)]
        · omega
        · omega
set_option maxHeartbeats 2000000 in
theorem vc_185 {sc_ : Nat × (Nat → Int)} (a1_ : Int) (S0_ : sm_S) (hI_ : gi S0_) (h1_ : S0_.1 10 0 1 ≤ 1276) : sm_T (mt_P sc_) 0 185 (0, [some (.inr (.inr (some (10, 0)))), some (.inl a1_), none], [], S0_) (fun ro9_ => ∃ u_ S1_, ro9_ = (.inl u_, S1_, 0) ∧ vq_185 a1_ S0_ u_ S1_) := by
  have hF_ : ai_fr (sx_W vw_185) S0_ S0_ := ai_fr_rf
  have cl_ : 0 ≤ S0_.1 10 0 1 ∧ S0_.1 10 0 1 ≤ 1280 := hI_.1 10 0 1 rfl
  refine sm_T_go 2 (c1 := (3, [some (.inr (.inr (some (10, 0)))), some (.inl a1_), some (.inl 24)], [], S0_)) rfl ?_
  refine (vl_185 a1_ S0_ h1_ _) 24 S0_ hI_ hF_ ⟨?_, ?_, ?_, trivial⟩ (Nat.lt_succ_self _)
  · omega
  · (intro k_; rw [if_neg (by omega)])
  · omega
