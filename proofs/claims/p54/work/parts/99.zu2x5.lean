/-! the reference: run, reset; written by wip/p55/gen/vg -/

/-! a_ chip run_ -/
theorem trnq {f_ : Nat → Bool} {x_ b_ k_ : Int} (hk_ : 0 ≤ k_ ∧ k_ ≤ 21) (hx_ : x_ = tbv f_ k_.toNat) (hb_ : b_ = if f_ k_.toNat = true then 1 else 0) : i_or x_ (i_shl b_ k_) = tbv f_ (k_ + 1).toNat := by
  obtain ⟨u_, rfl⟩ : ∃ u_ : Nat, k_ = (u_ : Int) := ⟨k_.toNat, by omega⟩
  rw [Int.toNat_natCast] at hx_ hb_
  rw [hx_, hb_, show ((u_ : Int) + 1).toNat = u_ + 1 by omega]
  exact tbv_or (by omega)
def ora_run (a1_ a2_ : Int) (S_ : sm_S) : Prop := 0 ≤ a1_ ∧ a1_ < 4 ∧ S_.2.2.1 222 0 a1_.toNat = 1
def okr_run (a1_ a2_ : Int) (S_ : sm_S) : Prop := ora_run a1_ a2_ S_ ∧ (0 ≤ a2_ ∧ a2_ < 2 ^ (S_.2.2.1 223 0 a1_.toNat).toNat)
def prunq (a1_ a2_ : Int) (S_ : sm_S) : Nat := (i_or a2_ (i_shl (S_.2.2.1 227 0 a1_.toNat) (S_.2.2.1 223 0 a1_.toNat))).toNat
def rcvq (a1_ : Int) (S_ : sm_S) (q_ : Nat) (u_ : Nat → Bool) : Prop := cvq (S_.2.2.1 223 0 a1_.toNat + S_.2.2.1 224 0 a1_.toNat).toNat (S_.2.2.1 228 0 a1_.toNat).toNat (krT a1_ S_) (krN a1_ S_) (krA a1_ S_) q_ u_
def revq (a1_ : Int) (S_ : sm_S) (u_ : Nat → Bool) (k_ : Nat) : Bool := nev u_ (S_.2.2.1 231 0 (16 * a1_ + (k_ : Int)).toNat)
def rexq (a1_ : Int) (S_ : sm_S) (u_ : Nat → Bool) (k_ : Nat) : Bool := nev u_ (S_.2.2.1 232 0 (6 * a1_ + (k_ : Int)).toNat)
def rruq (a1_ a2_ : Int) (S_ : sm_S) (v_ x_ : Int) : Prop := ∃ u_ : Nat → Bool, rcvq a1_ S_ (prunq a1_ a2_ S_) u_ ∧ v_ = tbv (revq a1_ S_ u_) (S_.2.2.1 225 0 a1_.toNat).toNat ∧ x_ = tbv (rexq a1_ S_ u_) (S_.2.2.1 224 0 a1_.toNat).toNat
def okr_reset (a1_ : Int) (S_ : sm_S) : Prop := 0 ≤ a1_ ∧ a1_ < 4 ∧ S_.2.2.1 222 0 a1_.toNat = 1
/-! M_.run -/
def vw_433t : sx_Wl := ([(13, 0)], [227, 238], [])
def vq_433t (a1_ : Int) (a2_ : Int) (S0_ : sm_S) (u_ : Option sm_V) (S1_ : sm_S) : Prop := ∃ v_ : Int, u_ = some (.inl v_) ∧ gi S1_ ∧ ai_fr (sx_W vw_433t) S0_ S1_ ∧ ((-2147483648 ≤ v_ ∧ v_ ≤ 2147483647) ∧ (jR S1_ ∧ ((S1_.1 13 0 0 = 1 ∧ ¬ ora_run a1_ a2_ S0_ ∧ (∀ j_, S1_.2.2.1 227 0 j_ = S0_.2.2.1 227 0 j_)) ∨ (S1_.1 13 0 0 = 2 ∧ ora_run a1_ a2_ S0_ ∧ ¬ okr_run a1_ a2_ S0_ ∧ (∀ j_, S1_.2.2.1 227 0 j_ = S0_.2.2.1 227 0 j_)) ∨ (S1_.1 13 0 0 = 0 ∧ okr_run a1_ a2_ S0_ ∧ rruq a1_ a2_ S0_ v_ (S1_.2.2.1 227 0 a1_.toNat) ∧ ∀ j_, j_ ≠ a1_.toNat → S1_.2.2.1 227 0 j_ = S0_.2.2.1 227 0 j_))))
set_option maxHeartbeats 1000000 in
set_option maxRecDepth 20000 in
theorem vl_433t {sc_ : Nat × (Nat → Int)} (a1_ : Int) (a2_ : Int) (S0_ : sm_S) (ha1_ : (-2147483648) ≤ a1_ ∧ a1_ ≤ 2147483647) (ha2_ : (-2147483648) ≤ a2_ ∧ a2_ ≤ 2147483647) (hJ_ : jR S0_) : ∀ nn_ : Nat, (∀ (p_ : Int) (ou_ : Int) (nx_ : Int) (k_ : Int) (S_ : sm_S), gi S_ → ai_fr (sx_W vw_433t) S0_ S_ → ((jR S_) ∧ (con a1_ S_) ∧ (S_.1 13 0 0 = 0 ∧ okr_run a1_ a2_ S0_) ∧ (S_.2.2.1 227 0 = S0_.2.2.1 227 0) ∧ (rcvq a1_ S0_ (prunq a1_ a2_ S0_) (fun n_ => lbt (S_.2.2.2 238 0 n_) (p_ % 64).toNat)) ∧ (0 ≤ a1_ ∧ a1_ < 4 ∧ 0 ≤ k_ ∧ k_ ≤ 16 ∧ k_ ≤ S0_.2.2.1 225 0 a1_.toNat ∧ 0 ≤ p_ ∧ 0 ≤ ou_ ∧ ou_ < 65536 ∧ nx_ = 0 ∧ S_.2.2.1 223 0 a1_.toNat + S_.2.2.1 224 0 a1_.toNat ≤ 12) ∧ (ou_ = tbv (revq a1_ S0_ (fun n_ => lbt (S_.2.2.2 238 0 n_) (p_ % 64).toNat)) k_.toNat) ∧ True) → ((1000 - k_).toNat) < nn_ → sm_T (mt_P sc_) 2 433 (80, [some (.inr (.inr (some (13, 0)))), some (.inl a1_), some (.inl a2_), some (.inl p_), some (.inl ou_), some (.inl nx_), some (.inl k_)], [], S_) (fun ro9_ => ∃ u_ S1_, ro9_ = (.inl u_, S1_, 0) ∧ vq_433t a1_ a2_ S0_ u_ S1_)) ∧ (∀ (p_ : Int) (ou_ : Int) (nx_ : Int) (k_ : Int) (S_ : sm_S), gi S_ → ai_fr (sx_W vw_433t) S0_ S_ → ((jR S_) ∧ (con a1_ S_) ∧ (S_.1 13 0 0 = 0 ∧ okr_run a1_ a2_ S0_) ∧ (S_.2.2.1 227 0 = S0_.2.2.1 227 0) ∧ (rcvq a1_ S0_ (prunq a1_ a2_ S0_) (fun n_ => lbt (S_.2.2.2 238 0 n_) (p_ % 64).toNat)) ∧ (0 ≤ a1_ ∧ a1_ < 4 ∧ 0 ≤ k_ ∧ k_ ≤ 6 ∧ k_ ≤ S0_.2.2.1 224 0 a1_.toNat ∧ 0 ≤ p_ ∧ 0 ≤ ou_ ∧ ou_ < 65536 ∧ S_.2.2.1 223 0 a1_.toNat + S_.2.2.1 224 0 a1_.toNat ≤ 12) ∧ (0 ≤ nx_ ∧ nx_ < 2 ^ (S_.2.2.1 224 0 a1_.toNat).toNat) ∧ (ou_ = tbv (revq a1_ S0_ (fun n_ => lbt (S_.2.2.2 238 0 n_) (p_ % 64).toNat)) (S0_.2.2.1 225 0 a1_.toNat).toNat) ∧ (nx_ = tbv (rexq a1_ S0_ (fun n_ => lbt (S_.2.2.2 238 0 n_) (p_ % 64).toNat)) k_.toNat) ∧ True) → ((500 - k_).toNat) < nn_ → sm_T (mt_P sc_) 2 433 (128, [some (.inr (.inr (some (13, 0)))), some (.inl a1_), some (.inl a2_), some (.inl p_), some (.inl ou_), some (.inl nx_), some (.inl k_)], [], S_) (fun ro9_ => ∃ u_ S1_, ro9_ = (.inl u_, S1_, 0) ∧ vq_433t a1_ a2_ S0_ u_ S1_)) := by
  intro nn_
  induction nn_ with
  | zero => exact ⟨fun _ _ _ _ _ _ _ _ h_ => absurd h_ (Nat.not_lt_zero _), fun _ _ _ _ _ _ _ _ h_ => absurd h_ (Nat.not_lt_zero _)⟩
  | succ nn_ ih_ =>
    refine ⟨?_, ?_⟩
    · rintro p_ ou_ nx_ k_ S_ hI_ hF_ ⟨hj_, ho_, hcd_, hnw_, hcv_, h0_, hok_, -⟩ hm_
      have f223_ : S_.2.2.1 223 0 = S0_.2.2.1 223 0 := fr_arr hF_ rfl
      have f224_ : S_.2.2.1 224 0 = S0_.2.2.1 224 0 := fr_arr hF_ rfl
      have f225_ : S_.2.2.1 225 0 = S0_.2.2.1 225 0 := fr_arr hF_ rfl
      have f228_ : S_.2.2.1 228 0 = S0_.2.2.1 228 0 := fr_arr hF_ rfl
      have c9_ : 0 ≤ S_.2.2.1 224 0 a1_.toNat ∧ S_.2.2.1 224 0 a1_.toNat ≤ 6 := hI_.2 224 0 _
      have c8_ : 0 ≤ S_.2.2.1 223 0 a1_.toNat ∧ S_.2.2.1 223 0 a1_.toNat ≤ 12 := hI_.2 223 0 _
      have c7_ : 0 ≤ S_.2.2.1 228 0 a1_.toNat ∧ S_.2.2.1 228 0 a1_.toNat ≤ 150 := hI_.2 228 0 _
      have w4_ := pw_le (n := (S_.2.2.1 224 0 a1_.toNat).toNat) (m := 6) (by omega)
      have w5_ := pw_pos (S_.2.2.1 224 0 a1_.toNat).toNat
      have f231_ : S_.2.2.1 231 0 = S0_.2.2.1 231 0 := fr_arr hF_ rfl
      have f232_ : S_.2.2.1 232 0 = S0_.2.2.1 232 0 := fr_arr hF_ rfl
      have x223_ : S_.2.2.1 223 0 a1_.toNat = S0_.2.2.1 223 0 a1_.toNat := congrFun f223_ _
      have x224_ : S_.2.2.1 224 0 a1_.toNat = S0_.2.2.1 224 0 a1_.toNat := congrFun f224_ _
      have x225_ : S_.2.2.1 225 0 a1_.toNat = S0_.2.2.1 225 0 a1_.toNat := congrFun f225_ _
      refine sm_T_go 4 (c1 := (87, [some (.inr (.inr (some (13, 0)))), some (.inl a1_), some (.inl a2_), some (.inl p_), some (.inl ou_), some (.inl nx_), some (.inl k_)], [.inl a1_, .inr (.inr (some (225, 0))), .inl k_], S_)) rfl ?_
      refine sm_T_iald (n := 4) rfl rfl (by omega) (by omega) ?_
      have bx1_ : 0 ≤ S_.2.2.1 225 0 a1_.toNat ∧ S_.2.2.1 225 0 a1_.toNat ≤ 16 := hI_.2 225 0 _
      refine sm_T_br (a := 3) (z := 37) rfl (fun cx2_ => ?_) (fun cx2_ => ?_)
      · have cx2_ : (S_.2.2.1 225 0 a1_.toNat) ≤ k_ := of_decide_eq_true cx2_
        refine sm_T_go 2 (c1 := (128, [some (.inr (.inr (some (13, 0)))), some (.inl a1_), some (.inl a2_), some (.inl p_), some (.inl ou_), some (.inl nx_), some (.inl 0)], [], S_)) rfl ?_
        refine ih_.2 p_ ou_ nx_ 0 S_ hI_ hF_ ⟨?_, ?_, ?_, ?_, ?_, ?_, ?_, ?_, ?_, trivial⟩ ?_
        · exact hj_
        · exact ho_
        · exact hcd_
        · exact hnw_
        · exact hcv_
        · omega
        · (rw [show nx_ = 0 by omega]; exact ⟨Int.le_refl _, w5_⟩)
        · (rw [show (S0_.2.2.1 225 0 a1_.toNat).toNat = k_.toNat by omega]; exact hok_)
        · (rw [show nx_ = 0 by omega]; rfl)
        · omega
      · have cx2_ : ¬ ((S_.2.2.1 225 0 a1_.toNat) ≤ k_) := of_decide_eq_false cx2_
        have o9_ := ho_.1 k_ (by omega) (by omega)
        refine sm_T_go 6 (c1 := (101, [some (.inr (.inr (some (13, 0)))), some (.inl a1_), some (.inl a2_), some (.inl p_), some (.inl ou_), some (.inl nx_), some (.inl k_)], [.inl a1_, .inl 16, .inr (.inr (some (231, 0))), .inr (.inr (some (13, 0))), .inl ou_], S_)) rfl ?_
        refine sm_T_bin (w := 16 * a1_) rfl (bi_mul (by omega) (by omega) (by omega)) ?_ -- pc_ 101
        refine sm_T_go 1 (c1 := (104, [some (.inr (.inr (some (13, 0)))), some (.inl a1_), some (.inl a2_), some (.inl p_), some (.inl ou_), some (.inl nx_), some (.inl k_)], [.inl k_, .inl (16 * a1_), .inr (.inr (some (231, 0))), .inr (.inr (some (13, 0))), .inl ou_], S_)) rfl ?_
        refine sm_T_bin (w := 16 * a1_ + k_) rfl (bi_add (by omega) (by omega) (by omega)) ?_ -- pc_ 104
        refine sm_T_iald (n := 64) rfl rfl (by omega) (by omega) ?_
        have bx3_ : (-2) ≤ S_.2.2.1 231 0 (16 * a1_ + k_).toNat ∧ S_.2.2.1 231 0 (16 * a1_ + k_).toNat ≤ 9000 := hI_.2 231 0 _
        refine sm_T_go 2 (c1 := (109, [some (.inr (.inr (some (13, 0)))), some (.inl a1_), some (.inl a2_), some (.inl p_), some (.inl ou_), some (.inl nx_), some (.inl k_)], [.inl 63, .inl p_, .inl (S_.2.2.1 231 0 (16 * a1_ + k_).toNat), .inr (.inr (some (13, 0))), .inl ou_], S_)) rfl ?_
        refine sm_T_bin (w := (p_ % 64)) rfl (bi_msk (k := 6) (by decide)) ?_ -- pc_ 109
        refine sm_T_cal (d1 := 0) (Q1 := vq_431n (S_.2.2.1 231 0 (16 * a1_ + k_).toNat) (p_ % 64) S_) rfl rfl (by decide) (vc_431n (S_.2.2.1 231 0 (16 * a1_ + k_).toNat) (p_ % 64) S_ hI_ (by omega) (by omega)) (fun u_ Sx4_ px7_ => ?_)
        obtain ⟨rfl, vx9_, rfl, px7_⟩ := px7_
        have e110_ : vx9_ = 0 ∨ vx9_ = 1 := by (rw [px7_]; split <;> omega)
        have b110_ : vx9_ = if revq a1_ S0_ (fun n_ => lbt (S_.2.2.2 238 0 n_) (p_ % 64).toNat) k_.toNat = true then 1 else 0 := by (have y9_ := px7_; rw [f231_] at y9_; rw [y9_]; unfold revq; rw [show ((k_.toNat : Nat) : Int) = k_ by omega])
        refine sm_T_go 1 (c1 := (115, [some (.inr (.inr (some (13, 0)))), some (.inl a1_), some (.inl a2_), some (.inl p_), some (.inl ou_), some (.inl nx_), some (.inl k_)], [.inl k_, .inl vx9_, .inl ou_], S_)) rfl ?_
        refine sm_T_bin (w := (i_shl vx9_ k_)) rfl rfl ?_ -- pc_ 115
        have bx10_ := bsh (k_ := 16) e110_ (show 0 ≤ k_ by omega) (by omega) (by decide)
        refine sm_T_bin (w := (i_or ou_ (i_shl vx9_ k_))) rfl rfl ?_ -- pc_ 116
        have bx11_ := i_orp (x_ := ou_) (y_ := (i_shl vx9_ k_)) (k_ := 16) (by decide) (by omega) (by omega)
        refine sm_T_go 1 (c1 := (119, [some (.inr (.inr (some (13, 0)))), some (.inl a1_), some (.inl a2_), some (.inl p_), some (.inl (i_or ou_ (i_shl vx9_ k_))), some (.inl nx_), some (.inl k_)], [], S_)) rfl ?_
        refine sm_T_inc (a := 6) (z := 1) (v := k_) (w := k_ + 1) rfl rfl (by omega) (by omega) (by omega) ?_ -- pc_ 119
        refine sm_T_go 1 (c1 := (80, [some (.inr (.inr (some (13, 0)))), some (.inl a1_), some (.inl a2_), some (.inl p_), some (.inl (i_or ou_ (i_shl vx9_ k_))), some (.inl nx_), some (.inl (k_ + 1))], [], S_)) rfl ?_
        refine ih_.1 p_ (i_or ou_ (i_shl vx9_ k_)) nx_ (k_ + 1) S_ hI_ hF_ ⟨?_, ?_, ?_, ?_, ?_, ?_, ?_, trivial⟩ ?_
        · exact hj_
        · exact ho_
        · exact hcd_
        · exact hnw_
        · exact hcv_
        · omega
        · exact trnq ⟨by omega, by omega⟩ hok_ b110_
        · omega
    · rintro p_ ou_ nx_ k_ S_ hI_ hF_ ⟨hj_, ho_, hcd_, hnw_, hcv_, h0_, hn_, hok_, hnx_, -⟩ hm_
      have f223_ : S_.2.2.1 223 0 = S0_.2.2.1 223 0 := fr_arr hF_ rfl
      have f224_ : S_.2.2.1 224 0 = S0_.2.2.1 224 0 := fr_arr hF_ rfl
      have f225_ : S_.2.2.1 225 0 = S0_.2.2.1 225 0 := fr_arr hF_ rfl
      have f228_ : S_.2.2.1 228 0 = S0_.2.2.1 228 0 := fr_arr hF_ rfl
      have c9_ : 0 ≤ S_.2.2.1 224 0 a1_.toNat ∧ S_.2.2.1 224 0 a1_.toNat ≤ 6 := hI_.2 224 0 _
      have c8_ : 0 ≤ S_.2.2.1 223 0 a1_.toNat ∧ S_.2.2.1 223 0 a1_.toNat ≤ 12 := hI_.2 223 0 _
      have c7_ : 0 ≤ S_.2.2.1 228 0 a1_.toNat ∧ S_.2.2.1 228 0 a1_.toNat ≤ 150 := hI_.2 228 0 _
      have w4_ := pw_le (n := (S_.2.2.1 224 0 a1_.toNat).toNat) (m := 6) (by omega)
      have w5_ := pw_pos (S_.2.2.1 224 0 a1_.toNat).toNat
      have f231_ : S_.2.2.1 231 0 = S0_.2.2.1 231 0 := fr_arr hF_ rfl
      have f232_ : S_.2.2.1 232 0 = S0_.2.2.1 232 0 := fr_arr hF_ rfl
      have x223_ : S_.2.2.1 223 0 a1_.toNat = S0_.2.2.1 223 0 a1_.toNat := congrFun f223_ _
      have x224_ : S_.2.2.1 224 0 a1_.toNat = S0_.2.2.1 224 0 a1_.toNat := congrFun f224_ _
      have x225_ : S_.2.2.1 225 0 a1_.toNat = S0_.2.2.1 225 0 a1_.toNat := congrFun f225_ _
      refine sm_T_go 4 (c1 := (135, [some (.inr (.inr (some (13, 0)))), some (.inl a1_), some (.inl a2_), some (.inl p_), some (.inl ou_), some (.inl nx_), some (.inl k_)], [.inl a1_, .inr (.inr (some (224, 0))), .inl k_], S_)) rfl ?_
      refine sm_T_iald (n := 4) rfl rfl (by omega) (by omega) ?_
      have bx1_ : 0 ≤ S_.2.2.1 224 0 a1_.toNat ∧ S_.2.2.1 224 0 a1_.toNat ≤ 6 := hI_.2 224 0 _
      refine sm_T_br (a := 3) (z := 37) rfl (fun cx2_ => ?_) (fun cx2_ => ?_)
      · have cx2_ : (S_.2.2.1 224 0 a1_.toNat) ≤ k_ := of_decide_eq_true cx2_
        refine sm_T_go 4 (c1 := (180, [some (.inr (.inr (some (13, 0)))), some (.inl a1_), some (.inl a2_), some (.inl p_), some (.inl ou_), some (.inl nx_), some (.inl k_)], [.inl nx_, .inl a1_, .inr (.inr (some (227, 0)))], S_)) rfl ?_
        refine sm_T_iast (n := 4) rfl rfl (by omega) (by omega) ?_
        have hIx3_ : gi (sm_aI S_ 227 0 a1_.toNat nx_) := gi_aI hI_ (show 0 ≤ nx_ ∧ nx_ ≤ 63 from ⟨by omega, by omega⟩)
        have hFx4_ : ai_fr (sx_W vw_433t) S0_ (sm_aI S_ 227 0 a1_.toNat nx_) := ai_fr_tr hF_ (ai_fr_aI rfl)
        refine sm_T_go 1 (c1 := (183, [some (.inr (.inr (some (13, 0)))), some (.inl a1_), some (.inl a2_), some (.inl p_), some (.inl ou_), some (.inl nx_), some (.inl k_)], [.inl ou_], sm_aI S_ 227 0 a1_.toNat nx_)) rfl ?_
        refine sm_T_ri rfl ⟨_, _, rfl, _, rfl, hIx3_, hFx4_, ?_⟩
        refine ⟨⟨by omega, by omega⟩, jR_rn hj_ ⟨by omega, by omega⟩ hIx3_ hn_.2, Or.inr (Or.inr ⟨hcd_.1, hcd_.2, ⟨_, hcv_, hok_, ?_⟩, fun j9_ hj9_ => ?_⟩)⟩
        · rw [rd_eq, if_pos rfl, show (S0_.2.2.1 224 0 a1_.toNat).toNat = k_.toNat by omega]; exact hnx_
        · rw [rd_eq, if_neg hj9_]; exact congrFun hnw_ j9_
      · have cx2_ : ¬ ((S_.2.2.1 224 0 a1_.toNat) ≤ k_) := of_decide_eq_false cx2_
        have o9_ := ho_.2 k_ (by omega) (by omega)
        refine sm_T_go 6 (c1 := (149, [some (.inr (.inr (some (13, 0)))), some (.inl a1_), some (.inl a2_), some (.inl p_), some (.inl ou_), some (.inl nx_), some (.inl k_)], [.inl a1_, .inl 6, .inr (.inr (some (232, 0))), .inr (.inr (some (13, 0))), .inl nx_], S_)) rfl ?_
        refine sm_T_bin (w := 6 * a1_) rfl (bi_mul (by omega) (by omega) (by omega)) ?_ -- pc_ 149
        refine sm_T_go 1 (c1 := (152, [some (.inr (.inr (some (13, 0)))), some (.inl a1_), some (.inl a2_), some (.inl p_), some (.inl ou_), some (.inl nx_), some (.inl k_)], [.inl k_, .inl (6 * a1_), .inr (.inr (some (232, 0))), .inr (.inr (some (13, 0))), .inl nx_], S_)) rfl ?_
        refine sm_T_bin (w := 6 * a1_ + k_) rfl (bi_add (by omega) (by omega) (by omega)) ?_ -- pc_ 152
        refine sm_T_iald (n := 24) rfl rfl (by omega) (by omega) ?_
        have bx5_ : (-2) ≤ S_.2.2.1 232 0 (6 * a1_ + k_).toNat ∧ S_.2.2.1 232 0 (6 * a1_ + k_).toNat ≤ 9000 := hI_.2 232 0 _
        refine sm_T_go 2 (c1 := (157, [some (.inr (.inr (some (13, 0)))), some (.inl a1_), some (.inl a2_), some (.inl p_), some (.inl ou_), some (.inl nx_), some (.inl k_)], [.inl 63, .inl p_, .inl (S_.2.2.1 232 0 (6 * a1_ + k_).toNat), .inr (.inr (some (13, 0))), .inl nx_], S_)) rfl ?_
        refine sm_T_bin (w := (p_ % 64)) rfl (bi_msk (k := 6) (by decide)) ?_ -- pc_ 157
        refine sm_T_cal (d1 := 0) (Q1 := vq_431n (S_.2.2.1 232 0 (6 * a1_ + k_).toNat) (p_ % 64) S_) rfl rfl (by decide) (vc_431n (S_.2.2.1 232 0 (6 * a1_ + k_).toNat) (p_ % 64) S_ hI_ (by omega) (by omega)) (fun u_ Sx6_ px9_ => ?_)
        obtain ⟨rfl, vx11_, rfl, px9_⟩ := px9_
        have e158_ : vx11_ = 0 ∨ vx11_ = 1 := by (rw [px9_]; split <;> omega)
        have b158_ : vx11_ = if rexq a1_ S0_ (fun n_ => lbt (S_.2.2.2 238 0 n_) (p_ % 64).toNat) k_.toNat = true then 1 else 0 := by (have y9_ := px9_; rw [f232_] at y9_; rw [y9_]; unfold rexq; rw [show ((k_.toNat : Nat) : Int) = k_ by omega])
        refine sm_T_go 1 (c1 := (163, [some (.inr (.inr (some (13, 0)))), some (.inl a1_), some (.inl a2_), some (.inl p_), some (.inl ou_), some (.inl nx_), some (.inl k_)], [.inl k_, .inl vx11_, .inl nx_], S_)) rfl ?_
        refine sm_T_bin (w := (i_shl vx11_ k_)) rfl rfl ?_ -- pc_ 163
        have bs9_ := bsh (k_ := (S_.2.2.1 224 0 a1_.toNat).toNat) e158_ (show 0 ≤ k_ by omega) (by omega) (by omega)
        refine sm_T_bin (w := (i_or nx_ (i_shl vx11_ k_))) rfl rfl ?_ -- pc_ 164
        have or9_ := i_orp (x_ := nx_) (y_ := (i_shl vx11_ k_)) (k_ := (S_.2.2.1 224 0 a1_.toNat).toNat) (by omega) hn_ bs9_
        refine sm_T_go 1 (c1 := (167, [some (.inr (.inr (some (13, 0)))), some (.inl a1_), some (.inl a2_), some (.inl p_), some (.inl ou_), some (.inl (i_or nx_ (i_shl vx11_ k_))), some (.inl k_)], [], S_)) rfl ?_
        refine sm_T_inc (a := 6) (z := 1) (v := k_) (w := k_ + 1) rfl rfl (by omega) (by omega) (by omega) ?_ -- pc_ 167
        refine sm_T_go 1 (c1 := (128, [some (.inr (.inr (some (13, 0)))), some (.inl a1_), some (.inl a2_), some (.inl p_), some (.inl ou_), some (.inl (i_or nx_ (i_shl vx11_ k_))), some (.inl (k_ + 1))], [], S_)) rfl ?_
        refine ih_.2 p_ ou_ (i_or nx_ (i_shl vx11_ k_)) (k_ + 1) S_ hI_ hF_ ⟨?_, ?_, ?_, ?_, ?_, ?_, ?_, ?_, ?_, trivial⟩ ?_
        · exact hj_
        · exact ho_
        · exact hcd_
        · exact hnw_
        · exact hcv_
        · omega
        · exact or9_
        · exact hok_
        · exact trnq ⟨by omega, by omega⟩ hnx_ b158_
        · omega
set_option maxHeartbeats 1000000 in
set_option maxRecDepth 20000 in
theorem vc_433t {sc_ : Nat × (Nat → Int)} (a1_ : Int) (a2_ : Int) (S0_ : sm_S) (hI_ : gi S0_) (ha1_ : (-2147483648) ≤ a1_ ∧ a1_ ≤ 2147483647) (ha2_ : (-2147483648) ≤ a2_ ∧ a2_ ≤ 2147483647) (hJ_ : jR S0_) : sm_T (mt_P sc_) 2 433 (0, [some (.inr (.inr (some (13, 0)))), some (.inl a1_), some (.inl a2_), none, none, none, none], [], S0_) (fun ro9_ => ∃ u_ S1_, ro9_ = (.inl u_, S1_, 0) ∧ vq_433t a1_ a2_ S0_ u_ S1_) := by
  have hF_ : ai_fr (sx_W vw_433t) S0_ S0_ := ai_fr_rf
  refine sm_T_go 3 (c1 := (3, [some (.inr (.inr (some (13, 0)))), some (.inl a1_), some (.inl a2_), none, none, none, none], [.inl a1_, .inr (.inr (some (13, 0))), .inr (.inr (some (13, 0)))], S0_)) rfl ?_
  refine sm_T_cal (d1 := 0) (Q1 := vq_371 a1_ S0_) rfl rfl (by decide) (vc_371 a1_ S0_ hI_ (by omega)) (fun u_ Sx1_ px4_ => ?_)
  obtain ⟨rfl, vx6_, rfl, px4_⟩ := px4_
  have d3_ := px4_
  refine sm_T_b0 (a := 1) (z := 7) rfl (fun cx7_ => ?_) (fun cx7_ => ?_)
  · have cx7_ : vx6_ ≠ 0 := of_decide_eq_true cx7_
    refine sm_T_go 4 (c1 := (19, [some (.inr (.inr (some (13, 0)))), some (.inl a1_), some (.inl a2_), none, none, none, none], [.inl a1_, .inr (.inr (some (223, 0))), .inl a2_, .inr (.inr (some (13, 0)))], S0_)) rfl ?_
    refine sm_T_iald (n := 4) rfl rfl (by omega) (by omega) ?_
    have bx8_ : 0 ≤ S0_.2.2.1 223 0 a1_.toNat ∧ S0_.2.2.1 223 0 a1_.toNat ≤ 12 := hI_.2 223 0 _
    refine sm_T_cal (d1 := 0) (Q1 := vq_381 a2_ (S0_.2.2.1 223 0 a1_.toNat) S0_) rfl rfl (by decide) (vc_381 a2_ (S0_.2.2.1 223 0 a1_.toNat) S0_ hI_ (by omega) (by omega)) (fun u_ Sx9_ px12_ => ?_)
    obtain ⟨rfl, vx14_, rfl, px12_⟩ := px12_
    refine sm_T_b0 (a := 1) (z := 7) rfl (fun cx15_ => ?_) (fun cx15_ => ?_)
    · have cx15_ : vx14_ ≠ 0 := of_decide_eq_true cx15_
      have K9_ : cRk a1_ S0_ := hJ_.2 a1_ (by omega) (by omega) (by omega)
      obtain ⟨K1_, K2_, K3_, K4_, K5_, K6_, K7_⟩ := K9_
      have cO_ : 0 ≤ S0_.2.2.1 225 0 a1_.toNat := (hI_.2 225 0 _).1
      have cR_ : 0 ≤ S0_.2.2.1 224 0 a1_.toNat := (hI_.2 224 0 _).1
      have cN_ : 0 ≤ S0_.2.2.1 227 0 a1_.toNat ∧ S0_.2.2.1 227 0 a1_.toNat ≤ 63 := hI_.2 227 0 _
      have q9_ := pat_c (s_ := S0_.2.2.1 227 0 a1_.toNat) (i_ := a2_) (R_ := (S0_.2.2.1 224 0 a1_.toNat).toNat) (I_ := (S0_.2.2.1 223 0 a1_.toNat).toNat) (by omega) (by omega) (by omega)
      rw [show (((S0_.2.2.1 223 0 a1_.toNat).toNat : Nat) : Int) = S0_.2.2.1 223 0 a1_.toNat by omega] at q9_
      have w9_ := pw_le (n := (S0_.2.2.1 224 0 a1_.toNat).toNat + (S0_.2.2.1 223 0 a1_.toNat).toNat) (m := 12) (by omega)
      have hIx16_ : gi (sm_pI S0_ 13 0 0 0) := gi_pI hI_ (show 0 ≤ 0 ∧ 0 ≤ 4 from ⟨by omega, by omega⟩)
      have hFx17_ : ai_fr (sx_W vw_433t) S0_ (sm_pI S0_ 13 0 0 0) := ai_fr_tr hF_ (ai_fr_pI rfl)
      refine sm_T_go 9 (c1 := (49, [some (.inr (.inr (some (13, 0)))), some (.inl a1_), some (.inl a2_), none, none, none, none], [.inl a1_, .inr (.inr (some (227, 0))), .inl a2_], sm_pI S0_ 13 0 0 0)) rfl ?_
      refine sm_T_iald (n := 4) rfl rfl (by omega) (by omega) ?_
      have bx18_ : 0 ≤ S0_.2.2.1 227 0 a1_.toNat ∧ S0_.2.2.1 227 0 a1_.toNat ≤ 63 := hI_.2 227 0 _
      refine sm_T_go 3 (c1 := (55, [some (.inr (.inr (some (13, 0)))), some (.inl a1_), some (.inl a2_), none, none, none, none], [.inl a1_, .inr (.inr (some (223, 0))), .inl (S0_.2.2.1 227 0 a1_.toNat), .inl a2_], sm_pI S0_ 13 0 0 0)) rfl ?_
      refine sm_T_iald (n := 4) rfl rfl (by omega) (by omega) ?_
      refine sm_T_go 0 (c1 := (56, [some (.inr (.inr (some (13, 0)))), some (.inl a1_), some (.inl a2_), none, none, none, none], [.inl (S0_.2.2.1 223 0 a1_.toNat), .inl (S0_.2.2.1 227 0 a1_.toNat), .inl a2_], sm_pI S0_ 13 0 0 0)) rfl ?_
      refine sm_T_bin (w := (i_shl (S0_.2.2.1 227 0 a1_.toNat) (S0_.2.2.1 223 0 a1_.toNat))) rfl rfl ?_ -- pc_ 56
      refine sm_T_bin (w := (i_or a2_ (i_shl (S0_.2.2.1 227 0 a1_.toNat) (S0_.2.2.1 223 0 a1_.toNat)))) rfl rfl ?_ -- pc_ 57
      refine sm_T_go 5 (c1 := (64, [some (.inr (.inr (some (13, 0)))), some (.inl a1_), some (.inl a2_), some (.inl (i_or a2_ (i_shl (S0_.2.2.1 227 0 a1_.toNat) (S0_.2.2.1 223 0 a1_.toNat)))), none, none, none], [.inl 6, .inl (i_or a2_ (i_shl (S0_.2.2.1 227 0 a1_.toNat) (S0_.2.2.1 223 0 a1_.toNat))), .inl a1_, .inr (.inr (some (13, 0)))], sm_pI S0_ 13 0 0 0)) rfl ?_
      refine sm_T_bin (w := ((i_or a2_ (i_shl (S0_.2.2.1 227 0 a1_.toNat) (S0_.2.2.1 223 0 a1_.toNat))) / 64)) rfl (bi_shr (k := 6) (by decide) (by omega) (by omega)) ?_ -- pc_ 64
      refine sm_T_go 3 (c1 := (68, [some (.inr (.inr (some (13, 0)))), some (.inl a1_), some (.inl a2_), some (.inl (i_or a2_ (i_shl (S0_.2.2.1 227 0 a1_.toNat) (S0_.2.2.1 223 0 a1_.toNat)))), none, none, none], [.inr (.inl 0), .inl (-1), .inl (-1), .inl ((i_or a2_ (i_shl (S0_.2.2.1 227 0 a1_.toNat) (S0_.2.2.1 223 0 a1_.toNat))) / 64), .inl a1_, .inr (.inr (some (13, 0)))], sm_pI S0_ 13 0 0 0)) rfl ?_
      refine sm_T_cal (d1 := 1) (Q1 := vq_430n a1_ ((i_or a2_ (i_shl (S0_.2.2.1 227 0 a1_.toNat) (S0_.2.2.1 223 0 a1_.toNat))) / 64) (-1) (-1) 0 (sm_pI S0_ 13 0 0 0)) rfl rfl (by decide) (vc_430n a1_ ((i_or a2_ (i_shl (S0_.2.2.1 227 0 a1_.toNat) (S0_.2.2.1 223 0 a1_.toNat))) / 64) (-1) (-1) 0 (sm_pI S0_ 13 0 0 0) hIx16_ (by omega) (by omega) (by exact K1_) (by exact K4_) (by exact ⟨rfl, rfl⟩)) (fun u_ Sx19_ px22_ => ?_)
      obtain ⟨rfl, hIx20_, hFx21_, px22_⟩ := px22_
      have hFx23_ : ai_fr (sx_W vw_433t) S0_ Sx19_ := ai_fr_tr hFx17_ (fr_le hFx21_ rfl)
      have j68_ : jR Sx19_ := jR_fr (S_ := (sm_pI S0_ 13 0 0 0)) hJ_ hIx20_ hFx21_
      have o68_ : con a1_ Sx19_ := con_fr (S_ := (sm_pI S0_ 13 0 0 0)) (by omega) hIx20_ K5_ hFx21_
      have y1_ : Sx19_.2.2.1 223 0 = S0_.2.2.1 223 0 := fr_arr hFx23_ rfl
      have y2_ : Sx19_.2.2.1 224 0 = S0_.2.2.1 224 0 := fr_arr hFx23_ rfl
      have c68_ : Sx19_.1 13 0 0 = 0 := (hFx21_.1 13 0 0 rfl).trans rf_eq
      have n68_ : Sx19_.2.2.1 227 0 = (sm_pI S0_ 13 0 0 0).2.2.1 227 0 := fr_arr (t := 227) (i := 0) hFx21_ rfl
      have v68_ : rcvq a1_ S0_ (prunq a1_ a2_ S0_) (fun n_ => lbt (Sx19_.2.2.2 238 0 n_) (i_or a2_ (i_shl (S0_.2.2.1 227 0 a1_.toNat) (S0_.2.2.1 223 0 a1_.toNat)) % 64).toNat) := by
        have p9_ := px22_ (i_or a2_ (i_shl (S0_.2.2.1 227 0 a1_.toNat) (S0_.2.2.1 223 0 a1_.toNat)) % 64).toNat (by omega)
        rw [show 64 * (i_or a2_ (i_shl (S0_.2.2.1 227 0 a1_.toNat) (S0_.2.2.1 223 0 a1_.toNat)) / 64).toNat + (i_or a2_ (i_shl (S0_.2.2.1 227 0 a1_.toNat) (S0_.2.2.1 223 0 a1_.toNat)) % 64).toNat = prunq a1_ a2_ S0_ by (unfold prunq; omega)] at p9_
        exact p9_
      refine sm_T_go 6 (c1 := (80, [some (.inr (.inr (some (13, 0)))), some (.inl a1_), some (.inl a2_), some (.inl (i_or a2_ (i_shl (S0_.2.2.1 227 0 a1_.toNat) (S0_.2.2.1 223 0 a1_.toNat)))), some (.inl 0), some (.inl 0), some (.inl 0)], [], Sx19_)) rfl ?_
      refine (vl_433t a1_ a2_ S0_ ha1_ ha2_ hJ_ _).1 (i_or a2_ (i_shl (S0_.2.2.1 227 0 a1_.toNat) (S0_.2.2.1 223 0 a1_.toNat))) 0 0 0 Sx19_ hIx20_ hFx23_ ⟨?_, ?_, ?_, ?_, ?_, ?_, ?_, trivial⟩ (Nat.lt_succ_self _)
      · exact j68_
      · exact o68_
      · exact ⟨c68_, by (unfold okr_run ora_run; omega)⟩
      · exact n68_
      · exact v68_
      · (rw [y1_, y2_]; omega)
      · rfl
    · have cx15_ : ¬ (vx14_ ≠ 0) := of_decide_eq_false cx15_
      have hIx24_ : gi (sm_pI S0_ 13 0 0 2) := gi_pI hI_ (show 0 ≤ 2 ∧ 2 ≤ 4 from ⟨by omega, by omega⟩)
      have hFx25_ : ai_fr (sx_W vw_433t) S0_ (sm_pI S0_ 13 0 0 2) := ai_fr_tr hF_ (ai_fr_pI rfl)
      refine sm_T_go 7 (c1 := (42, [some (.inr (.inr (some (13, 0)))), some (.inl a1_), some (.inl a2_), none, none, none, none], [.inl 0], sm_pI S0_ 13 0 0 2)) rfl ?_
      refine sm_T_ri rfl ⟨_, _, rfl, _, rfl, hIx24_, hFx25_, ?_⟩
      first | exact ⟨⟨by omega, by omega⟩, hJ_, Or.inl ⟨rf_eq, by (unfold ora_run; omega), fun j_ => rfl⟩⟩ | exact ⟨⟨by omega, by omega⟩, hJ_, Or.inr (Or.inl ⟨rf_eq, by (unfold ora_run; omega), by (unfold okr_run ora_run; omega), fun j_ => rfl⟩)⟩
  · have cx7_ : ¬ (vx6_ ≠ 0) := of_decide_eq_false cx7_
    have hIx26_ : gi (sm_pI S0_ 13 0 0 1) := gi_pI hI_ (show 0 ≤ 1 ∧ 1 ≤ 4 from ⟨by omega, by omega⟩)
    have hFx27_ : ai_fr (sx_W vw_433t) S0_ (sm_pI S0_ 13 0 0 1) := ai_fr_tr hF_ (ai_fr_pI rfl)
    refine sm_T_go 7 (c1 := (42, [some (.inr (.inr (some (13, 0)))), some (.inl a1_), some (.inl a2_), none, none, none, none], [.inl 0], sm_pI S0_ 13 0 0 1)) rfl ?_
    refine sm_T_ri rfl ⟨_, _, rfl, _, rfl, hIx26_, hFx27_, ?_⟩
    first | exact ⟨⟨by omega, by omega⟩, hJ_, Or.inl ⟨rf_eq, by (unfold ora_run; omega), fun j_ => rfl⟩⟩ | exact ⟨⟨by omega, by omega⟩, hJ_, Or.inr (Or.inl ⟨rf_eq, by (unfold ora_run; omega), by (unfold okr_run ora_run; omega), fun j_ => rfl⟩)⟩
/-! M_.reset -/
def vw_434t : sx_Wl := ([(13, 0)], [227], [])
def vq_434t (a1_ : Int) (S0_ : sm_S) (u_ : Option sm_V) (S1_ : sm_S) : Prop := ∃ v_ : Int, u_ = some (.inl v_) ∧ gi S1_ ∧ ai_fr (sx_W vw_434t) S0_ S1_ ∧ (((-2147483648) ≤ v_ ∧ v_ ≤ 2147483647) ∧ (jR S1_ ∧ ((S1_.1 13 0 0 = 1 ∧ ¬ okr_reset a1_ S0_ ∧ (∀ j_, S1_.2.2.1 227 0 j_ = S0_.2.2.1 227 0 j_)) ∨ (S1_.1 13 0 0 = 0 ∧ okr_reset a1_ S0_ ∧ v_ = S0_.2.2.1 227 0 a1_.toNat ∧ (S1_.2.2.1 227 0 a1_.toNat = S0_.2.2.1 226 0 a1_.toNat ∧ ∀ j_, j_ ≠ a1_.toNat → S1_.2.2.1 227 0 j_ = S0_.2.2.1 227 0 j_)))))
set_option maxHeartbeats 400000 in
set_option maxRecDepth 20000 in
theorem vc_434t {sc_ : Nat × (Nat → Int)} (a1_ : Int) (S0_ : sm_S) (hI_ : gi S0_) (ha1_ : (-2147483648) ≤ a1_ ∧ a1_ ≤ 2147483647) (hJ_ : jR S0_) : sm_T (mt_P sc_) 1 434 (0, [some (.inr (.inr (some (13, 0)))), some (.inl a1_), none], [], S0_) (fun ro9_ => ∃ u_ S1_, ro9_ = (.inl u_, S1_, 0) ∧ vq_434t a1_ S0_ u_ S1_) := by
  have hF_ : ai_fr (sx_W vw_434t) S0_ S0_ := ai_fr_rf
  refine sm_T_go 3 (c1 := (3, [some (.inr (.inr (some (13, 0)))), some (.inl a1_), none], [.inl a1_, .inr (.inr (some (13, 0))), .inr (.inr (some (13, 0)))], S0_)) rfl ?_
  refine sm_T_cal (d1 := 0) (Q1 := vq_371 a1_ S0_) rfl rfl (by decide) (vc_371 a1_ S0_ hI_ (by omega)) (fun u_ Sx1_ px4_ => ?_)
  obtain ⟨rfl, vx6_, rfl, px4_⟩ := px4_
  have d3_ := px4_
  refine sm_T_b0 (a := 0) (z := 7) rfl (fun cx7_ => ?_) (fun cx7_ => ?_)
  · have cx7_ : vx6_ = 0 := of_decide_eq_true cx7_
    have hIx8_ : gi (sm_pI S0_ 13 0 0 1) := gi_pI hI_ (show 0 ≤ 1 ∧ 1 ≤ 4 from ⟨by omega, by omega⟩)
    have hFx9_ : ai_fr (sx_W vw_434t) S0_ (sm_pI S0_ 13 0 0 1) := ai_fr_tr hF_ (ai_fr_pI rfl)
    refine sm_T_go 6 (c1 := (25, [some (.inr (.inr (some (13, 0)))), some (.inl a1_), none], [.inl 0], sm_pI S0_ 13 0 0 1)) rfl ?_
    refine sm_T_ri rfl ⟨_, _, rfl, _, rfl, hIx8_, hFx9_, ?_⟩
    first | exact ⟨⟨by omega, by omega⟩, hJ_, Or.inl ⟨rf_eq, by (unfold okr_reset; omega), fun j_ => rfl⟩⟩ | exact ⟨⟨by omega, by omega⟩, jR_rn (S_ := sm_pI S0_ 13 0 0 0) hJ_ ⟨by omega, by omega⟩ hIx8_ K2_, Or.inr ⟨(show (sm_pI S0_ 13 0 0 0).1 13 0 0 = 0 from rf_eq), by (unfold okr_reset; omega), rfl, ⟨rd_eq.trans (if_pos rfl), fun j9_ hj9_ => rd_eq.trans (if_neg hj9_)⟩⟩⟩
  · have cx7_ : ¬ (vx6_ = 0) := of_decide_eq_false cx7_
    have K9_ : cRk a1_ S0_ := hJ_.2 a1_ (by omega) (by omega) (by omega)
    obtain ⟨K1_, K2_, K3_, K4_, K5_, K6_, K7_⟩ := K9_
    have hIx10_ : gi (sm_pI S0_ 13 0 0 0) := gi_pI hI_ (show 0 ≤ 0 ∧ 0 ≤ 4 from ⟨by omega, by omega⟩)
    have hFx11_ : ai_fr (sx_W vw_434t) S0_ (sm_pI S0_ 13 0 0 0) := ai_fr_tr hF_ (ai_fr_pI rfl)
    refine sm_T_go 9 (c1 := (31, [some (.inr (.inr (some (13, 0)))), some (.inl a1_), none], [.inl a1_, .inr (.inr (some (227, 0)))], sm_pI S0_ 13 0 0 0)) rfl ?_
    refine sm_T_iald (n := 4) rfl rfl (by omega) (by omega) ?_
    have bx12_ : 0 ≤ S0_.2.2.1 227 0 a1_.toNat ∧ S0_.2.2.1 227 0 a1_.toNat ≤ 63 := hI_.2 227 0 _
    refine sm_T_go 7 (c1 := (43, [some (.inr (.inr (some (13, 0)))), some (.inl a1_), some (.inl (S0_.2.2.1 227 0 a1_.toNat))], [.inl a1_, .inr (.inr (some (226, 0))), .inl a1_, .inr (.inr (some (227, 0)))], sm_pI S0_ 13 0 0 0)) rfl ?_
    refine sm_T_iald (n := 4) rfl rfl (by omega) (by omega) ?_
    have bx13_ : 0 ≤ S0_.2.2.1 226 0 a1_.toNat ∧ S0_.2.2.1 226 0 a1_.toNat ≤ 63 := hI_.2 226 0 _
    refine sm_T_go 0 (c1 := (44, [some (.inr (.inr (some (13, 0)))), some (.inl a1_), some (.inl (S0_.2.2.1 227 0 a1_.toNat))], [.inl (S0_.2.2.1 226 0 a1_.toNat), .inl a1_, .inr (.inr (some (227, 0)))], sm_pI S0_ 13 0 0 0)) rfl ?_
    refine sm_T_iast (n := 4) rfl rfl (by omega) (by omega) ?_
    have hIx14_ : gi (sm_aI (sm_pI S0_ 13 0 0 0) 227 0 a1_.toNat (S0_.2.2.1 226 0 a1_.toNat)) := gi_aI hIx10_ (show 0 ≤ (S0_.2.2.1 226 0 a1_.toNat) ∧ (S0_.2.2.1 226 0 a1_.toNat) ≤ 63 from ⟨by omega, by omega⟩)
    have hFx15_ : ai_fr (sx_W vw_434t) S0_ (sm_aI (sm_pI S0_ 13 0 0 0) 227 0 a1_.toNat (S0_.2.2.1 226 0 a1_.toNat)) := ai_fr_tr hFx11_ (ai_fr_aI rfl)
    refine sm_T_go 1 (c1 := (46, [some (.inr (.inr (some (13, 0)))), some (.inl a1_), some (.inl (S0_.2.2.1 227 0 a1_.toNat))], [.inl (S0_.2.2.1 227 0 a1_.toNat)], sm_aI (sm_pI S0_ 13 0 0 0) 227 0 a1_.toNat (S0_.2.2.1 226 0 a1_.toNat))) rfl ?_
    refine sm_T_ri rfl ⟨_, _, rfl, _, rfl, hIx14_, hFx15_, ?_⟩
    first | exact ⟨⟨by omega, by omega⟩, hJ_, Or.inl ⟨rf_eq, by (unfold okr_reset; omega), fun j_ => rfl⟩⟩ | exact ⟨⟨by omega, by omega⟩, jR_rn (S_ := sm_pI S0_ 13 0 0 0) hJ_ ⟨by omega, by omega⟩ hIx14_ K2_, Or.inr ⟨(show (sm_pI S0_ 13 0 0 0).1 13 0 0 = 0 from rf_eq), by (unfold okr_reset; omega), rfl, ⟨rd_eq.trans (if_pos rfl), fun j9_ hj9_ => rd_eq.trans (if_neg hj9_)⟩⟩⟩
