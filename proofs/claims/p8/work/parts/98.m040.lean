/-! 99.ztZi -/
section
/-! a chip is built: the class; written by wip/p55/gen/vg -/

/-! building a_ chip -/
theorem bnd_fr {w_ : sx_Wl} {dd_ F_ : Nat} {S_ S'_ : sm_S} (g_ : ai_fr (sx_W w_) S_ S'_) (h2_ : (sx_W w_).1 3 2 = false := by rfl) (h3_ : (sx_W w_).1 3 3 = false := by rfl) (h4_ : (sx_W w_).1 3 4 = false := by rfl) (a2_ : (sx_W w_).2.1 42 = false := by rfl) (a3_ : (sx_W w_).2.1 43 = false := by rfl) (a4_ : (sx_W w_).2.1 44 = false := by rfl) (a5_ : (sx_W w_).2.1 45 = false := by rfl) (a6_ : (sx_W w_).2.1 46 = false := by rfl) : bnd9 dd_ F_ S'_ = bnd9 dd_ F_ S_ ∧ bus dd_ F_ S'_ = bus dd_ F_ S_ := by
  have er : rtv dd_ S'_ = rtv dd_ S_ := by
    funext i_
    unfold rtv
    rw [g_.1 3 dd_ 3 h3_, fr_arr (t := 45) (i := 0 + dd_) g_ a5_, fr_arr (t := 46) (i := 0 + dd_) g_ a6_]
  refine ⟨?_, ?_⟩
  · unfold bnd9
    rw [g_.1 3 dd_ 4 h4_, g_.1 3 dd_ 3 h3_, g_.1 3 dd_ 2 h2_, fr_arr (t := 44) (i := 0 + dd_) g_ a4_, fr_arr (t := 42) (i := 0 + dd_) g_ a2_, fr_arr (t := 43) (i := 0 + dd_) g_ a3_, er]
  · unfold bus
    rw [g_.1 3 dd_ 4 h4_, g_.1 3 dd_ 3 h3_, g_.1 3 dd_ 2 h2_, fr_arr (t := 44) (i := 0 + dd_) g_ a4_, fr_arr (t := 42) (i := 0 + dd_) g_ a2_, fr_arr (t := 43) (i := 0 + dd_) g_ a3_, er]
theorem bvw_cg {ll_ : Nat} {S_ S'_ : sm_S} (h_ : bvw ll_ S_) (f1_ : S'_.1 5 ll_ 1 = S_.1 5 ll_ 1) (e5_ : S'_.2.2.1 55 (0 + ll_) = S_.2.2.1 55 (0 + ll_)) (e6_ : S'_.2.2.1 56 (0 + ll_) = S_.2.2.1 56 (0 + ll_)) (e9_ : S'_.2.2.1 69 0 = S_.2.2.1 69 0) : bvw ll_ S'_ := by
  unfold bvw vwd
  rw [f1_, e5_, e6_, e9_]
  exact h_
/-- what findWays leaves, in the_ state behind -/
theorem cnw_nw {dd_ F_ ll_ n_ : Nat} {f_ : Int} {T_ : Nat → Prop} {S_ S'_ : sm_S} (ht_ : trh (cnn F_ S_) (ccl dd_ S_) (cch dd_ S_) n_ T_) (hf_ : f_ = (F_ : Int)) (h_ : ∃ (m_ : Nat) (Q_ : Nat → List Nat) (TB_ : Nat → Int), (crn (cnn F_ S_) (ccl dd_ S_) (cch dd_ S_) n_ m_).length ≤ m_ / 3 ∧ prm (crn (cnn F_ S_) (ccl dd_ S_) (cch dd_ S_) n_ m_).length Q_ (fun i_ => (crn (cnn F_ S_) (ccl dd_ S_) (cch dd_ S_) n_ m_).getD i_ []) ∧ sor (crn (cnn F_ S_) (ccl dd_ S_) (cch dd_ S_) n_ m_).length Q_ ∧ (∀ i_, i_ < (crn (cnn F_ S_) (ccl dd_ S_) (cch dd_ S_) n_ m_).length → ((2 ≤ (Q_ i_).length ∧ (Q_ i_).length ≤ 3) ∧ Q_ i_ ∈ crn (cnn F_ S_) (ccl dd_ S_) (cch dd_ S_) n_ m_) ∧ tbo (ccl dd_ S_) (cch dd_ S_) (ctl dd_ S_) (ctu dd_ S_) T_ n_ (Q_ i_) (TB_ i_)) ∧ fnc ll_ S'_ (2 * n_) (wbs adc (pcc f_ ll_ S_) (hcf (S_.2.2.1 69 0) TB_ Q_ 0) (car ll_ S_) (cip ll_ S_) Q_ (crn (cnn F_ S_) (ccl dd_ S_) (cch dd_ S_) n_ m_).length (S_.1 5 ll_ 1).toNat 268435456) (wbs adc (pcc f_ ll_ S_) (hcf (S_.2.2.1 69 0) TB_ Q_ 1) (car ll_ S_) (cip ll_ S_) Q_ (crn (cnn F_ S_) (ccl dd_ S_) (cch dd_ S_) n_ m_).length (S_.1 5 ll_ 1).toNat 268435456) ∧ fnc ll_ S'_ (2 * n_ + 1) (wbs adc (pcc f_ ll_ S_) (hcf (S_.2.2.1 69 0) TB_ Q_ 1) (car ll_ S_) (cip ll_ S_) Q_ (crn (cnn F_ S_) (ccl dd_ S_) (cch dd_ S_) n_ m_).length (S_.1 5 ll_ 1).toNat 268435456) (wbs adc (pcc f_ ll_ S_) (hcf (S_.2.2.1 69 0) TB_ Q_ 0) (car ll_ S_) (cip ll_ S_) Q_ (crn (cnn F_ S_) (ccl dd_ S_) (cch dd_ S_) n_ m_).length (S_.1 5 ll_ 1).toNat 268435456)) (e42_ : S'_.2.2.1 42 (0 + dd_) = S_.2.2.1 42 (0 + dd_)) (e43_ : S'_.2.2.1 43 (0 + dd_) = S_.2.2.1 43 (0 + dd_)) (e44_ : S'_.2.2.1 44 (0 + dd_) = S_.2.2.1 44 (0 + dd_)) (e60_ : S'_.2.2.1 60 0 = S_.2.2.1 60 0) (e69_ : S'_.2.2.1 69 0 = S_.2.2.1 69 0) (e55_ : S'_.2.2.1 55 (0 + ll_) = S_.2.2.1 55 (0 + ll_)) (e57_ : S'_.2.2.1 57 (0 + ll_) = S_.2.2.1 57 (0 + ll_)) (f1_ : S'_.1 5 ll_ 1 = S_.1 5 ll_ 1) (f2_ : S'_.1 5 ll_ 2 = S_.1 5 ll_ 2) (e61_ : ∀ j_, j_ < 2 * n_ → S'_.2.2.1 61 0 j_ = S_.2.2.1 61 0 j_) : cnw dd_ F_ ll_ T_ S'_ n_ := by
  have es_ : srp dd_ S'_ = srp dd_ S_ := by
    funext l_
    unfold srp
    rw [e44_]
  have el_ : slt dd_ S'_ = slt dd_ S_ := by
    funext l_
    unfold slt
    rw [e44_]
  have a1_ : cnn F_ S'_ = cnn F_ S_ := by
    funext y_
    unfold cnn
    rw [e60_]
  have a2_ : ccl dd_ S'_ = ccl dd_ S_ := by
    funext y_
    unfold ccl
    rw [es_, e42_]
  have a3_ : cch dd_ S'_ = cch dd_ S_ := by
    funext y_
    unfold cch
    rw [es_, e43_]
  have a4_ : ctl dd_ S'_ = ctl dd_ S_ := by
    funext y_
    unfold ctl
    rw [el_, e42_]
  have a5_ : ctu dd_ S'_ = ctu dd_ S_ := by
    funext y_
    unfold ctu
    rw [el_, e43_]
  have a6_ : car ll_ S'_ = car ll_ S_ := by
    funext y_
    unfold car
    rw [e57_]
  have a7_ : cip ll_ S'_ = cip ll_ S_ := by
    funext y_
    unfold cip
    rw [e55_]
  rw [hf_] at h_
  obtain ⟨m_, Q_, TB_, h1_, h2_, h3_, h4_, h5_, h6_⟩ := h_
  unfold cnw
  rw [a1_, a2_, a3_, a4_, a5_, a6_, a7_, e69_, f1_]
  have pw_ : ∀ t_ : Nat, wbs adc (pcc (F_ : Int) ll_ S'_) (hcf (S_.2.2.1 69 0) TB_ Q_ t_) (car ll_ S_) (cip ll_ S_) Q_ (crn (cnn F_ S_) (ccl dd_ S_) (cch dd_ S_) n_ m_).length (S_.1 5 ll_ 1).toNat 268435456 = wbs adc (pcc (F_ : Int) ll_ S_) (hcf (S_.2.2.1 69 0) TB_ Q_ t_) (car ll_ S_) (cip ll_ S_) Q_ (crn (cnn F_ S_) (ccl dd_ S_) (cch dd_ S_) n_ m_).length (S_.1 5 ll_ 1).toNat 268435456 := fun t_ => wbs_cg (fun i_ hi_ => (h4_ i_ hi_).1.1) (fun i_ hi_ y_ t_ hy_ t0_ t1_ => pcc_cg (n_ := (n_ : Int)) ⟨by omega, by
      have := (cut_n ht_ (h4_ i_ hi_).1.2 hy_).1
      omega⟩ ⟨t0_, t1_⟩ e60_ (fun j_ hj_ => e61_ j_ (by omega)) f2_ e57_)
  exact ⟨m_, Q_, TB_, h1_, h2_, h3_, h4_, by rw [pw_ 0, pw_ 1]; exact h5_, by rw [pw_ 0, pw_ 1]; exact h6_⟩
/-- the_ library stays when a_ chip of_ another number is_ changed -/
theorem cdf_l {cc_ ll_ : Nat} {S0_ S_ S'_ : sm_S} (c_ : cdf cc_ S0_ S_) (c'_ : cdf cc_ S0_ S'_) (hl_ : ll_ < 3) : (∀ k_, S'_.1 5 ll_ k_ = S_.1 5 ll_ k_) ∧ S'_.2.2.1 55 (0 + ll_) = S_.2.2.1 55 (0 + ll_) ∧ S'_.2.2.1 56 (0 + ll_) = S_.2.2.1 56 (0 + ll_) ∧ S'_.2.2.1 57 (0 + ll_) = S_.2.2.1 57 (0 + ll_) ∧ S'_.2.2.1 58 (0 + ll_) = S_.2.2.1 58 (0 + ll_) := by
  have q5_ : ll_ ≠ cof 5 + cc_ := by
    rw [show cof 5 = 3 from rfl]
    omega
  have q55_ : 0 + ll_ ≠ cof 55 + cc_ := by
    rw [show cof 55 = 3 from rfl]
    omega
  have q56_ : 0 + ll_ ≠ cof 56 + cc_ := by
    rw [show cof 56 = 3 from rfl]
    omega
  have q57_ : 0 + ll_ ≠ cof 57 + cc_ := by
    rw [show cof 57 = 3 from rfl]
    omega
  have q58_ : 0 + ll_ ≠ cof 58 + cc_ := by
    rw [show cof 58 = 3 from rfl]
    omega
  exact ⟨fun k_ => ((c'_ 5 rfl ll_ q5_).1 k_).trans ((c_ 5 rfl ll_ q5_).1 k_).symm, ((c'_ 55 rfl _ q55_).2).trans (c_ 55 rfl _ q55_).2.symm, ((c'_ 56 rfl _ q56_).2).trans (c_ 56 rfl _ q56_).2.symm, ((c'_ 57 rfl _ q57_).2).trans (c_ 57 rfl _ q57_).2.symm, ((c'_ 58 rfl _ q58_).2).trans (c_ 58 rfl _ q58_).2.symm⟩
/-- all_ ways are_ found; all_ roots can_ be_ made -/
def ball (dd_ F_ ll_ : Nat) (S_ : sm_S) : Prop := (∀ x_, btn dd_ F_ S_ x_ → cnw dd_ F_ ll_ (btn dd_ F_ S_) S_ x_) ∧ ∀ x_, btn dd_ F_ S_ x_ → S_.2.2.1 60 0 x_ ≠ 0 → S_.2.2.1 61 0 (2 * x_) < 268435456
theorem ball_cg {dd_ F_ ll_ : Nat} {S_ S'_ : sm_S} (hb_ : bcm dd_ F_ S_) (h_ : ball dd_ F_ ll_ S_) (hb'_ : bcm dd_ F_ S'_ ∧ btn dd_ F_ S'_ = btn dd_ F_ S_ ∧ cnn F_ S'_ = cnn F_ S_ ∧ ccl dd_ S'_ = ccl dd_ S_ ∧ cch dd_ S'_ = cch dd_ S_) (e42_ : S'_.2.2.1 42 (0 + dd_) = S_.2.2.1 42 (0 + dd_)) (e43_ : S'_.2.2.1 43 (0 + dd_) = S_.2.2.1 43 (0 + dd_)) (e44_ : S'_.2.2.1 44 (0 + dd_) = S_.2.2.1 44 (0 + dd_)) (e60_ : S'_.2.2.1 60 0 = S_.2.2.1 60 0) (e69_ : S'_.2.2.1 69 0 = S_.2.2.1 69 0) (e55_ : S'_.2.2.1 55 (0 + ll_) = S_.2.2.1 55 (0 + ll_)) (e57_ : S'_.2.2.1 57 (0 + ll_) = S_.2.2.1 57 (0 + ll_)) (f1_ : S'_.1 5 ll_ 1 = S_.1 5 ll_ 1) (f2_ : S'_.1 5 ll_ 2 = S_.1 5 ll_ 2) (e61_ : S'_.2.2.1 61 0 = S_.2.2.1 61 0) (e62_ : S'_.2.2.1 62 0 = S_.2.2.1 62 0) (e63_ : S'_.2.2.1 63 0 = S_.2.2.1 63 0) (e64_ : S'_.2.2.1 64 0 = S_.2.2.1 64 0) (c55_ : ∀ k_, S_.2.2.1 55 (0 + ll_) k_ ≤ 3) : ball dd_ F_ ll_ S'_ := by
  unfold ball
  rw [hb'_.2.1, e60_, e61_]
  refine ⟨fun x_ hx_ => ?_, h_.2⟩
  exact cnw_cg (hb_.2.2 x_ hx_).1 (h_.1 x_ hx_) e42_ e43_ e44_ e60_ e69_ e55_ e57_ f1_ f2_ (fun j_ _ => by rw [e61_]) (fun j_ _ _ => by rw [e62_, e63_]; exact ⟨rfl, rfl⟩) (fun j_ _ _ => by rw [e64_]) c55_

/-! Mapper.build -/
def vw_91n : sx_Wl := ([(0, 1), (0, 11), (0, 16), (2, 1), (2, 2), (2, 3), (2, 4), (2, 5), (2, 8), (2, 14), (2, 15), (2, 19), (4, 0), (5, 1), (5, 2), (6, 11), (6, 13)], [16, 17, 18, 19, 20, 21, 35, 36, 37, 38, 39, 55, 56, 57, 58, 59, 60, 61, 62, 63, 64, 65, 66, 67, 68, 69, 70, 71, 72, 73], [(6, 0), (6, 1)])
def vq_91n (dd_ : Nat) (ll_ : Nat) (cc_ : Nat) (F_ : Nat) (S0_ : sm_S) (u_ : Option sm_V) (S1_ : sm_S) : Prop := ∃ v_ : Int, u_ = some (.inl v_) ∧ gi S1_ ∧ ai_fr (sx_W vw_91n) S0_ S1_ ∧ (cdf cc_ S0_ S1_ ∧ (((v_ = 0 ∧ (S1_.1 2 cc_ 1 = S0_.1 3 dd_ 1 ∧ S1_.1 2 cc_ 2 = S0_.1 3 dd_ 2 ∧ S1_.1 2 cc_ 3 = S0_.1 3 dd_ 3 ∧ S1_.1 2 cc_ 4 = S0_.1 3 dd_ 5 ∧ S1_.1 2 cc_ 5 = S0_.1 3 dd_ 5) ∧ bpn (0 + cc_) S1_ ∧ bpp (0 + cc_) cc_ S1_ ∧ S1_.1 0 (0 + cc_) 1 = 0 ∧ S1_.1 0 (0 + cc_) 11 = 0 ∧ S1_.1 4 (0 + (0 + cc_)) 0 = 0) ∨ v_ = -1 ∨ v_ = -2) ∧ imq (v_ = 0) (clc cc_ ll_ S1_ S1_) ∧ bcm dd_ F_ S1_ ∧ bvw ll_ S1_ ∧ ((v_ = -1 ∧ ((∃ n_ : Nat, btn dd_ F_ S1_ n_ ∧ S1_.2.2.1 60 0 n_ ≠ 0 ∧ 268435456 ≤ S1_.2.2.1 61 0 (2 * n_) ∧ ∀ x_, btn dd_ F_ S1_ x_ → x_ ≤ n_ → cnw dd_ F_ ll_ (btn dd_ F_ S1_) S1_ x_) ∨ (ball dd_ F_ ll_ S1_ ∧ S1_.1 5 ll_ 2 = -1 ∧ ∃ i_ : Int, 0 ≤ i_ ∧ i_ < S0_.1 3 dd_ 3 + S0_.1 3 dd_ 2 ∧ 1 < slv dd_ S1_ i_ ∧ slv dd_ S1_ i_ % 2 = 1))) ∨ (v_ ≠ -1 ∧ ball dd_ F_ ll_ S1_ ∧ (S1_.1 5 ll_ 2 ≠ -1 ∨ ∀ i_ : Int, 0 ≤ i_ → i_ < S0_.1 3 dd_ 3 + S0_.1 3 dd_ 2 → slv dd_ S1_ i_ ≤ 1 ∨ slv dd_ S1_ i_ % 2 = 0) ∧ ∃ M_ : Nat → Int, inm (F_ : Int) M_ ∧ ((v_ = -2 ∧ 150 < (rtq (cpn ll_ S1_) (cpv (F_ : Int) S1_) (cgc ll_ S1_) ((F_ : Int) - 1) (fun j_ => slv dd_ S1_ (j_ : Int)) (S0_.1 3 dd_ 3 + S0_.1 3 dd_ 2).toNat (M_, [])).2.length) ∨ (v_ = 0 ∧ ∃ g9_ : List (Int × List Int), cgz cc_ S1_ g9_ ∧ (S1_.2.2.1 72 0, g9_) = rtq (cpn ll_ S1_) (cpv (F_ : Int) S1_) (cgc ll_ S1_) ((F_ : Int) - 1) (fun j_ => slv dd_ S1_ (j_ : Int)) (S0_.1 3 dd_ 3 + S0_.1 3 dd_ 2).toNat (M_, []) ∧ ∀ j_ : Nat, j_ < (S0_.1 3 dd_ 3 + S0_.1 3 dd_ 2).toNat → (if (j_ : Int) < S0_.1 3 dd_ 3 then S1_.2.2.1 37 (0 + cc_) j_ else S1_.2.2.1 38 (0 + cc_) (j_ - (S0_.1 3 dd_ 3).toNat)) = ntq (fun j_ => slv dd_ S1_ (j_ : Int)) (S1_.2.2.1 72 0) j_))))))
set_option maxHeartbeats 4000000 in
theorem vl_91n {sc_ : Nat × (Nat → Int)} (dd_ : Nat) (ll_ : Nat) (cc_ : Nat) (F_ : Nat) (S0_ : sm_S) (hsw : swd F_ (S0_.1 3 dd_ 4).toNat (S0_.2.2.1 42 (0 + dd_)) (S0_.2.2.1 43 (0 + dd_)) (S0_.2.2.1 44 (0 + dd_))) (hok_ : dOk dd_ S0_) (hg_ : dgr dd_ F_ S0_) (hr_ : drt dd_ S0_) (hs_ : swp dd_ F_ S0_) (hl_ : ll_ < 3) : ∀ nn_ : Nat, (∀ (n_ : Int) (S_ : sm_S), gi S_ → ai_fr (sx_W vw_91n) S0_ S_ → (((F_ : Int) ≤ n_ ∧ n_ ≤ S0_.1 3 dd_ 4) ∧ (S_.2.1 6 0 0 = some dd_) ∧ (S_.2.1 6 0 1 = some ll_) ∧ (mkd dd_ F_ S_ (S_.2.2.1 59 0)) ∧ (rtm dd_ S_) ∧ (wal (1 + S0_.1 3 dd_ 1 + S0_.1 3 dd_ 2) n_ ll_ S_) ∧ (bcm dd_ F_ S_) ∧ (bvw ll_ S_) ∧ (∀ x_ : Nat, btn dd_ F_ S_ x_ → (x_ : Int) < n_ → cnw dd_ F_ ll_ (btn dd_ F_ S_) S_ x_ ∧ (S_.2.2.1 60 0 x_ ≠ 0 → S_.2.2.1 61 0 (2 * x_) < 268435456)) ∧ (cdf cc_ S0_ S_) ∧ True) → ((9000 - n_).toNat) < nn_ → sm_T (mt_P sc_) 6 91 (39, [some (.inr (.inr (some (6, 0)))), some (.inr (.inr (some (3, dd_)))), some (.inr (.inr (some (5, ll_)))), some (.inr (.inr (some (2, cc_)))), some (.inl n_)], [], S_) (fun ro9_ => ∃ u_ S1_, ro9_ = (.inl u_, S1_, 0) ∧ vq_91n dd_ ll_ cc_ F_ S0_ u_ S1_)) := by
  intro nn_
  induction nn_ with
  | zero => exact fun _ _ _ _ _ h_ => absurd h_ (Nat.not_lt_zero _)
  | succ nn_ ih_ =>
    rintro n_ S_ hI_ hF_ ⟨h0_, htk_, htk2_, hk_, hrr_, hwl_, hbc_, hvw_, hcn_, hC_, -⟩ hm_
    have f1_ : S_.1 3 dd_ 1 = S0_.1 3 dd_ 1 := hF_.1 3 dd_ 1 rfl
    have f2_ : S_.1 3 dd_ 2 = S0_.1 3 dd_ 2 := hF_.1 3 dd_ 2 rfl
    have f3_ : S_.1 3 dd_ 3 = S0_.1 3 dd_ 3 := hF_.1 3 dd_ 3 rfl
    have f4_ : S_.1 3 dd_ 4 = S0_.1 3 dd_ 4 := hF_.1 3 dd_ 4 rfl
    have f6_ : S_.1 3 dd_ 5 = S0_.1 3 dd_ 5 := hF_.1 3 dd_ 5 rfl
    have g1_ := hg_.1
    have g2_ := hg_.2.1
    have cN_ : 0 ≤ S_.1 3 dd_ 4 ∧ S_.1 3 dd_ 4 ≤ 1013 := hI_.1 3 dd_ 4 rfl
    refine sm_T_go 2 (c1 := (42, [some (.inr (.inr (some (6, 0)))), some (.inr (.inr (some (3, dd_)))), some (.inr (.inr (some (5, ll_)))), some (.inr (.inr (some (2, cc_)))), some (.inl n_)], [.inr (.inr (some (6, 0))), .inl n_], S_)) rfl ?_
    refine sm_T_gr rfl rfl htk_ ?_
    have bx1_ : 0 ≤ S_.1 3 dd_ 4 ∧ S_.1 3 dd_ 4 ≤ 1013 := hI_.1 3 dd_ 4 rfl
    refine sm_T_go 1 (c1 := (48, [some (.inr (.inr (some (6, 0)))), some (.inr (.inr (some (3, dd_)))), some (.inr (.inr (some (5, ll_)))), some (.inr (.inr (some (2, cc_)))), some (.inl n_)], [.inl (S_.1 3 dd_ 4), .inl n_], S_)) rfl ?_
    refine sm_T_br (a := 3) (z := 51) rfl (fun cx2_ => ?_) (fun cx2_ => ?_)
    · have cx2_ : (S_.1 3 dd_ 4) ≤ n_ := of_decide_eq_true cx2_
      have A9_ : ball dd_ F_ ll_ S_ := ⟨fun x_ hx_ => (hcn_ x_ hx_ (by (have z9_ := hx_.2.1; omega))).1, fun x_ hx_ => (hcn_ x_ hx_ (by (have z9_ := hx_.2.1; omega))).2⟩
      have W9_ : wal (1 + S0_.1 3 dd_ 1 + S0_.1 3 dd_ 2) (S_.1 3 dd_ 4) ll_ S_ := by (rw [f4_, show S0_.1 3 dd_ 4 = n_ by omega]; exact hwl_)
      refine sm_T_go 1 (c1 := (100, [some (.inr (.inr (some (6, 0)))), some (.inr (.inr (some (3, dd_)))), some (.inr (.inr (some (5, ll_)))), some (.inr (.inr (some (2, cc_)))), some (.inl n_)], [.inr (.inr (some (6, 0)))], S_)) rfl ?_
      refine sm_T_gr rfl rfl htk2_ ?_
      have bx3_ : (-1) ≤ S_.1 5 ll_ 2 ∧ S_.1 5 ll_ 2 ≤ 11 := hI_.1 5 ll_ 2 rfl
      refine sm_T_go 2 (c1 := (107, [some (.inr (.inr (some (6, 0)))), some (.inr (.inr (some (3, dd_)))), some (.inr (.inr (some (5, ll_)))), some (.inr (.inr (some (2, cc_)))), some (.inl n_)], [.inl (-1), .inl (S_.1 5 ll_ 2)], S_)) rfl ?_
      refine sm_T_br (a := 1) (z := 12) rfl (fun cx4_ => ?_) (fun cx4_ => ?_)
      · have cx4_ : (S_.1 5 ll_ 2) ≠ (-1) := of_decide_eq_true cx4_
        have R9_ : rgt dd_ ll_ S_ := rgt_of (dgr_fr hg_ hF_ rfl rfl rfl rfl rfl) (drt_fr hr_ hF_ rfl rfl rfl rfl rfl) (swp_fr hs_ hF_ rfl rfl rfl rfl) hk_ (by omega) hrr_ (by rw [f1_, f2_]; exact W9_) (Or.inl (by omega))
        have IVx_ : S_.1 5 ll_ 2 ≠ -1 ∨ ∀ i_ : Int, 0 ≤ i_ → i_ < S0_.1 3 dd_ 3 + S0_.1 3 dd_ 2 → slv dd_ S_ i_ ≤ 1 ∨ slv dd_ S_ i_ % 2 = 0 := Or.inl (by omega)
        refine sm_T_go 2 (c1 := (121, [some (.inr (.inr (some (6, 0)))), some (.inr (.inr (some (3, dd_)))), some (.inr (.inr (some (5, ll_)))), some (.inr (.inr (some (2, cc_)))), some (.inl n_)], [.inr (.inr (some (6, 0))), .inr (.inr (some (2, cc_)))], S_)) rfl ?_
        refine sm_T_gr rfl rfl htk_ ?_
        refine sm_T_go 1 (c1 := (125, [some (.inr (.inr (some (6, 0)))), some (.inr (.inr (some (3, dd_)))), some (.inr (.inr (some (5, ll_)))), some (.inr (.inr (some (2, cc_)))), some (.inl n_)], [.inr (.inr (some (6, 0))), .inr (.inr (some (3, dd_))), .inr (.inr (some (2, cc_)))], S_)) rfl ?_
        refine sm_T_gr rfl rfl htk2_ ?_
        refine sm_T_cal (d1 := 1) (Q1 := vq_53n cc_ dd_ ll_ S_) rfl rfl (by decide) (vc_53n cc_ dd_ ll_ S_ hI_ (by exact dOk_fr hok_ hF_ (by decide) (by decide))) (fun u_ Sx5_ px8_ => ?_)
        obtain ⟨rfl, hIx6_, hFx7_, px8_⟩ := px8_
        have hFx9_ : ai_fr (sx_W vw_91n) S0_ Sx5_ := ai_fr_tr hF_ (fr_le hFx7_ rfl)
        obtain ⟨dx11_, px8_⟩ := px8_
        have hCx10_ : cdf cc_ S0_ Sx5_ := cdf_tr hC_ (cdf_cg (by omega) dx11_)
        have tx12_ : Sx5_.2.1 6 0 1 = some ll_ := (hFx7_.2.1 6 0 1 rfl).trans htk2_
        have tx13_ : Sx5_.2.1 6 0 0 = some dd_ := (hFx7_.2.1 6 0 0 rfl).trans htk_
        have ex14_ : Sx5_.1 3 dd_ 4 = S_.1 3 dd_ 4 := hFx7_.1 3 dd_ 4 rfl
        have c128_ := (px8_).1
        have L128_ := (px8_).2
        have g128_ := hFx7_
        refine sm_T_go 2 (c1 := (133, [some (.inr (.inr (some (6, 0)))), some (.inr (.inr (some (3, dd_)))), some (.inr (.inr (some (5, ll_)))), some (.inr (.inr (some (2, cc_)))), some (.inl n_)], [.inr (.inr (some (2, cc_))), .inr (.inr (some (6, 0)))], Sx5_)) rfl ?_
        refine sm_T_cal (d1 := 5) (Q1 := vq_109n dd_ ll_ cc_ Sx5_) rfl rfl (by decide) (vc_109n dd_ ll_ cc_ Sx5_ hIx6_ (by omega) (by exact tx13_) (by exact tx12_) (by (rw [g128_.1 3 dd_ 1 rfl, g128_.1 3 dd_ 2 rfl, g128_.1 3 dd_ 4 rfl, f1_, f2_]; exact wal_cd W9_ g128_ hC_ hCx10_ hl_)) (by omega) (by exact drt_fr hr_ hFx9_ rfl rfl rfl rfl rfl) (by (rw [g128_.1 3 dd_ 1 rfl, g128_.1 3 dd_ 2 rfl]; omega)) (by exact rgt_cd R9_ g128_ hC_ hCx10_ hl_)) (fun u_ Sx15_ px18_ => ?_)
        obtain ⟨vx20_, rfl, hIx16_, hFx17_, px18_⟩ := px18_
        have hFx19_ : ai_fr (sx_W vw_91n) S0_ Sx15_ := ai_fr_tr hFx9_ (fr_le hFx17_ rfl)
        obtain ⟨dx22_, px18_⟩ := px18_
        have hCx21_ : cdf cc_ S0_ Sx15_ := cdf_tr hCx10_ (cdf_cg (by omega) dx22_)
        have tx23_ : Sx15_.2.1 6 0 1 = some ll_ := (hFx17_.2.1 6 0 1 rfl).trans tx12_
        have tx24_ : Sx15_.2.1 6 0 0 = some dd_ := (hFx17_.2.1 6 0 0 rfl).trans tx13_
        have v133_ := (px18_).1
        obtain ⟨M9_, inm9_, X133_⟩ := (px18_).2
        have l133_ := cdf_l hC_ hCx21_ hl_
        have L133_ : clc cc_ ll_ Sx15_ Sx15_ := by (have z9_ := L128_; unfold clc at z9_ ⊢; rw [hFx17_.1 5 (3 + cc_) 1 rfl, hFx17_.1 5 (3 + cc_) 2 rfl, fr_arr (t := 55) (i := 0 + (3 + cc_)) hFx17_ rfl, fr_arr (t := 56) (i := 0 + (3 + cc_)) hFx17_ rfl, fr_arr (t := 57) (i := 0 + (3 + cc_)) hFx17_ rfl, fr_arr (t := 58) (i := 0 + (3 + cc_)) hFx17_ rfl, l133_.1 1, l133_.1 2, l133_.2.1, l133_.2.2.1, l133_.2.2.2.1, l133_.2.2.2.2]; exact z9_)
        have BB133_ : bcm dd_ F_ Sx15_ ∧ btn dd_ F_ Sx15_ = btn dd_ F_ S_ ∧ cnn F_ Sx15_ = cnn F_ S_ ∧ ccl dd_ Sx15_ = ccl dd_ S_ ∧ cch dd_ Sx15_ = cch dd_ S_ := by (have z9_ := bcm_fr hbc_ g128_; have y9_ := bcm_fr z9_.1 hFx17_; exact ⟨y9_.1, y9_.2.1.trans z9_.2.1, y9_.2.2.1.trans z9_.2.2.1, y9_.2.2.2.1.trans z9_.2.2.2.1, y9_.2.2.2.2.trans z9_.2.2.2.2⟩)
        have VV133_ : bvw ll_ Sx15_ := bvw_cg hvw_ (l133_.1 1) l133_.2.1 l133_.2.2.1 ((fr_arr hFx17_ rfl).trans (fr_arr g128_ rfl))
        have AL133_ : ball dd_ F_ ll_ Sx15_ := ball_cg hbc_ A9_ BB133_ ((fr_arr hFx17_ rfl).trans (fr_arr g128_ rfl)) ((fr_arr hFx17_ rfl).trans (fr_arr g128_ rfl)) ((fr_arr hFx17_ rfl).trans (fr_arr g128_ rfl)) ((fr_arr hFx17_ rfl).trans (fr_arr g128_ rfl)) ((fr_arr hFx17_ rfl).trans (fr_arr g128_ rfl)) l133_.2.1 l133_.2.2.2.1 (l133_.1 1) (l133_.1 2) ((fr_arr hFx17_ rfl).trans (fr_arr g128_ rfl)) ((fr_arr hFx17_ rfl).trans (fr_arr g128_ rfl)) ((fr_arr hFx17_ rfl).trans (fr_arr g128_ rfl)) ((fr_arr hFx17_ rfl).trans (fr_arr g128_ rfl)) (fun k_ => (hI_.2 55 (0 + ll_) k_).2)
        have SL133_ : slv dd_ Sx15_ = slv dd_ S_ := by (funext i_; unfold slv rtv; rw [(hFx17_.1 3 dd_ 3 rfl).trans (g128_.1 3 dd_ 3 rfl), (fr_arr (t := 44) (i := 0 + dd_) hFx17_ rfl).trans (fr_arr (t := 44) (i := 0 + dd_) g128_ rfl), (fr_arr (t := 45) (i := 0 + dd_) hFx17_ rfl).trans (fr_arr (t := 45) (i := 0 + dd_) g128_ rfl), (fr_arr (t := 46) (i := 0 + dd_) hFx17_ rfl).trans (fr_arr (t := 46) (i := 0 + dd_) g128_ rfl)])
        have IV133_ : Sx15_.1 5 ll_ 2 ≠ -1 ∨ ∀ i_ : Int, 0 ≤ i_ → i_ < S0_.1 3 dd_ 3 + S0_.1 3 dd_ 2 → slv dd_ Sx15_ i_ ≤ 1 ∨ slv dd_ Sx15_ i_ % 2 = 0 := by (rw [l133_.1 2, SL133_]; exact IVx_)
        have RT133_ : ∀ M_ : Nat → Int, rtq (cpn ll_ Sx15_) (cpv (F_ : Int) Sx15_) (cgc ll_ Sx15_) ((F_ : Int) - 1) (fun j_ => slv dd_ Sx15_ (j_ : Int)) (S0_.1 3 dd_ 3 + S0_.1 3 dd_ 2).toNat (M_, []) = rtq (cpn ll_ Sx5_) (cpv (1 + Sx5_.1 3 dd_ 1 + Sx5_.1 3 dd_ 2) Sx5_) (cgc ll_ Sx5_) (Sx5_.1 2 cc_ 1 + Sx5_.1 2 cc_ 2) (fun j_ => slv dd_ Sx5_ (j_ : Int)) (Sx5_.1 3 dd_ 3 + Sx5_.1 3 dd_ 2).toNat (M_, []) := fun M_ => by (have h3_ := g128_.1 3 dd_ 3 rfl; have h2_ := g128_.1 3 dd_ 2 rfl; have h1_ := g128_.1 3 dd_ 1 rfl; have y1_ : cpn ll_ Sx15_ = cpn ll_ Sx5_ := (by funext u_; unfold cpn; rw [fr_arr (t := 62) (i := 0) hFx17_ rfl, fr_arr (t := 55) (i := 0 + ll_) hFx17_ rfl]); have y2_ : cgc ll_ Sx15_ = cgc ll_ Sx5_ := (by funext u_; unfold cgc; rw [fr_arr (t := 62) (i := 0) hFx17_ rfl, hFx17_.1 5 ll_ 2 rfl]); have y3_ : cpv (F_ : Int) Sx15_ = cpv (1 + Sx5_.1 3 dd_ 1 + Sx5_.1 3 dd_ 2) Sx5_ := (by funext u_ k_; unfold cpv; rw [fr_arr (t := 60) (i := 0) hFx17_ rfl, fr_arr (t := 62) (i := 0) hFx17_ rfl, fr_arr (t := 63) (i := 0) hFx17_ rfl, fr_arr (t := 64) (i := 0) hFx17_ rfl, show (F_ : Int) = 1 + Sx5_.1 3 dd_ 1 + Sx5_.1 3 dd_ 2 by omega]); have y4_ : slv dd_ Sx15_ = slv dd_ Sx5_ := (by funext i_; unfold slv rtv; rw [hFx17_.1 3 dd_ 3 rfl, fr_arr (t := 44) (i := 0 + dd_) hFx17_ rfl, fr_arr (t := 45) (i := 0 + dd_) hFx17_ rfl, fr_arr (t := 46) (i := 0 + dd_) hFx17_ rfl]); rw [y1_, y2_, y3_, y4_, show (F_ : Int) - 1 = Sx5_.1 2 cc_ 1 + Sx5_.1 2 cc_ 2 by omega, show (S0_.1 3 dd_ 3 + S0_.1 3 dd_ 2).toNat = (Sx5_.1 3 dd_ 3 + Sx5_.1 3 dd_ 2).toNat by omega])
        have inm9f : inm (F_ : Int) M9_ := by (have h1_ := g128_.1 3 dd_ 1 rfl; have h2_ := g128_.1 3 dd_ 2 rfl; rw [show (F_ : Int) = 1 + Sx5_.1 3 dd_ 1 + Sx5_.1 3 dd_ 2 by omega]; exact inm9_)
        have c133_ : ∀ k_, Sx15_.2.2.1 55 (0 + ll_) k_ ≤ 3 := fun k_ => (hIx16_.2 55 (0 + ll_) k_).2
        have SY133_ : slv dd_ Sx15_ = slv dd_ Sx5_ := by (funext i_; unfold slv rtv; rw [hFx17_.1 3 dd_ 3 rfl, fr_arr (t := 44) (i := 0 + dd_) hFx17_ rfl, fr_arr (t := 45) (i := 0 + dd_) hFx17_ rfl, fr_arr (t := 46) (i := 0 + dd_) hFx17_ rfl])
        have Z133_ : ∀ g9_ : List (Int × List Int), (Sx15_.2.2.1 72 0, g9_) = rtq (cpn ll_ Sx5_) (cpv (1 + Sx5_.1 3 dd_ 1 + Sx5_.1 3 dd_ 2) Sx5_) (cgc ll_ Sx5_) (Sx5_.1 2 cc_ 1 + Sx5_.1 2 cc_ 2) (fun j_ => slv dd_ Sx5_ (j_ : Int)) (Sx5_.1 3 dd_ 3 + Sx5_.1 3 dd_ 2).toNat (M9_, []) → (Sx15_.2.2.1 72 0, g9_) = rtq (cpn ll_ Sx15_) (cpv (F_ : Int) Sx15_) (cgc ll_ Sx15_) ((F_ : Int) - 1) (fun j_ => slv dd_ Sx15_ (j_ : Int)) (S0_.1 3 dd_ 3 + S0_.1 3 dd_ 2).toNat (M9_, []) := fun g9_ h9_ => h9_.trans (RT133_ M9_).symm
        have N133_ : (∀ j_ : Nat, j_ < (Sx5_.1 3 dd_ 3 + Sx5_.1 3 dd_ 2).toNat → (if (j_ : Int) < Sx5_.1 3 dd_ 3 then Sx15_.2.2.1 37 (0 + cc_) j_ else Sx15_.2.2.1 38 (0 + cc_) (j_ - (Sx5_.1 3 dd_ 3).toNat)) = ntq (fun j_ => slv dd_ Sx5_ (j_ : Int)) (Sx15_.2.2.1 72 0) j_) → ∀ j_ : Nat, j_ < (S0_.1 3 dd_ 3 + S0_.1 3 dd_ 2).toNat → (if (j_ : Int) < S0_.1 3 dd_ 3 then Sx15_.2.2.1 37 (0 + cc_) j_ else Sx15_.2.2.1 38 (0 + cc_) (j_ - (S0_.1 3 dd_ 3).toNat)) = ntq (fun j_ => slv dd_ Sx15_ (j_ : Int)) (Sx15_.2.2.1 72 0) j_ := fun n9_ => by (have h3_ := g128_.1 3 dd_ 3 rfl; have h2_ := g128_.1 3 dd_ 2 rfl; rw [show Sx5_.1 3 dd_ 3 = S0_.1 3 dd_ 3 by omega, show Sx5_.1 3 dd_ 2 = S0_.1 3 dd_ 2 by omega] at n9_; rw [SY133_]; exact n9_)
        have d1_ := hFx17_.1 2 cc_ 1 rfl
        have d2_ := hFx17_.1 2 cc_ 2 rfl
        have d3_ := hFx17_.1 2 cc_ 3 rfl
        have d4_ := hFx17_.1 2 cc_ 4 rfl
        have d5_ := hFx17_.1 2 cc_ 5 rfl
        refine sm_T_b0 (a := 1) (z := 6) rfl (fun cx25_ => ?_) (fun cx25_ => ?_)
        · have cx25_ : vx20_ ≠ 0 := of_decide_eq_true cx25_
          refine sm_T_go 3 (c1 := (147, [some (.inr (.inr (some (6, 0)))), some (.inr (.inr (some (3, dd_)))), some (.inr (.inr (some (5, ll_)))), some (.inr (.inr (some (2, cc_)))), some (.inl n_)], [.inr (.inr (some (2, cc_))), .inr (.inr (some (0, (0 + cc_))))], Sx15_)) rfl ?_
          refine sm_T_cal (d1 := 2) (Q1 := vq_11 (0 + cc_) cc_ Sx15_) rfl rfl (by decide) (vc_11 (0 + cc_) cc_ Sx15_ hIx16_ (by omega)) (fun u_ Sx26_ px29_ => ?_)
          obtain ⟨rfl, hIx27_, hFx28_, px29_⟩ := px29_
          have hFx30_ : ai_fr (sx_W vw_91n) S0_ Sx26_ := ai_fr_tr hFx19_ (fr_le hFx28_ rfl)
          obtain ⟨dx32_, px29_⟩ := px29_
          have hCx31_ : cdf cc_ S0_ Sx26_ := cdf_tr hCx21_ (cdf_cg (by omega) dx32_)
          have tx33_ : Sx26_.2.1 6 0 1 = some ll_ := (hFx28_.2.1 6 0 1 rfl).trans tx23_
          have tx34_ : Sx26_.2.1 6 0 0 = some dd_ := (hFx28_.2.1 6 0 0 rfl).trans tx24_
          have b147_ := px29_
          have L147_ : clc cc_ ll_ Sx26_ Sx26_ := by (have z9_ := L133_; unfold clc at z9_ ⊢; rw [hFx28_.1 5 (3 + cc_) 1 rfl, hFx28_.1 5 (3 + cc_) 2 rfl, hFx28_.1 5 ll_ 1 rfl, hFx28_.1 5 ll_ 2 rfl, fr_arr (t := 55) (i := 0 + (3 + cc_)) hFx28_ rfl, fr_arr (t := 56) (i := 0 + (3 + cc_)) hFx28_ rfl, fr_arr (t := 57) (i := 0 + (3 + cc_)) hFx28_ rfl, fr_arr (t := 58) (i := 0 + (3 + cc_)) hFx28_ rfl, fr_arr (t := 55) (i := 0 + ll_) hFx28_ rfl, fr_arr (t := 56) (i := 0 + ll_) hFx28_ rfl, fr_arr (t := 57) (i := 0 + ll_) hFx28_ rfl, fr_arr (t := 58) (i := 0 + ll_) hFx28_ rfl]; exact z9_)
          have F147_ := hFx28_
          have BB147_ := bcm_fr BB133_.1 hFx28_
          have VV147_ : bvw ll_ Sx26_ := bvw_cg VV133_ (hFx28_.1 5 ll_ 1 rfl) (fr_arr hFx28_ rfl) (fr_arr hFx28_ rfl) (fr_arr hFx28_ rfl)
          have AL147_ : ball dd_ F_ ll_ Sx26_ := ball_cg BB133_.1 AL133_ BB147_ (fr_arr hFx28_ rfl) (fr_arr hFx28_ rfl) (fr_arr hFx28_ rfl) (fr_arr hFx28_ rfl) (fr_arr hFx28_ rfl) (fr_arr hFx28_ rfl) (fr_arr hFx28_ rfl) (hFx28_.1 5 ll_ 1 rfl) (hFx28_.1 5 ll_ 2 rfl) (fr_arr hFx28_ rfl) (fr_arr hFx28_ rfl) (fr_arr hFx28_ rfl) (fr_arr hFx28_ rfl) c133_
          have SL147_ : slv dd_ Sx26_ = slv dd_ Sx15_ := by (funext i_; unfold slv rtv; rw [hFx28_.1 3 dd_ 3 rfl, fr_arr (t := 44) (i := 0 + dd_) hFx28_ rfl, fr_arr (t := 45) (i := 0 + dd_) hFx28_ rfl, fr_arr (t := 46) (i := 0 + dd_) hFx28_ rfl])
          have IV147_ : Sx26_.1 5 ll_ 2 ≠ -1 ∨ ∀ i_ : Int, 0 ≤ i_ → i_ < S0_.1 3 dd_ 3 + S0_.1 3 dd_ 2 → slv dd_ Sx26_ i_ ≤ 1 ∨ slv dd_ Sx26_ i_ % 2 = 0 := by (rw [hFx28_.1 5 ll_ 2 rfl, SL147_]; exact IV133_)
          have RT147_ : ∀ M_ : Nat → Int, rtq (cpn ll_ Sx26_) (cpv (F_ : Int) Sx26_) (cgc ll_ Sx26_) ((F_ : Int) - 1) (fun j_ => slv dd_ Sx26_ (j_ : Int)) (S0_.1 3 dd_ 3 + S0_.1 3 dd_ 2).toNat (M_, []) = rtq (cpn ll_ Sx15_) (cpv (F_ : Int) Sx15_) (cgc ll_ Sx15_) ((F_ : Int) - 1) (fun j_ => slv dd_ Sx15_ (j_ : Int)) (S0_.1 3 dd_ 3 + S0_.1 3 dd_ 2).toNat (M_, []) := fun M_ => by (have y1_ : cpn ll_ Sx26_ = cpn ll_ Sx15_ := (by funext u_; unfold cpn; rw [fr_arr (t := 62) (i := 0) hFx28_ rfl, fr_arr (t := 55) (i := 0 + ll_) hFx28_ rfl]); have y2_ : cgc ll_ Sx26_ = cgc ll_ Sx15_ := (by funext u_; unfold cgc; rw [fr_arr (t := 62) (i := 0) hFx28_ rfl, hFx28_.1 5 ll_ 2 rfl]); have y3_ : cpv (F_ : Int) Sx26_ = cpv (F_ : Int) Sx15_ := (by funext u_ k_; unfold cpv; rw [fr_arr (t := 60) (i := 0) hFx28_ rfl, fr_arr (t := 62) (i := 0) hFx28_ rfl, fr_arr (t := 63) (i := 0) hFx28_ rfl, fr_arr (t := 64) (i := 0) hFx28_ rfl]); rw [y1_, y2_, y3_, SL147_])
          have x1_ := hFx28_.1 2 cc_ 1 rfl
          have x2_ := hFx28_.1 2 cc_ 2 rfl
          have x3_ := hFx28_.1 2 cc_ 3 rfl
          have x4_ := hFx28_.1 2 cc_ 4 rfl
          have x5_ := hFx28_.1 2 cc_ 5 rfl
          refine sm_T_go 1 (c1 := (151, [some (.inr (.inr (some (6, 0)))), some (.inr (.inr (some (3, dd_)))), some (.inr (.inr (some (5, ll_)))), some (.inr (.inr (some (2, cc_)))), some (.inl n_)], [.inl 0], Sx26_)) rfl ?_
          refine sm_T_ri rfl ⟨_, _, rfl, _, rfl, hIx27_, hFx30_, ?_⟩
          refine ⟨hCx31_, ?_⟩
          obtain ⟨g9_, c9_, x9_, n9_⟩ := X133_.1 (by omega)
          refine ⟨Or.inl ⟨rfl, by omega, b147_⟩, fun _ => L147_, BB147_.1, VV147_, Or.inr ⟨by decide, AL147_, IV147_, M9_, inm9f, Or.inr ⟨rfl, g9_, cgz_fr c9_ F147_, ?_, fun j_ hj_ => ?_⟩⟩⟩
          · rw [RT147_ M9_, fr_arr (t := 72) (i := 0) F147_ rfl]; exact Z133_ g9_ x9_
          · rw [SL147_, fr_arr (t := 72) (i := 0) F147_ rfl, fr_arr (t := 37) (i := 0 + cc_) F147_ rfl, fr_arr (t := 38) (i := 0 + cc_) F147_ rfl]; exact N133_ n9_ j_ hj_
        · have cx25_ : ¬ (vx20_ ≠ 0) := of_decide_eq_false cx25_
          refine sm_T_go 1 (c1 := (141, [some (.inr (.inr (some (6, 0)))), some (.inr (.inr (some (3, dd_)))), some (.inr (.inr (some (5, ll_)))), some (.inr (.inr (some (2, cc_)))), some (.inl n_)], [.inl (-2)], Sx15_)) rfl ?_
          refine sm_T_ri rfl ⟨_, _, rfl, _, rfl, hIx16_, hFx19_, ?_⟩
          refine ⟨hCx21_, ?_⟩
          refine ⟨Or.inr (Or.inr rfl), fun u9_ => absurd u9_ (by decide), BB133_.1, VV133_, Or.inr ⟨by decide, AL133_, IV133_, M9_, inm9f, Or.inl ⟨rfl, ?_⟩⟩⟩
          rw [RT133_ M9_]
          exact X133_.2 (by omega)
      · have cx4_ : ¬ ((S_.1 5 ll_ 2) ≠ (-1)) := of_decide_eq_false cx4_
        refine sm_T_go 1 (c1 := (111, [some (.inr (.inr (some (6, 0)))), some (.inr (.inr (some (3, dd_)))), some (.inr (.inr (some (5, ll_)))), some (.inr (.inr (some (2, cc_)))), some (.inl n_)], [.inr (.inr (some (6, 0)))], S_)) rfl ?_
        refine sm_T_cal (d1 := 1) (Q1 := vq_96n dd_ S_) rfl rfl (by decide) (vc_96n dd_ S_ hI_ (by exact htk_) (by exact drt_fr hr_ hF_ rfl rfl rfl rfl rfl)) (fun u_ Sx35_ px38_ => ?_)
        obtain ⟨rfl, vx40_, rfl, px38_⟩ := px38_
        have w111_ := (px38_).2.1
        have i111_ := (px38_).2.2
        refine sm_T_b0 (a := 0) (z := 5) rfl (fun cx41_ => ?_) (fun cx41_ => ?_)
        · have cx41_ : vx40_ = 0 := of_decide_eq_true cx41_
          have R9_ : rgt dd_ ll_ S_ := rgt_of (dgr_fr hg_ hF_ rfl rfl rfl rfl rfl) (drt_fr hr_ hF_ rfl rfl rfl rfl rfl) (swp_fr hs_ hF_ rfl rfl rfl rfl) hk_ (by omega) hrr_ (by rw [f1_, f2_]; exact W9_) (Or.inr (w111_ (by omega)))
          have IVx_ : S_.1 5 ll_ 2 ≠ -1 ∨ ∀ i_ : Int, 0 ≤ i_ → i_ < S0_.1 3 dd_ 3 + S0_.1 3 dd_ 2 → slv dd_ S_ i_ ≤ 1 ∨ slv dd_ S_ i_ % 2 = 0 := Or.inr (by (rw [← f3_, ← f2_]; exact w111_ (by omega)))
          refine sm_T_go 2 (c1 := (121, [some (.inr (.inr (some (6, 0)))), some (.inr (.inr (some (3, dd_)))), some (.inr (.inr (some (5, ll_)))), some (.inr (.inr (some (2, cc_)))), some (.inl n_)], [.inr (.inr (some (6, 0))), .inr (.inr (some (2, cc_)))], S_)) rfl ?_
          refine sm_T_gr rfl rfl htk_ ?_
          refine sm_T_go 1 (c1 := (125, [some (.inr (.inr (some (6, 0)))), some (.inr (.inr (some (3, dd_)))), some (.inr (.inr (some (5, ll_)))), some (.inr (.inr (some (2, cc_)))), some (.inl n_)], [.inr (.inr (some (6, 0))), .inr (.inr (some (3, dd_))), .inr (.inr (some (2, cc_)))], S_)) rfl ?_
          refine sm_T_gr rfl rfl htk2_ ?_
          refine sm_T_cal (d1 := 1) (Q1 := vq_53n cc_ dd_ ll_ S_) rfl rfl (by decide) (vc_53n cc_ dd_ ll_ S_ hI_ (by exact dOk_fr hok_ hF_ (by decide) (by decide))) (fun u_ Sx42_ px45_ => ?_)
          obtain ⟨rfl, hIx43_, hFx44_, px45_⟩ := px45_
          have hFx46_ : ai_fr (sx_W vw_91n) S0_ Sx42_ := ai_fr_tr hF_ (fr_le hFx44_ rfl)
          obtain ⟨dx48_, px45_⟩ := px45_
          have hCx47_ : cdf cc_ S0_ Sx42_ := cdf_tr hC_ (cdf_cg (by omega) dx48_)
          have tx49_ : Sx42_.2.1 6 0 1 = some ll_ := (hFx44_.2.1 6 0 1 rfl).trans htk2_
          have tx50_ : Sx42_.2.1 6 0 0 = some dd_ := (hFx44_.2.1 6 0 0 rfl).trans htk_
          have ex51_ : Sx42_.1 3 dd_ 4 = S_.1 3 dd_ 4 := hFx44_.1 3 dd_ 4 rfl
          have c128_ := (px45_).1
          have L128_ := (px45_).2
          have g128_ := hFx44_
          refine sm_T_go 2 (c1 := (133, [some (.inr (.inr (some (6, 0)))), some (.inr (.inr (some (3, dd_)))), some (.inr (.inr (some (5, ll_)))), some (.inr (.inr (some (2, cc_)))), some (.inl n_)], [.inr (.inr (some (2, cc_))), .inr (.inr (some (6, 0)))], Sx42_)) rfl ?_
          refine sm_T_cal (d1 := 5) (Q1 := vq_109n dd_ ll_ cc_ Sx42_) rfl rfl (by decide) (vc_109n dd_ ll_ cc_ Sx42_ hIx43_ (by omega) (by exact tx50_) (by exact tx49_) (by (rw [g128_.1 3 dd_ 1 rfl, g128_.1 3 dd_ 2 rfl, g128_.1 3 dd_ 4 rfl, f1_, f2_]; exact wal_cd W9_ g128_ hC_ hCx47_ hl_)) (by omega) (by exact drt_fr hr_ hFx46_ rfl rfl rfl rfl rfl) (by (rw [g128_.1 3 dd_ 1 rfl, g128_.1 3 dd_ 2 rfl]; omega)) (by exact rgt_cd R9_ g128_ hC_ hCx47_ hl_)) (fun u_ Sx52_ px55_ => ?_)
          obtain ⟨vx57_, rfl, hIx53_, hFx54_, px55_⟩ := px55_
          have hFx56_ : ai_fr (sx_W vw_91n) S0_ Sx52_ := ai_fr_tr hFx46_ (fr_le hFx54_ rfl)
          obtain ⟨dx59_, px55_⟩ := px55_
          have hCx58_ : cdf cc_ S0_ Sx52_ := cdf_tr hCx47_ (cdf_cg (by omega) dx59_)
          have tx60_ : Sx52_.2.1 6 0 1 = some ll_ := (hFx54_.2.1 6 0 1 rfl).trans tx49_
          have tx61_ : Sx52_.2.1 6 0 0 = some dd_ := (hFx54_.2.1 6 0 0 rfl).trans tx50_
          have v133_ := (px55_).1
          obtain ⟨M9_, inm9_, X133_⟩ := (px55_).2
          have l133_ := cdf_l hC_ hCx58_ hl_
          have L133_ : clc cc_ ll_ Sx52_ Sx52_ := by (have z9_ := L128_; unfold clc at z9_ ⊢; rw [hFx54_.1 5 (3 + cc_) 1 rfl, hFx54_.1 5 (3 + cc_) 2 rfl, fr_arr (t := 55) (i := 0 + (3 + cc_)) hFx54_ rfl, fr_arr (t := 56) (i := 0 + (3 + cc_)) hFx54_ rfl, fr_arr (t := 57) (i := 0 + (3 + cc_)) hFx54_ rfl, fr_arr (t := 58) (i := 0 + (3 + cc_)) hFx54_ rfl, l133_.1 1, l133_.1 2, l133_.2.1, l133_.2.2.1, l133_.2.2.2.1, l133_.2.2.2.2]; exact z9_)
          have BB133_ : bcm dd_ F_ Sx52_ ∧ btn dd_ F_ Sx52_ = btn dd_ F_ S_ ∧ cnn F_ Sx52_ = cnn F_ S_ ∧ ccl dd_ Sx52_ = ccl dd_ S_ ∧ cch dd_ Sx52_ = cch dd_ S_ := by (have z9_ := bcm_fr hbc_ g128_; have y9_ := bcm_fr z9_.1 hFx54_; exact ⟨y9_.1, y9_.2.1.trans z9_.2.1, y9_.2.2.1.trans z9_.2.2.1, y9_.2.2.2.1.trans z9_.2.2.2.1, y9_.2.2.2.2.trans z9_.2.2.2.2⟩)
          have VV133_ : bvw ll_ Sx52_ := bvw_cg hvw_ (l133_.1 1) l133_.2.1 l133_.2.2.1 ((fr_arr hFx54_ rfl).trans (fr_arr g128_ rfl))
          have AL133_ : ball dd_ F_ ll_ Sx52_ := ball_cg hbc_ A9_ BB133_ ((fr_arr hFx54_ rfl).trans (fr_arr g128_ rfl)) ((fr_arr hFx54_ rfl).trans (fr_arr g128_ rfl)) ((fr_arr hFx54_ rfl).trans (fr_arr g128_ rfl)) ((fr_arr hFx54_ rfl).trans (fr_arr g128_ rfl)) ((fr_arr hFx54_ rfl).trans (fr_arr g128_ rfl)) l133_.2.1 l133_.2.2.2.1 (l133_.1 1) (l133_.1 2) ((fr_arr hFx54_ rfl).trans (fr_arr g128_ rfl)) ((fr_arr hFx54_ rfl).trans (fr_arr g128_ rfl)) ((fr_arr hFx54_ rfl).trans (fr_arr g128_ rfl)) ((fr_arr hFx54_ rfl).trans (fr_arr g128_ rfl)) (fun k_ => (hI_.2 55 (0 + ll_) k_).2)
          have SL133_ : slv dd_ Sx52_ = slv dd_ S_ := by (funext i_; unfold slv rtv; rw [(hFx54_.1 3 dd_ 3 rfl).trans (g128_.1 3 dd_ 3 rfl), (fr_arr (t := 44) (i := 0 + dd_) hFx54_ rfl).trans (fr_arr (t := 44) (i := 0 + dd_) g128_ rfl), (fr_arr (t := 45) (i := 0 + dd_) hFx54_ rfl).trans (fr_arr (t := 45) (i := 0 + dd_) g128_ rfl), (fr_arr (t := 46) (i := 0 + dd_) hFx54_ rfl).trans (fr_arr (t := 46) (i := 0 + dd_) g128_ rfl)])
          have IV133_ : Sx52_.1 5 ll_ 2 ≠ -1 ∨ ∀ i_ : Int, 0 ≤ i_ → i_ < S0_.1 3 dd_ 3 + S0_.1 3 dd_ 2 → slv dd_ Sx52_ i_ ≤ 1 ∨ slv dd_ Sx52_ i_ % 2 = 0 := by (rw [l133_.1 2, SL133_]; exact IVx_)
          have RT133_ : ∀ M_ : Nat → Int, rtq (cpn ll_ Sx52_) (cpv (F_ : Int) Sx52_) (cgc ll_ Sx52_) ((F_ : Int) - 1) (fun j_ => slv dd_ Sx52_ (j_ : Int)) (S0_.1 3 dd_ 3 + S0_.1 3 dd_ 2).toNat (M_, []) = rtq (cpn ll_ Sx42_) (cpv (1 + Sx42_.1 3 dd_ 1 + Sx42_.1 3 dd_ 2) Sx42_) (cgc ll_ Sx42_) (Sx42_.1 2 cc_ 1 + Sx42_.1 2 cc_ 2) (fun j_ => slv dd_ Sx42_ (j_ : Int)) (Sx42_.1 3 dd_ 3 + Sx42_.1 3 dd_ 2).toNat (M_, []) := fun M_ => by (have h3_ := g128_.1 3 dd_ 3 rfl; have h2_ := g128_.1 3 dd_ 2 rfl; have h1_ := g128_.1 3 dd_ 1 rfl; have y1_ : cpn ll_ Sx52_ = cpn ll_ Sx42_ := (by funext u_; unfold cpn; rw [fr_arr (t := 62) (i := 0) hFx54_ rfl, fr_arr (t := 55) (i := 0 + ll_) hFx54_ rfl]); have y2_ : cgc ll_ Sx52_ = cgc ll_ Sx42_ := (by funext u_; unfold cgc; rw [fr_arr (t := 62) (i := 0) hFx54_ rfl, hFx54_.1 5 ll_ 2 rfl]); have y3_ : cpv (F_ : Int) Sx52_ = cpv (1 + Sx42_.1 3 dd_ 1 + Sx42_.1 3 dd_ 2) Sx42_ := (by funext u_ k_; unfold cpv; rw [fr_arr (t := 60) (i := 0) hFx54_ rfl, fr_arr (t := 62) (i := 0) hFx54_ rfl, fr_arr (t := 63) (i := 0) hFx54_ rfl, fr_arr (t := 64) (i := 0) hFx54_ rfl, show (F_ : Int) = 1 + Sx42_.1 3 dd_ 1 + Sx42_.1 3 dd_ 2 by omega]); have y4_ : slv dd_ Sx52_ = slv dd_ Sx42_ := (by funext i_; unfold slv rtv; rw [hFx54_.1 3 dd_ 3 rfl, fr_arr (t := 44) (i := 0 + dd_) hFx54_ rfl, fr_arr (t := 45) (i := 0 + dd_) hFx54_ rfl, fr_arr (t := 46) (i := 0 + dd_) hFx54_ rfl]); rw [y1_, y2_, y3_, y4_, show (F_ : Int) - 1 = Sx42_.1 2 cc_ 1 + Sx42_.1 2 cc_ 2 by omega, show (S0_.1 3 dd_ 3 + S0_.1 3 dd_ 2).toNat = (Sx42_.1 3 dd_ 3 + Sx42_.1 3 dd_ 2).toNat by omega])
          have inm9f : inm (F_ : Int) M9_ := by (have h1_ := g128_.1 3 dd_ 1 rfl; have h2_ := g128_.1 3 dd_ 2 rfl; rw [show (F_ : Int) = 1 + Sx42_.1 3 dd_ 1 + Sx42_.1 3 dd_ 2 by omega]; exact inm9_)
          have c133_ : ∀ k_, Sx52_.2.2.1 55 (0 + ll_) k_ ≤ 3 := fun k_ => (hIx53_.2 55 (0 + ll_) k_).2
          have SY133_ : slv dd_ Sx52_ = slv dd_ Sx42_ := by (funext i_; unfold slv rtv; rw [hFx54_.1 3 dd_ 3 rfl, fr_arr (t := 44) (i := 0 + dd_) hFx54_ rfl, fr_arr (t := 45) (i := 0 + dd_) hFx54_ rfl, fr_arr (t := 46) (i := 0 + dd_) hFx54_ rfl])
          have Z133_ : ∀ g9_ : List (Int × List Int), (Sx52_.2.2.1 72 0, g9_) = rtq (cpn ll_ Sx42_) (cpv (1 + Sx42_.1 3 dd_ 1 + Sx42_.1 3 dd_ 2) Sx42_) (cgc ll_ Sx42_) (Sx42_.1 2 cc_ 1 + Sx42_.1 2 cc_ 2) (fun j_ => slv dd_ Sx42_ (j_ : Int)) (Sx42_.1 3 dd_ 3 + Sx42_.1 3 dd_ 2).toNat (M9_, []) → (Sx52_.2.2.1 72 0, g9_) = rtq (cpn ll_ Sx52_) (cpv (F_ : Int) Sx52_) (cgc ll_ Sx52_) ((F_ : Int) - 1) (fun j_ => slv dd_ Sx52_ (j_ : Int)) (S0_.1 3 dd_ 3 + S0_.1 3 dd_ 2).toNat (M9_, []) := fun g9_ h9_ => h9_.trans (RT133_ M9_).symm
          have N133_ : (∀ j_ : Nat, j_ < (Sx42_.1 3 dd_ 3 + Sx42_.1 3 dd_ 2).toNat → (if (j_ : Int) < Sx42_.1 3 dd_ 3 then Sx52_.2.2.1 37 (0 + cc_) j_ else Sx52_.2.2.1 38 (0 + cc_) (j_ - (Sx42_.1 3 dd_ 3).toNat)) = ntq (fun j_ => slv dd_ Sx42_ (j_ : Int)) (Sx52_.2.2.1 72 0) j_) → ∀ j_ : Nat, j_ < (S0_.1 3 dd_ 3 + S0_.1 3 dd_ 2).toNat → (if (j_ : Int) < S0_.1 3 dd_ 3 then Sx52_.2.2.1 37 (0 + cc_) j_ else Sx52_.2.2.1 38 (0 + cc_) (j_ - (S0_.1 3 dd_ 3).toNat)) = ntq (fun j_ => slv dd_ Sx52_ (j_ : Int)) (Sx52_.2.2.1 72 0) j_ := fun n9_ => by (have h3_ := g128_.1 3 dd_ 3 rfl; have h2_ := g128_.1 3 dd_ 2 rfl; rw [show Sx42_.1 3 dd_ 3 = S0_.1 3 dd_ 3 by omega, show Sx42_.1 3 dd_ 2 = S0_.1 3 dd_ 2 by omega] at n9_; rw [SY133_]; exact n9_)
          have d1_ := hFx54_.1 2 cc_ 1 rfl
          have d2_ := hFx54_.1 2 cc_ 2 rfl
          have d3_ := hFx54_.1 2 cc_ 3 rfl
          have d4_ := hFx54_.1 2 cc_ 4 rfl
          have d5_ := hFx54_.1 2 cc_ 5 rfl
          refine sm_T_b0 (a := 1) (z := 6) rfl (fun cx62_ => ?_) (fun cx62_ => ?_)
          · have cx62_ : vx57_ ≠ 0 := of_decide_eq_true cx62_
            refine sm_T_go 3 (c1 := (147, [some (.inr (.inr (some (6, 0)))), some (.inr (.inr (some (3, dd_)))), some (.inr (.inr (some (5, ll_)))), some (.inr (.inr (some (2, cc_)))), some (.inl n_)], [.inr (.inr (some (2, cc_))), .inr (.inr (some (0, (0 + cc_))))], Sx52_)) rfl ?_
            refine sm_T_cal (d1 := 2) (Q1 := vq_11 (0 + cc_) cc_ Sx52_) rfl rfl (by decide) (vc_11 (0 + cc_) cc_ Sx52_ hIx53_ (by omega)) (fun u_ Sx63_ px66_ => ?_)
            obtain ⟨rfl, hIx64_, hFx65_, px66_⟩ := px66_
            have hFx67_ : ai_fr (sx_W vw_91n) S0_ Sx63_ := ai_fr_tr hFx56_ (fr_le hFx65_ rfl)
            obtain ⟨dx69_, px66_⟩ := px66_
            have hCx68_ : cdf cc_ S0_ Sx63_ := cdf_tr hCx58_ (cdf_cg (by omega) dx69_)
            have tx70_ : Sx63_.2.1 6 0 1 = some ll_ := (hFx65_.2.1 6 0 1 rfl).trans tx60_
            have tx71_ : Sx63_.2.1 6 0 0 = some dd_ := (hFx65_.2.1 6 0 0 rfl).trans tx61_
            have b147_ := px66_
            have L147_ : clc cc_ ll_ Sx63_ Sx63_ := by (have z9_ := L133_; unfold clc at z9_ ⊢; rw [hFx65_.1 5 (3 + cc_) 1 rfl, hFx65_.1 5 (3 + cc_) 2 rfl, hFx65_.1 5 ll_ 1 rfl, hFx65_.1 5 ll_ 2 rfl, fr_arr (t := 55) (i := 0 + (3 + cc_)) hFx65_ rfl, fr_arr (t := 56) (i := 0 + (3 + cc_)) hFx65_ rfl, fr_arr (t := 57) (i := 0 + (3 + cc_)) hFx65_ rfl, fr_arr (t := 58) (i := 0 + (3 + cc_)) hFx65_ rfl, fr_arr (t := 55) (i := 0 + ll_) hFx65_ rfl, fr_arr (t := 56) (i := 0 + ll_) hFx65_ rfl, fr_arr (t := 57) (i := 0 + ll_) hFx65_ rfl, fr_arr (t := 58) (i := 0 + ll_) hFx65_ rfl]; exact z9_)
            have F147_ := hFx65_
            have BB147_ := bcm_fr BB133_.1 hFx65_
            have VV147_ : bvw ll_ Sx63_ := bvw_cg VV133_ (hFx65_.1 5 ll_ 1 rfl) (fr_arr hFx65_ rfl) (fr_arr hFx65_ rfl) (fr_arr hFx65_ rfl)
            have AL147_ : ball dd_ F_ ll_ Sx63_ := ball_cg BB133_.1 AL133_ BB147_ (fr_arr hFx65_ rfl) (fr_arr hFx65_ rfl) (fr_arr hFx65_ rfl) (fr_arr hFx65_ rfl) (fr_arr hFx65_ rfl) (fr_arr hFx65_ rfl) (fr_arr hFx65_ rfl) (hFx65_.1 5 ll_ 1 rfl) (hFx65_.1 5 ll_ 2 rfl) (fr_arr hFx65_ rfl) (fr_arr hFx65_ rfl) (fr_arr hFx65_ rfl) (fr_arr hFx65_ rfl) c133_
            have SL147_ : slv dd_ Sx63_ = slv dd_ Sx52_ := by (funext i_; unfold slv rtv; rw [hFx65_.1 3 dd_ 3 rfl, fr_arr (t := 44) (i := 0 + dd_) hFx65_ rfl, fr_arr (t := 45) (i := 0 + dd_) hFx65_ rfl, fr_arr (t := 46) (i := 0 + dd_) hFx65_ rfl])
            have IV147_ : Sx63_.1 5 ll_ 2 ≠ -1 ∨ ∀ i_ : Int, 0 ≤ i_ → i_ < S0_.1 3 dd_ 3 + S0_.1 3 dd_ 2 → slv dd_ Sx63_ i_ ≤ 1 ∨ slv dd_ Sx63_ i_ % 2 = 0 := by (rw [hFx65_.1 5 ll_ 2 rfl, SL147_]; exact IV133_)
            have RT147_ : ∀ M_ : Nat → Int, rtq (cpn ll_ Sx63_) (cpv (F_ : Int) Sx63_) (cgc ll_ Sx63_) ((F_ : Int) - 1) (fun j_ => slv dd_ Sx63_ (j_ : Int)) (S0_.1 3 dd_ 3 + S0_.1 3 dd_ 2).toNat (M_, []) = rtq (cpn ll_ Sx52_) (cpv (F_ : Int) Sx52_) (cgc ll_ Sx52_) ((F_ : Int) - 1) (fun j_ => slv dd_ Sx52_ (j_ : Int)) (S0_.1 3 dd_ 3 + S0_.1 3 dd_ 2).toNat (M_, []) := fun M_ => by (have y1_ : cpn ll_ Sx63_ = cpn ll_ Sx52_ := (by funext u_; unfold cpn; rw [fr_arr (t := 62) (i := 0) hFx65_ rfl, fr_arr (t := 55) (i := 0 + ll_) hFx65_ rfl]); have y2_ : cgc ll_ Sx63_ = cgc ll_ Sx52_ := (by funext u_; unfold cgc; rw [fr_arr (t := 62) (i := 0) hFx65_ rfl, hFx65_.1 5 ll_ 2 rfl]); have y3_ : cpv (F_ : Int) Sx63_ = cpv (F_ : Int) Sx52_ := (by funext u_ k_; unfold cpv; rw [fr_arr (t := 60) (i := 0) hFx65_ rfl, fr_arr (t := 62) (i := 0) hFx65_ rfl, fr_arr (t := 63) (i := 0) hFx65_ rfl, fr_arr (t := 64) (i := 0) hFx65_ rfl]); rw [y1_, y2_, y3_, SL147_])
            have x1_ := hFx65_.1 2 cc_ 1 rfl
            have x2_ := hFx65_.1 2 cc_ 2 rfl
            have x3_ := hFx65_.1 2 cc_ 3 rfl
            have x4_ := hFx65_.1 2 cc_ 4 rfl
            have x5_ := hFx65_.1 2 cc_ 5 rfl
            refine sm_T_go 1 (c1 := (151, [some (.inr (.inr (some (6, 0)))), some (.inr (.inr (some (3, dd_)))), some (.inr (.inr (some (5, ll_)))), some (.inr (.inr (some (2, cc_)))), some (.inl n_)], [.inl 0], Sx63_)) rfl ?_
            refine sm_T_ri rfl ⟨_, _, rfl, _, rfl, hIx64_, hFx67_, ?_⟩
            refine ⟨hCx68_, ?_⟩
            obtain ⟨g9_, c9_, x9_, n9_⟩ := X133_.1 (by omega)
            refine ⟨Or.inl ⟨rfl, by omega, b147_⟩, fun _ => L147_, BB147_.1, VV147_, Or.inr ⟨by decide, AL147_, IV147_, M9_, inm9f, Or.inr ⟨rfl, g9_, cgz_fr c9_ F147_, ?_, fun j_ hj_ => ?_⟩⟩⟩
            · rw [RT147_ M9_, fr_arr (t := 72) (i := 0) F147_ rfl]; exact Z133_ g9_ x9_
            · rw [SL147_, fr_arr (t := 72) (i := 0) F147_ rfl, fr_arr (t := 37) (i := 0 + cc_) F147_ rfl, fr_arr (t := 38) (i := 0 + cc_) F147_ rfl]; exact N133_ n9_ j_ hj_
          · have cx62_ : ¬ (vx57_ ≠ 0) := of_decide_eq_false cx62_
            refine sm_T_go 1 (c1 := (141, [some (.inr (.inr (some (6, 0)))), some (.inr (.inr (some (3, dd_)))), some (.inr (.inr (some (5, ll_)))), some (.inr (.inr (some (2, cc_)))), some (.inl n_)], [.inl (-2)], Sx52_)) rfl ?_
            refine sm_T_ri rfl ⟨_, _, rfl, _, rfl, hIx53_, hFx56_, ?_⟩
            refine ⟨hCx58_, ?_⟩
            refine ⟨Or.inr (Or.inr rfl), fun u9_ => absurd u9_ (by decide), BB133_.1, VV133_, Or.inr ⟨by decide, AL133_, IV133_, M9_, inm9f, Or.inl ⟨rfl, ?_⟩⟩⟩
            rw [RT133_ M9_]
            exact X133_.2 (by omega)
        · have cx41_ : ¬ (vx40_ = 0) := of_decide_eq_false cx41_
          refine sm_T_go 1 (c1 := (118, [some (.inr (.inr (some (6, 0)))), some (.inr (.inr (some (3, dd_)))), some (.inr (.inr (some (5, ll_)))), some (.inr (.inr (some (2, cc_)))), some (.inl n_)], [.inl (-1)], S_)) rfl ?_
          refine sm_T_ri rfl ⟨_, _, rfl, _, rfl, hI_, hF_, ?_⟩
          refine ⟨hC_, ?_⟩
          refine ⟨Or.inr (Or.inl rfl), fun u9_ => absurd u9_ (by decide), hbc_, hvw_, Or.inl ⟨rfl, Or.inr ⟨A9_, by omega, ?_⟩⟩⟩
          have z9_ := i111_ (by omega)
          rw [← f3_, ← f2_]
          exact z9_
    · have cx2_ : ¬ ((S_.1 3 dd_ 4) ≤ n_) := of_decide_eq_false cx2_
      refine sm_T_go 3 (c1 := (57, [some (.inr (.inr (some (6, 0)))), some (.inr (.inr (some (3, dd_)))), some (.inr (.inr (some (5, ll_)))), some (.inr (.inr (some (2, cc_)))), some (.inl n_)], [.inl n_, .inr (.inr (some (59, 0)))], S_)) rfl ?_
      refine sm_T_iald (n := 1013) rfl rfl (by omega) (by omega) ?_
      have bx72_ : 0 ≤ S_.2.2.1 59 0 n_.toNat ∧ S_.2.2.1 59 0 n_.toNat ≤ 1 := hI_.2 59 0 _
      refine sm_T_b0 (a := 0) (z := 35) rfl (fun cx73_ => ?_) (fun cx73_ => ?_)
      · have cx73_ : (S_.2.2.1 59 0 n_.toNat) = 0 := of_decide_eq_true cx73_
        refine sm_T_inc (a := 4) (z := 1) (v := n_) (w := n_ + 1) rfl rfl (by omega) (by omega) (by omega) ?_ -- pc_ 93
        refine sm_T_go 1 (c1 := (39, [some (.inr (.inr (some (6, 0)))), some (.inr (.inr (some (3, dd_)))), some (.inr (.inr (some (5, ll_)))), some (.inr (.inr (some (2, cc_)))), some (.inl (n_ + 1))], [], S_)) rfl ?_
        refine ih_ (n_ + 1) S_ hI_ hF_ ⟨?_, ?_, ?_, ?_, ?_, ?_, ?_, ?_, ?_, ?_, trivial⟩ ?_
        · omega
        · exact htk_
        · exact htk2_
        · first | exact hk_ | exact m64_
        · first | exact hrr_ | exact r64_
        · first | exact wal_z hwl_ (by omega) (by omega) | exact w64_ (Or.inl (by omega)) | exact w64_ (Or.inr (by omega)) | exact w64_ (Or.inr (by rw [← t64_]; omega))
        · first | (have y8_ := B64_; exact B64_.1) | exact hbc_
        · first | (have y8_ := V64_; exact V64_) | exact hvw_
        · first | (have y8_ := C64_; intro x_ hx_ u_; rw [B64_.2.1] at hx_ ⊢; by_cases z9_ : (x_ : Int) < n_; exact D64_ x_ hx_ z9_; (rw [show x_ = n_.toNat by omega]; exact ⟨C64_, fun y9_ => by first | (exfalso; omega) | omega | (rw [← t64_]; omega)⟩)) | (intro x_ hx_ u_; by_cases z9_ : (x_ : Int) < n_; exact hcn_ x_ hx_ z9_; (exfalso; have y9_ := hx_.2.2; rw [show x_ = n_.toNat by omega] at y9_; omega))
        · exact hC_
        · omega
      · have cx73_ : ¬ ((S_.2.2.1 59 0 n_.toNat) = 0) := of_decide_eq_false cx73_
        have T9_ : btn dd_ F_ S_ n_.toNat := ⟨by omega, by omega, by (rcases (hbc_.1 n_.toNat (by omega)).1 with z9_ | z9_; (exfalso; omega); exact z9_)⟩
        have TR9_ := hbc_.2.2 n_.toNat T9_
        refine sm_T_go 2 (c1 := (64, [some (.inr (.inr (some (6, 0)))), some (.inr (.inr (some (3, dd_)))), some (.inr (.inr (some (5, ll_)))), some (.inr (.inr (some (2, cc_)))), some (.inl n_)], [.inl n_, .inr (.inr (some (6, 0)))], S_)) rfl ?_
        refine sm_T_cal (d1 := 4) (Q1 := vq_99n n_ dd_ F_ ll_ (btn dd_ F_ S_) S_) rfl rfl (by decide) (vc_99n n_ dd_ F_ ll_ (btn dd_ F_ S_) S_ hI_ (by exact htk_) (by exact htk2_) (by exact dgr_fr hg_ hF_ rfl rfl rfl rfl rfl) (by exact swp_fr hs_ hF_ rfl rfl rfl rfl) (by exact hk_) (by omega) (by omega) (by exact TR9_.1) (by (intro m9_; exact Nat.le_trans (TR9_.2 m9_) (by decide)))) (fun u_ Sx74_ px77_ => ?_)
        obtain ⟨rfl, hIx75_, hFx76_, px77_⟩ := px77_
        have hFx78_ : ai_fr (sx_W vw_91n) S0_ Sx74_ := ai_fr_tr hF_ (fr_le hFx76_ rfl)
        have hCx79_ : cdf cc_ S0_ Sx74_ := cdf_tr hC_ (cdf_fr hFx76_ rfl)
        have tx80_ : Sx74_.2.1 6 0 1 = some ll_ := (hFx76_.2.1 6 0 1 rfl).trans htk2_
        have tx81_ : Sx74_.2.1 6 0 0 = some dd_ := (hFx76_.2.1 6 0 0 rfl).trans htk_
        have ex82_ : Sx74_.1 3 dd_ 4 = S_.1 3 dd_ 4 := hFx76_.1 3 dd_ 4 rfl
        have p64_ := (px77_).1
        rw [f1_, f2_] at p64_
        have B64_ := bcm_fr hbc_ hFx76_
        have V64_ : bvw ll_ Sx74_ := bvw_cg hvw_ (hFx76_.1 5 ll_ 1 rfl) (fr_arr hFx76_ rfl) (fr_arr hFx76_ rfl) (fr_arr hFx76_ rfl)
        have W64_ := p64_.2.2
        have C64_ : cnw dd_ F_ ll_ (btn dd_ F_ S_) Sx74_ n_.toNat := by (have x9_ := (px77_).2; rw [show (2 * n_).toNat = 2 * n_.toNat by omega, show (2 * n_ + 1).toNat = 2 * n_.toNat + 1 by omega] at x9_; exact cnw_nw TR9_.1 (by omega) x9_ (fr_arr hFx76_ rfl) (fr_arr hFx76_ rfl) (fr_arr hFx76_ rfl) (fr_arr hFx76_ rfl) (fr_arr hFx76_ rfl) (fr_arr hFx76_ rfl) (fr_arr hFx76_ rfl) (hFx76_.1 5 ll_ 1 rfl) (hFx76_.1 5 ll_ 2 rfl) (fun j_ hj_ => (W64_.1 j_ (by omega) (by omega)).1))
        have D64_ : ∀ x_ : Nat, btn dd_ F_ S_ x_ → (x_ : Int) < n_ → cnw dd_ F_ ll_ (btn dd_ F_ S_) Sx74_ x_ ∧ (Sx74_.2.2.1 60 0 x_ ≠ 0 → Sx74_.2.2.1 61 0 (2 * x_) < 268435456) := fun x_ hx_ hl9_ => by (have z9_ := hcn_ x_ hx_ hl9_; refine ⟨cnw_cg (hbc_.2.2 x_ hx_).1 z9_.1 (fr_arr hFx76_ rfl) (fr_arr hFx76_ rfl) (fr_arr hFx76_ rfl) (fr_arr hFx76_ rfl) (fr_arr hFx76_ rfl) (fr_arr hFx76_ rfl) (fr_arr hFx76_ rfl) (hFx76_.1 5 ll_ 1 rfl) (hFx76_.1 5 ll_ 2 rfl) (fun j_ hj_ => (W64_.1 j_ (by omega) (by omega)).1) (fun j_ h1_ h2_ => ⟨(W64_.1 j_ (by omega) (by omega)).2.1, (W64_.1 j_ (by omega) (by omega)).2.2⟩) (fun j_ h1_ h2_ => W64_.2 j_ (by omega)) (fun k_ => (hI_.2 55 (0 + ll_) k_).2), fun y9_ => ?_⟩; rw [fr_arr (t := 60) (i := 0) hFx76_ rfl] at y9_; rw [(W64_.1 (2 * x_) (by omega) (by omega)).1]; exact z9_.2 y9_)
        have e64_ : ((n_.toNat : Nat) : Int) = n_ := by omega
        have w64_ : (Sx74_.2.2.1 60 0 n_.toNat = 0 ∨ Sx74_.2.2.1 61 0 (2 * n_.toNat) < 268435456) → wal (1 + S0_.1 3 dd_ 1 + S0_.1 3 dd_ 2) (n_ + 1) ll_ Sx74_ := fun z9_ => by (have y9_ := wal_s (n_ := n_.toNat) (by rw [e64_]; exact hwl_) p64_.2.2 (by rw [e64_, show 2 * n_.toNat = (2 * n_).toNat by omega, show (2 * n_).toNat + 1 = (2 * n_ + 1).toNat by omega]; exact p64_.1) (by rw [e64_, show 2 * n_.toNat = (2 * n_).toNat by omega, show (2 * n_).toNat + 1 = (2 * n_ + 1).toNat by omega]; exact p64_.2.1) (fun k9_ => (hI_.2 55 (0 + ll_) k9_).2) (fr_arr hFx76_ rfl) (fr_arr hFx76_ rfl) (fr_arr hFx76_ rfl) (hFx76_.1 5 ll_ 2 rfl) z9_; rw [e64_] at y9_; exact y9_)
        have m64_ := mkd_fr hk_ hFx76_
        have r64_ := rtm_fr hrr_ hFx76_
        have t64_ : (2 * n_).toNat = 2 * n_.toNat := by omega
        refine sm_T_go 3 (c1 := (73, [some (.inr (.inr (some (6, 0)))), some (.inr (.inr (some (3, dd_)))), some (.inr (.inr (some (5, ll_)))), some (.inr (.inr (some (2, cc_)))), some (.inl n_)], [.inl n_, .inr (.inr (some (60, 0)))], Sx74_)) rfl ?_
        refine sm_T_iald (n := 1013) rfl rfl (by omega) (by omega) ?_
        have bx83_ : (-2147483648) ≤ Sx74_.2.2.1 60 0 n_.toNat ∧ Sx74_.2.2.1 60 0 n_.toNat ≤ 2147483647 := hIx75_.2 60 0 _
        refine sm_T_b0 (a := 0) (z := 19) rfl (fun cx84_ => ?_) (fun cx84_ => ?_)
        · have cx84_ : (Sx74_.2.2.1 60 0 n_.toNat) = 0 := of_decide_eq_true cx84_
          refine sm_T_inc (a := 4) (z := 1) (v := n_) (w := n_ + 1) rfl rfl (by omega) (by omega) (by omega) ?_ -- pc_ 93
          refine sm_T_go 1 (c1 := (39, [some (.inr (.inr (some (6, 0)))), some (.inr (.inr (some (3, dd_)))), some (.inr (.inr (some (5, ll_)))), some (.inr (.inr (some (2, cc_)))), some (.inl (n_ + 1))], [], Sx74_)) rfl ?_
          refine ih_ (n_ + 1) Sx74_ hIx75_ hFx78_ ⟨?_, ?_, ?_, ?_, ?_, ?_, ?_, ?_, ?_, ?_, trivial⟩ ?_
          · omega
          · exact tx81_
          · exact tx80_
          · first | exact hk_ | exact m64_
          · first | exact hrr_ | exact r64_
          · first | exact wal_z hwl_ (by omega) (by omega) | exact w64_ (Or.inl (by omega)) | exact w64_ (Or.inr (by omega)) | exact w64_ (Or.inr (by rw [← t64_]; omega))
          · first | (have y8_ := B64_; exact B64_.1) | exact hbc_
          · first | (have y8_ := V64_; exact V64_) | exact hvw_
          · first | (have y8_ := C64_; intro x_ hx_ u_; rw [B64_.2.1] at hx_ ⊢; by_cases z9_ : (x_ : Int) < n_; exact D64_ x_ hx_ z9_; (rw [show x_ = n_.toNat by omega]; exact ⟨C64_, fun y9_ => by first | (exfalso; omega) | omega | (rw [← t64_]; omega)⟩)) | (intro x_ hx_ u_; by_cases z9_ : (x_ : Int) < n_; exact hcn_ x_ hx_ z9_; (exfalso; have y9_ := hx_.2.2; rw [show x_ = n_.toNat by omega] at y9_; omega))
          · exact hCx79_
          · omega
        · have cx84_ : ¬ ((Sx74_.2.2.1 60 0 n_.toNat) = 0) := of_decide_eq_false cx84_
          refine sm_T_go 4 (c1 := (84, [some (.inr (.inr (some (6, 0)))), some (.inr (.inr (some (3, dd_)))), some (.inr (.inr (some (5, ll_)))), some (.inr (.inr (some (2, cc_)))), some (.inl n_)], [.inl n_, .inl 2, .inr (.inr (some (61, 0)))], Sx74_)) rfl ?_
          refine sm_T_bin (w := 2 * n_) rfl (bi_mul (by omega) (by omega) (by omega)) ?_ -- pc_ 84
          refine sm_T_iald (n := 2026) rfl rfl (by omega) (by omega) ?_
          have bx85_ : 0 ≤ Sx74_.2.2.1 61 0 (2 * n_).toNat ∧ Sx74_.2.2.1 61 0 (2 * n_).toNat ≤ 268435456 := hIx75_.2 61 0 _
          refine sm_T_nt (u := some (.inl 268435456)) (S1 := Sx74_) rfl rfl rfl ?_
          refine sm_T_br (a := 2) (z := 5) rfl (fun cx86_ => ?_) (fun cx86_ => ?_)
          · have cx86_ : (Sx74_.2.2.1 61 0 (2 * n_).toNat) < 268435456 := of_decide_eq_true cx86_
            refine sm_T_inc (a := 4) (z := 1) (v := n_) (w := n_ + 1) rfl rfl (by omega) (by omega) (by omega) ?_ -- pc_ 93
            refine sm_T_go 1 (c1 := (39, [some (.inr (.inr (some (6, 0)))), some (.inr (.inr (some (3, dd_)))), some (.inr (.inr (some (5, ll_)))), some (.inr (.inr (some (2, cc_)))), some (.inl (n_ + 1))], [], Sx74_)) rfl ?_
            refine ih_ (n_ + 1) Sx74_ hIx75_ hFx78_ ⟨?_, ?_, ?_, ?_, ?_, ?_, ?_, ?_, ?_, ?_, trivial⟩ ?_
            · omega
            · exact tx81_
            · exact tx80_
            · first | exact hk_ | exact m64_
            · first | exact hrr_ | exact r64_
            · first | exact wal_z hwl_ (by omega) (by omega) | exact w64_ (Or.inl (by omega)) | exact w64_ (Or.inr (by omega)) | exact w64_ (Or.inr (by rw [← t64_]; omega))
            · first | (have y8_ := B64_; exact B64_.1) | exact hbc_
            · first | (have y8_ := V64_; exact V64_) | exact hvw_
            · first | (have y8_ := C64_; intro x_ hx_ u_; rw [B64_.2.1] at hx_ ⊢; by_cases z9_ : (x_ : Int) < n_; exact D64_ x_ hx_ z9_; (rw [show x_ = n_.toNat by omega]; exact ⟨C64_, fun y9_ => by first | (exfalso; omega) | omega | (rw [← t64_]; omega)⟩)) | (intro x_ hx_ u_; by_cases z9_ : (x_ : Int) < n_; exact hcn_ x_ hx_ z9_; (exfalso; have y9_ := hx_.2.2; rw [show x_ = n_.toNat by omega] at y9_; omega))
            · exact hCx79_
            · omega
          · have cx86_ : ¬ ((Sx74_.2.2.1 61 0 (2 * n_).toNat) < 268435456) := of_decide_eq_false cx86_
            refine sm_T_go 1 (c1 := (92, [some (.inr (.inr (some (6, 0)))), some (.inr (.inr (some (3, dd_)))), some (.inr (.inr (some (5, ll_)))), some (.inr (.inr (some (2, cc_)))), some (.inl n_)], [.inl (-1)], Sx74_)) rfl ?_
            refine sm_T_ri rfl ⟨_, _, rfl, _, rfl, hIx75_, hFx78_, ?_⟩
            refine ⟨hCx79_, ?_⟩
            refine ⟨Or.inr (Or.inl rfl), fun u9_ => absurd u9_ (by decide), B64_.1, V64_, Or.inl ⟨rfl, Or.inl ⟨n_.toNat, by (rw [B64_.2.1]; exact T9_), by omega, by (rw [← t64_]; omega), fun x_ hx_ hl9_ => ?_⟩⟩⟩
            rw [B64_.2.1] at hx_ ⊢
            by_cases z9_ : (x_ : Int) < n_
            · exact (D64_ x_ hx_ z9_).1
            · rw [show x_ = n_.toNat by omega]; exact C64_
set_option maxHeartbeats 4000000 in
theorem vc_91n {sc_ : Nat × (Nat → Int)} (dd_ : Nat) (ll_ : Nat) (cc_ : Nat) (F_ : Nat) (S0_ : sm_S) (hI_ : gi S0_) (hsw : swd F_ (S0_.1 3 dd_ 4).toNat (S0_.2.2.1 42 (0 + dd_)) (S0_.2.2.1 43 (0 + dd_)) (S0_.2.2.1 44 (0 + dd_))) (hok_ : dOk dd_ S0_) (hg_ : dgr dd_ F_ S0_) (hr_ : drt dd_ S0_) (hs_ : swp dd_ F_ S0_) (hl_ : ll_ < 3) : sm_T (mt_P sc_) 6 91 (0, [some (.inr (.inr (some (6, 0)))), some (.inr (.inr (some (3, dd_)))), some (.inr (.inr (some (5, ll_)))), some (.inr (.inr (some (2, cc_)))), none], [], S0_) (fun ro9_ => ∃ u_ S1_, ro9_ = (.inl u_, S1_, 0) ∧ vq_91n dd_ ll_ cc_ F_ S0_ u_ S1_) := by
  have hF_ : ai_fr (sx_W vw_91n) S0_ S0_ := ai_fr_rf
  have hC_ : cdf cc_ S0_ S0_ := cdf_rf
  have g1_ := hg_.1
  have g2_ := hg_.2.1
  have r1_ := hr_.1
  have hIx1_ : gi (sm_pR S0_ 6 0 0 (some dd_)) := gi_pR hI_
  have hFx2_ : ai_fr (sx_W vw_91n) S0_ (sm_pR S0_ 6 0 0 (some dd_)) := ai_fr_tr hF_ (ai_fr_pR rfl)
  have tx3_ : (sm_pR S0_ 6 0 0 (some dd_)).2.1 6 0 0 = some dd_ := (sm_up_self (f := S0_.2.1) (t := 6) (i := 0) (k := 0) (v := some dd_))
  have hCx4_ : cdf cc_ S0_ (sm_pR S0_ 6 0 0 (some dd_)) := cdf_pR hC_
  have hIx5_ : gi (sm_pR (sm_pR S0_ 6 0 0 (some dd_)) 6 0 1 (some ll_)) := gi_pR hIx1_
  have hFx6_ : ai_fr (sx_W vw_91n) S0_ (sm_pR (sm_pR S0_ 6 0 0 (some dd_)) 6 0 1 (some ll_)) := ai_fr_tr hFx2_ (ai_fr_pR rfl)
  have tx7_ : (sm_pR (sm_pR S0_ 6 0 0 (some dd_)) 6 0 1 (some ll_)).2.1 6 0 0 = some dd_ := (sm_up_ne (f := (sm_pR S0_ 6 0 0 (some dd_)).2.1) (t := 6) (i := 0) (k := 1) (v := some ll_) (by decide)).trans tx3_
  have tx8_ : (sm_pR (sm_pR S0_ 6 0 0 (some dd_)) 6 0 1 (some ll_)).2.1 6 0 1 = some ll_ := sm_up_self (f := (sm_pR S0_ 6 0 0 (some dd_)).2.1) (t := 6) (i := 0) (k := 1) (v := some ll_)
  have hCx9_ : cdf cc_ S0_ (sm_pR (sm_pR S0_ 6 0 0 (some dd_)) 6 0 1 (some ll_)) := cdf_pR hCx4_
  refine sm_T_go 7 (c1 := (11, [some (.inr (.inr (some (6, 0)))), some (.inr (.inr (some (3, dd_)))), some (.inr (.inr (some (5, ll_)))), some (.inr (.inr (some (2, cc_)))), none], [.inr (.inr (some (6, 0)))], sm_pR (sm_pR S0_ 6 0 0 (some dd_)) 6 0 1 (some ll_))) rfl ?_
  refine sm_T_gr rfl rfl tx7_ ?_
  refine sm_T_go 2 (c1 := (18, [some (.inr (.inr (some (6, 0)))), some (.inr (.inr (some (3, dd_)))), some (.inr (.inr (some (5, ll_)))), some (.inr (.inr (some (2, cc_)))), none], [.inr (.inr (some (59, 0))), .inr (.inr (some (3, dd_)))], sm_pR (sm_pR S0_ 6 0 0 (some dd_)) 6 0 1 (some ll_))) rfl ?_
  refine sm_T_cal (d1 := 1) (Q1 := vq_67mn dd_ F_ (sm_pR (sm_pR S0_ 6 0 0 (some dd_)) 6 0 1 (some ll_))) rfl rfl (by decide) (vc_67mn dd_ F_ (sm_pR (sm_pR S0_ 6 0 0 (some dd_)) 6 0 1 (some ll_)) hIx5_ (by exact dgr_fr hg_ hFx6_ rfl rfl rfl rfl rfl) (by exact drt_fr hr_ hFx6_ rfl rfl rfl rfl rfl) (by exact swp_fr hs_ hFx6_ rfl rfl rfl rfl)) (fun u_ Sx10_ px13_ => ?_)
  obtain ⟨vx15_, rfl, hIx11_, hFx12_, px13_⟩ := px13_
  have hFx14_ : ai_fr (sx_W vw_91n) S0_ Sx10_ := ai_fr_tr hFx6_ (fr_le hFx12_ rfl)
  have hCx16_ : cdf cc_ S0_ Sx10_ := cdf_tr hCx9_ (cdf_fr hFx12_ rfl)
  have tx17_ : Sx10_.2.1 6 0 1 = some ll_ := (hFx12_.2.1 6 0 1 rfl).trans tx8_
  have tx18_ : Sx10_.2.1 6 0 0 = some dd_ := (hFx12_.2.1 6 0 0 rfl).trans tx7_
  have k18_ := (px13_).1.2
  have b18_ := bnd_fr (dd_ := dd_) (F_ := F_) hFx12_
  have nf18_ : ∀ q_ : Nat, (q_ : Int) < Sx10_.1 3 dd_ 4 → (Sx10_.2.2.1 59 0 q_ = 0 ∨ Sx10_.2.2.1 59 0 q_ = 1) ∧ (Sx10_.2.2.1 59 0 q_ = 1 ↔ bnd9 dd_ F_ Sx10_ q_ = true) := fun q_ hq_ => by (have c9_ : Sx10_.1 3 dd_ 4 ≤ 1013 := (hIx11_.1 3 dd_ 4 rfl).2; refine ⟨by (rcases k18_.1 q_ (by omega) with z9_ | z9_; exact Or.inl z9_; exact Or.inr z9_.1), ?_⟩; rw [b18_.1]; exact (px13_).2.2 q_ (by (have z9_ := hFx12_.1 3 dd_ 4 rfl; omega)))
  refine sm_T_go 2 (c1 := (23, [some (.inr (.inr (some (6, 0)))), some (.inr (.inr (some (3, dd_)))), some (.inr (.inr (some (5, ll_)))), some (.inr (.inr (some (2, cc_)))), none], [.inr (.inr (some (6, 0)))], Sx10_)) rfl ?_
  refine sm_T_cal (d1 := 2) (Q1 := vq_95n dd_ F_ Sx10_) rfl rfl (by decide) (vc_95n dd_ F_ Sx10_ hIx11_ (by exact tx18_) (by exact drt_fr hr_ hFx14_ rfl rfl rfl rfl rfl) (by exact dgr_fr hg_ hFx14_ rfl rfl rfl rfl rfl) (by exact swp_fr hs_ hFx14_ rfl rfl rfl rfl) (by exact nf18_)) (fun u_ Sx19_ px22_ => ?_)
  obtain ⟨rfl, hIx20_, hFx21_, px22_⟩ := px22_
  have hFx23_ : ai_fr (sx_W vw_91n) S0_ Sx19_ := ai_fr_tr hFx14_ (fr_le hFx21_ rfl)
  have hCx24_ : cdf cc_ S0_ Sx19_ := cdf_tr hCx16_ (cdf_fr hFx21_ rfl)
  have tx25_ : Sx19_.2.1 6 0 1 = some ll_ := (hFx21_.2.1 6 0 1 rfl).trans tx17_
  have tx26_ : Sx19_.2.1 6 0 0 = some dd_ := (hFx21_.2.1 6 0 0 rfl).trans tx18_
  have q23_ : rtm dd_ Sx19_ := rtm_of (px22_).2 hFx21_
  have k23_ := mkd_fr k18_ hFx21_
  have b23_ := bnd_fr (dd_ := dd_) (F_ := F_) hFx21_
  have z23_ := hFx21_.1 3 dd_ 4 rfl
  have y23_ : Sx19_.2.2.1 59 0 = _ := fr_arr (t := 59) (i := 0) hFx21_ rfl
  have nf23_ : ∀ q_ : Nat, (q_ : Int) < Sx19_.1 3 dd_ 4 → (Sx19_.2.2.1 59 0 q_ = 0 ∨ Sx19_.2.2.1 59 0 q_ = 1) ∧ (Sx19_.2.2.1 59 0 q_ = 1 ↔ bnd9 dd_ F_ Sx19_ q_ = true) := fun q_ hq_ => by (rw [y23_, b23_.1]; exact nf18_ q_ (by omega))
  have u23_ : ∀ q_ : Nat, (q_ : Int) < Sx19_.1 3 dd_ 4 → Sx19_.2.2.1 60 0 q_ = if 1 < bus dd_ F_ Sx19_ q_ then 1 else 0 := fun q_ hq_ => by (rw [b23_.2]; exact (px22_).1 q_ (by omega))
  have B23_ : bcm dd_ F_ Sx19_ := bcm_of (dgr_fr hg_ hFx23_ rfl rfl rfl rfl rfl) (swp_fr hs_ hFx23_ rfl rfl rfl rfl) k23_ (by (rw [hFx23_.1 3 dd_ 4 rfl, fr_arr (t := 42) (i := 0 + dd_) hFx23_ rfl, fr_arr (t := 43) (i := 0 + dd_) hFx23_ rfl, fr_arr (t := 44) (i := 0 + dd_) hFx23_ rfl]; exact hsw)) ((hIx20_).1 3 dd_ 4 rfl).2 nf23_ u23_
  refine sm_T_go 1 (c1 := (27, [some (.inr (.inr (some (6, 0)))), some (.inr (.inr (some (3, dd_)))), some (.inr (.inr (some (5, ll_)))), some (.inr (.inr (some (2, cc_)))), none], [.inr (.inr (some (6, 0)))], Sx19_)) rfl ?_
  refine sm_T_cal (d1 := 1) (Q1 := vq_97n ll_ Sx19_) rfl rfl (by decide) (vc_97n ll_ Sx19_ hIx20_ (by exact tx25_)) (fun u_ Sx27_ px30_ => ?_)
  obtain ⟨rfl, hIx28_, hFx29_, px30_⟩ := px30_
  have hFx31_ : ai_fr (sx_W vw_91n) S0_ Sx27_ := ai_fr_tr hFx23_ (fr_le hFx29_ rfl)
  have hCx32_ : cdf cc_ S0_ Sx27_ := cdf_tr hCx24_ (cdf_fr hFx29_ rfl)
  have tx33_ : Sx27_.2.1 6 0 1 = some ll_ := (hFx29_.2.1 6 0 1 rfl).trans tx25_
  have tx34_ : Sx27_.2.1 6 0 0 = some dd_ := (hFx29_.2.1 6 0 0 rfl).trans tx26_
  have B27_ := (bcm_fr B23_ hFx29_).1
  have V27_ : bvw ll_ Sx27_ := fun c_ v_ a_ b_ d_ => by (rw [hFx29_.1 5 ll_ 1 rfl] at a_; rw [fr_arr (t := 55) (i := 0 + ll_) hFx29_ rfl] at b_ d_; have z9_ := px30_ c_ v_ a_ b_ d_; unfold vwd at z9_ ⊢; rw [fr_arr (t := 55) (i := 0 + ll_) hFx29_ rfl, fr_arr (t := 56) (i := 0 + ll_) hFx29_ rfl]; exact z9_)
  have q27_ := rtm_fr q23_ hFx29_
  have k27_ := mkd_fr k23_ hFx29_
  have z1_ := hFx31_.1 3 dd_ 1 rfl
  have z2_ := hFx31_.1 3 dd_ 2 rfl
  refine sm_T_go 1 (c1 := (31, [some (.inr (.inr (some (6, 0)))), some (.inr (.inr (some (3, dd_)))), some (.inr (.inr (some (5, ll_)))), some (.inr (.inr (some (2, cc_)))), none], [.inr (.inr (some (6, 0)))], Sx27_)) rfl ?_
  refine sm_T_gr rfl rfl tx34_ ?_
  refine sm_T_cal (d1 := 0) (Q1 := vq_63 dd_ Sx27_) rfl rfl (by decide) (vc_63 dd_ Sx27_ hIx28_ (by omega)) (fun u_ Sx35_ px38_ => ?_)
  obtain ⟨rfl, vx40_, rfl, px38_⟩ := px38_
  have a34_ := px38_
  refine sm_T_go 1 (c1 := (39, [some (.inr (.inr (some (6, 0)))), some (.inr (.inr (some (3, dd_)))), some (.inr (.inr (some (5, ll_)))), some (.inr (.inr (some (2, cc_)))), some (.inl vx40_)], [], Sx27_)) rfl ?_
  refine (vl_91n dd_ ll_ cc_ F_ S0_ hsw hok_ hg_ hr_ hs_ hl_ _) vx40_ Sx27_ hIx28_ hFx31_ ⟨?_, ?_, ?_, ?_, ?_, ?_, ?_, ?_, ?_, ?_, trivial⟩ (Nat.lt_succ_self _)
  · omega
  · exact tx34_
  · exact tx33_
  · exact k27_
  · exact q27_
  · (intro k9_ u9_ w9_ y9_; exfalso; omega)
  · exact B27_
  · exact V27_
  · (intro x_ hx_ u_; exfalso; have z9_ := hx_.1; omega)
  · exact hCx32_
end
/-! 99.ztZj -/
section
/-! a chip is kept: the reference; written by wip/p55/gen/vg -/

/-! what keepChip leaves -/
def kcp (c_ d_ : Int) (S_ S'_ : sm_S) : Prop := S'_.2.2.1 222 0 c_.toNat = 1 ∧ (S'_.2.2.1 223 0 c_.toNat = S_.2.2.1 154 0 d_.toNat ∧ S'_.2.2.1 224 0 c_.toNat = S_.2.2.1 155 0 d_.toNat ∧ S'_.2.2.1 225 0 c_.toNat = S_.2.2.1 156 0 d_.toNat ∧ S'_.2.2.1 226 0 c_.toNat = S_.2.2.1 157 0 d_.toNat ∧ S'_.2.2.1 227 0 c_.toNat = S_.2.2.1 157 0 d_.toNat ∧ S'_.2.2.1 228 0 c_.toNat = S_.1 13 0 129) ∧ (∀ j9_ : Int, 0 ≤ j9_ → j9_ < S_.1 13 0 129 → S'_.2.2.1 229 0 (150 * c_ + j9_).toNat = S_.2.2.1 216 0 j9_.toNat) ∧ (∀ j9_ : Int, 0 ≤ j9_ → j9_ < 3 * S_.1 13 0 129 → S'_.2.2.1 230 0 (450 * c_ + j9_).toNat = S_.2.2.1 217 0 j9_.toNat) ∧ S'_.2.2.1 233 0 c_.toNat = S_.2.2.1 184 0 (S_.1 13 0 106).toNat ∧ (∀ j9_ : Int, 0 ≤ j9_ → j9_ < 12 → S'_.2.2.1 234 0 (12 * c_ + j9_).toNat = S_.2.2.1 185 0 (12 * S_.1 13 0 106 + j9_).toNat ∧ S'_.2.2.1 235 0 (12 * c_ + j9_).toNat = S_.2.2.1 186 0 (12 * S_.1 13 0 106 + j9_).toNat ∧ S'_.2.2.1 236 0 (12 * c_ + j9_).toNat = S_.2.2.1 187 0 (12 * S_.1 13 0 106 + j9_).toNat ∧ S'_.2.2.1 237 0 (12 * c_ + j9_).toNat = S_.2.2.1 188 0 (12 * S_.1 13 0 106 + j9_).toNat) ∧ S'_.2.2.1 231 0 = S_.2.2.1 231 0 ∧ S'_.2.2.1 232 0 = S_.2.2.1 232 0 ∧ S'_.2.2.1 240 0 c_.toNat = 0

/-! M_.keepChip -/
def vw_420n : sx_Wl := ([], [222, 223, 224, 225, 226, 227, 228, 229, 230, 233, 234, 235, 236, 237, 240, 251, 263, 272, 289, 294], [])
def vq_420n (c_ : Int) (F_ : Int) (N_ : Int) (d_ : Int) (S0_ : sm_S) (u_ : Option sm_V) (S1_ : sm_S) : Prop := u_ = none ∧ gi S1_ ∧ ai_fr (sx_W vw_420n) S0_ S1_ ∧ (rcf c_.toNat S0_ S1_ ∧ (cRk c_ S1_ ∧ kcp c_ d_ S0_ S1_))
set_option maxHeartbeats 2000000 in
set_option maxRecDepth 20000 in
theorem vl_420n {sc_ : Nat × (Nat → Int)} (c_ : Int) (F_ : Int) (N_ : Int) (d_ : Int) (S0_ : sm_S) (hd_ : dmp F_ N_ d_ S0_) (hc_ : 0 ≤ c_ ∧ c_ ≤ 3) (hmd_ : mad F_ S0_) (hl_ : (S0_.1 13 0 134) = 0) (hg_ : 0 ≤ (S0_.1 13 0 129) ∧ (S0_.1 13 0 129) ≤ 150) (hlb_ : 0 ≤ (S0_.1 13 0 106) ∧ (S0_.1 13 0 106) ≤ 2) (ho_ : (∀ k_ : Int, 0 ≤ k_ → k_ < S0_.2.2.1 156 0 d_.toNat → S0_.2.2.1 231 0 (16 * c_ + k_).toNat < F_ - 1 + S0_.1 13 0 129) ∧ ∀ k_ : Int, 0 ≤ k_ → k_ < S0_.2.2.1 155 0 d_.toNat → S0_.2.2.1 232 0 (6 * c_ + k_).toNat < F_ - 1 + S0_.1 13 0 129) : ∀ nn_ : Nat, (∀ (g_ : Int) (S_ : sm_S), gi S_ → ai_fr (sx_W vw_420n) S0_ S_ → ((0 ≤ g_ ∧ g_ ≤ S0_.1 13 0 129) ∧ (S_.2.2.1 223 0 c_.toNat = S0_.2.2.1 154 0 d_.toNat ∧ S_.2.2.1 224 0 c_.toNat = S0_.2.2.1 155 0 d_.toNat ∧ S_.2.2.1 225 0 c_.toNat = S0_.2.2.1 156 0 d_.toNat ∧ S_.2.2.1 226 0 c_.toNat = S0_.2.2.1 157 0 d_.toNat ∧ S_.2.2.1 227 0 c_.toNat = S0_.2.2.1 157 0 d_.toNat ∧ S_.2.2.1 228 0 c_.toNat = S0_.1 13 0 129) ∧ (S_.2.2.1 222 0 c_.toNat = 1) ∧ (∀ j9_ : Int, 0 ≤ j9_ → j9_ < g_ → S_.2.2.1 229 0 (150 * c_ + j9_).toNat = S0_.2.2.1 216 0 j9_.toNat) ∧ (∀ j9_ : Int, 0 ≤ j9_ → j9_ < 3 * g_ → S_.2.2.1 230 0 (450 * c_ + j9_).toNat = S0_.2.2.1 217 0 j9_.toNat) ∧ (rcf c_.toNat S0_ S_) ∧ True) → ((9000 - 10 * g_).toNat) < nn_ → sm_T (mt_P sc_) 1 420 (91, [some (.inr (.inr (some (13, 0)))), some (.inl c_), some (.inl g_), none], [], S_) (fun ro9_ => ∃ u_ S1_, ro9_ = (.inl u_, S1_, 0) ∧ vq_420n c_ F_ N_ d_ S0_ u_ S1_)) ∧ (∀ (g_ : Int) (k_ : Int) (S_ : sm_S), gi S_ → ai_fr (sx_W vw_420n) S0_ S_ → ((0 ≤ g_ ∧ g_ < S0_.1 13 0 129 ∧ 0 ≤ k_ ∧ k_ ≤ 3) ∧ (S_.2.2.1 223 0 c_.toNat = S0_.2.2.1 154 0 d_.toNat ∧ S_.2.2.1 224 0 c_.toNat = S0_.2.2.1 155 0 d_.toNat ∧ S_.2.2.1 225 0 c_.toNat = S0_.2.2.1 156 0 d_.toNat ∧ S_.2.2.1 226 0 c_.toNat = S0_.2.2.1 157 0 d_.toNat ∧ S_.2.2.1 227 0 c_.toNat = S0_.2.2.1 157 0 d_.toNat ∧ S_.2.2.1 228 0 c_.toNat = S0_.1 13 0 129) ∧ (S_.2.2.1 222 0 c_.toNat = 1) ∧ (∀ j9_ : Int, 0 ≤ j9_ → j9_ < g_ + 1 → S_.2.2.1 229 0 (150 * c_ + j9_).toNat = S0_.2.2.1 216 0 j9_.toNat) ∧ (∀ j9_ : Int, 0 ≤ j9_ → j9_ < 3 * g_ + k_ → S_.2.2.1 230 0 (450 * c_ + j9_).toNat = S0_.2.2.1 217 0 j9_.toNat) ∧ (rcf c_.toNat S0_ S_) ∧ True) → ((8995 - 10 * g_ - k_).toNat) < nn_ → sm_T (mt_P sc_) 1 420 (119, [some (.inr (.inr (some (13, 0)))), some (.inl c_), some (.inl g_), some (.inl k_)], [], S_) (fun ro9_ => ∃ u_ S1_, ro9_ = (.inl u_, S1_, 0) ∧ vq_420n c_ F_ N_ d_ S0_ u_ S1_)) ∧ (∀ (i_ : Int) (S_ : sm_S), gi S_ → ai_fr (sx_W vw_420n) S0_ S_ → ((0 ≤ i_ ∧ i_ ≤ 12) ∧ (S_.2.2.1 223 0 c_.toNat = S0_.2.2.1 154 0 d_.toNat ∧ S_.2.2.1 224 0 c_.toNat = S0_.2.2.1 155 0 d_.toNat ∧ S_.2.2.1 225 0 c_.toNat = S0_.2.2.1 156 0 d_.toNat ∧ S_.2.2.1 226 0 c_.toNat = S0_.2.2.1 157 0 d_.toNat ∧ S_.2.2.1 227 0 c_.toNat = S0_.2.2.1 157 0 d_.toNat ∧ S_.2.2.1 228 0 c_.toNat = S0_.1 13 0 129) ∧ (S_.2.2.1 222 0 c_.toNat = 1) ∧ (S_.2.2.1 233 0 c_.toNat = S0_.2.2.1 184 0 (S0_.1 13 0 106).toNat) ∧ (∀ j9_ : Int, 0 ≤ j9_ → j9_ < i_ → S_.2.2.1 235 0 (12 * c_ + j9_).toNat = S0_.2.2.1 186 0 (12 * S0_.1 13 0 106 + j9_).toNat ∧ S_.2.2.1 236 0 (12 * c_ + j9_).toNat = S0_.2.2.1 187 0 (12 * S0_.1 13 0 106 + j9_).toNat ∧ S_.2.2.1 237 0 (12 * c_ + j9_).toNat = S0_.2.2.1 188 0 (12 * S0_.1 13 0 106 + j9_).toNat) ∧ (∀ j9_ : Int, 0 ≤ j9_ → j9_ < S0_.1 13 0 129 → S_.2.2.1 229 0 (150 * c_ + j9_).toNat = S0_.2.2.1 216 0 j9_.toNat) ∧ (∀ j9_ : Int, 0 ≤ j9_ → j9_ < 3 * S0_.1 13 0 129 → S_.2.2.1 230 0 (450 * c_ + j9_).toNat = S0_.2.2.1 217 0 j9_.toNat) ∧ (∀ j9_ : Int, 0 ≤ j9_ → j9_ < i_ → S_.2.2.1 234 0 (12 * c_ + j9_).toNat = S0_.2.2.1 185 0 (12 * S0_.1 13 0 106 + j9_).toNat) ∧ (rcf c_.toNat S0_ S_) ∧ True) → ((500 - i_).toNat) < nn_ → sm_T (mt_P sc_) 1 420 (179, [some (.inr (.inr (some (13, 0)))), some (.inl c_), some (.inl i_), none], [], S_) (fun ro9_ => ∃ u_ S1_, ro9_ = (.inl u_, S1_, 0) ∧ vq_420n c_ F_ N_ d_ S0_ u_ S1_)) := by
  intro nn_
  induction nn_ with
  | zero => exact ⟨fun _ _ _ _ _ h_ => absurd h_ (Nat.not_lt_zero _), fun _ _ _ _ _ _ h_ => absurd h_ (Nat.not_lt_zero _), fun _ _ _ _ _ h_ => absurd h_ (Nat.not_lt_zero _)⟩
  | succ nn_ ih_ =>
    refine ⟨?_, ?_, ?_⟩
    · rintro g_ S_ hI_ hF_ ⟨h0_, h1_, hT_, h2_, h3_, hK_, -⟩ hm_
      have d1_ := hd_.1
      have s129_ : S_.1 13 0 129 = S0_.1 13 0 129 := hF_.1 13 0 129 rfl
      have s106_ : S_.1 13 0 106 = S0_.1 13 0 106 := hF_.1 13 0 106 rfl
      have s105_ : S_.1 13 0 105 = S0_.1 13 0 105 := hF_.1 13 0 105 rfl
      have f216_ : S_.2.2.1 216 0 = S0_.2.2.1 216 0 := fr_arr hF_ rfl
      have f217_ : S_.2.2.1 217 0 = S0_.2.2.1 217 0 := fr_arr hF_ rfl
      have f184_ : S_.2.2.1 184 0 = S0_.2.2.1 184 0 := fr_arr hF_ rfl
      have f185_ : S_.2.2.1 185 0 = S0_.2.2.1 185 0 := fr_arr hF_ rfl
      have f186_ : S_.2.2.1 186 0 = S0_.2.2.1 186 0 := fr_arr hF_ rfl
      have f187_ : S_.2.2.1 187 0 = S0_.2.2.1 187 0 := fr_arr hF_ rfl
      have f188_ : S_.2.2.1 188 0 = S0_.2.2.1 188 0 := fr_arr hF_ rfl
      have f231_ : S_.2.2.1 231 0 = S0_.2.2.1 231 0 := fr_arr hF_ rfl
      have f232_ : S_.2.2.1 232 0 = S0_.2.2.1 232 0 := fr_arr hF_ rfl
      have bx1_ : 0 ≤ S_.1 13 0 129 ∧ S_.1 13 0 129 ≤ 8191 := hI_.1 13 0 129 rfl
      refine sm_T_go 3 (c1 := (96, [some (.inr (.inr (some (13, 0)))), some (.inl c_), some (.inl g_), none], [.inl (S_.1 13 0 129), .inl g_], S_)) rfl ?_
      refine sm_T_br (a := 3) (z := 66) rfl (fun cx2_ => ?_) (fun cx2_ => ?_)
      · have cx2_ : (S_.1 13 0 129) ≤ g_ := of_decide_eq_true cx2_
        have bx3_ : 0 ≤ S_.1 13 0 106 ∧ S_.1 13 0 106 ≤ 2 := hI_.1 13 0 106 rfl
        refine sm_T_go 7 (c1 := (175, [some (.inr (.inr (some (13, 0)))), some (.inl c_), some (.inl g_), none], [.inl (S_.1 13 0 106), .inr (.inr (some (184, 0))), .inl c_, .inr (.inr (some (233, 0)))], S_)) rfl ?_
        refine sm_T_iald (n := 3) rfl rfl (by omega) (by omega) ?_
        have bx4_ : 0 ≤ S_.2.2.1 184 0 (S_.1 13 0 106).toNat ∧ S_.2.2.1 184 0 (S_.1 13 0 106).toNat ≤ 12 := hI_.2 184 0 _
        refine sm_T_iast (n := 4) rfl rfl (by omega) (by omega) ?_
        have hIx5_ : gi (sm_aI S_ 233 0 c_.toNat (S_.2.2.1 184 0 (S_.1 13 0 106).toNat)) := gi_aI hI_ (show 0 ≤ (S_.2.2.1 184 0 (S_.1 13 0 106).toNat) ∧ (S_.2.2.1 184 0 (S_.1 13 0 106).toNat) ≤ 12 from ⟨by omega, by omega⟩)
        have hFx6_ : ai_fr (sx_W vw_420n) S0_ (sm_aI S_ 233 0 c_.toNat (S_.2.2.1 184 0 (S_.1 13 0 106).toNat)) := ai_fr_tr hF_ (ai_fr_aI rfl)
        have hKx7_ : rcf c_.toNat S0_ (sm_aI S_ 233 0 c_.toNat (S_.2.2.1 184 0 (S_.1 13 0 106).toNat)) := rcf_aI hK_ (Or.inr (by rw [show rcs 233 = 1 from rfl]; omega))
        refine sm_T_go 2 (c1 := (179, [some (.inr (.inr (some (13, 0)))), some (.inl c_), some (.inl 0), none], [], sm_aI S_ 233 0 c_.toNat (S_.2.2.1 184 0 (S_.1 13 0 106).toNat))) rfl ?_
        refine ih_.2.2 0 (sm_aI S_ 233 0 c_.toNat (S_.2.2.1 184 0 (S_.1 13 0 106).toNat)) hIx5_ hFx6_ ⟨?_, ?_, ?_, ?_, ?_, ?_, ?_, ?_, ?_, trivial⟩ ?_
        · omega
        · (try simp only [rd_eq, rd_ne, rf_eq, rf_nk, rf_nt, rd_fa, rd_af, rd_fl, rd_al, rd_lf, rd_la, rd_leq, rd_lne, rd_fr, rd_ar, ne_eq, Nat.reduceEqDiff, not_false_eq_true])
          exact h1_
        · (try simp only [rd_eq, rd_ne, rf_eq, rf_nk, rf_nt, rd_fa, rd_af, rd_fl, rd_al, rd_lf, rd_la, rd_leq, rd_lne, rd_fr, rd_ar, ne_eq, Nat.reduceEqDiff, not_false_eq_true])
          exact hT_
        · (try simp only [rd_eq, rd_ne, rf_eq, rf_nk, rf_nt, rd_fa, rd_af, rd_fl, rd_al, rd_lf, rd_la, rd_leq, rd_lne, rd_fr, rd_ar, ne_eq, Nat.reduceEqDiff, not_false_eq_true])
          first | (rw [if_pos trivial, s106_]; exact congrFun f184_ _) | (rw [if_pos rfl, s106_]; exact congrFun f184_ _) | (rw [s106_]; exact congrFun f184_ _)
        · (intro j9_ u0_ u1_; exfalso; omega)
        · intro j9_ u0_ u1_
          (try simp only [rd_eq, rd_ne, rf_eq, rf_nk, rf_nt, rd_fa, rd_af, rd_fl, rd_al, rd_lf, rd_la, rd_leq, rd_lne, rd_fr, rd_ar, ne_eq, Nat.reduceEqDiff, not_false_eq_true])
          exact h2_ j9_ u0_ (by omega)
        · intro j9_ u0_ u1_
          (try simp only [rd_eq, rd_ne, rf_eq, rf_nk, rf_nt, rd_fa, rd_af, rd_fl, rd_al, rd_lf, rd_la, rd_leq, rd_lne, rd_fr, rd_ar, ne_eq, Nat.reduceEqDiff, not_false_eq_true])
          exact h3_ j9_ u0_ (by omega)
        · (intro j9_ u0_ u1_; exfalso; omega)
        · exact hKx7_
        · omega
      · have cx2_ : ¬ ((S_.1 13 0 129) ≤ g_) := of_decide_eq_false cx2_
        have m9_ := hmd_ g_ (by omega) (by omega)
        have x216_ : S_.2.2.1 216 0 g_.toNat = S0_.2.2.1 216 0 g_.toNat := congrFun f216_ _
        have m8_ : 0 ≤ S0_.2.2.1 216 0 g_.toNat := by (rcases m9_.1 with y9_ | y9_; exact y9_; (exfalso; omega))
        refine sm_T_go 4 (c1 := (107, [some (.inr (.inr (some (13, 0)))), some (.inl c_), some (.inl g_), none], [.inl c_, .inl 150, .inr (.inr (some (229, 0)))], S_)) rfl ?_
        refine sm_T_bin (w := 150 * c_) rfl (bi_mul (by omega) (by omega) (by omega)) ?_ -- pc_ 107
        refine sm_T_go 1 (c1 := (109, [some (.inr (.inr (some (13, 0)))), some (.inl c_), some (.inl g_), none], [.inl g_, .inl (150 * c_), .inr (.inr (some (229, 0)))], S_)) rfl ?_
        refine sm_T_bin (w := 150 * c_ + g_) rfl (bi_add (by omega) (by omega) (by omega)) ?_ -- pc_ 109
        refine sm_T_go 3 (c1 := (115, [some (.inr (.inr (some (13, 0)))), some (.inl c_), some (.inl g_), none], [.inl g_, .inr (.inr (some (216, 0))), .inl (150 * c_ + g_), .inr (.inr (some (229, 0)))], S_)) rfl ?_
        refine sm_T_iald (n := 8192) rfl rfl (by omega) (by omega) ?_
        have bx8_ : (-1) ≤ S_.2.2.1 216 0 g_.toNat ∧ S_.2.2.1 216 0 g_.toNat ≤ 11 := hI_.2 216 0 _
        refine sm_T_iast (n := 600) rfl rfl (by omega) (by omega) ?_
        have hIx9_ : gi (sm_aI S_ 229 0 (150 * c_ + g_).toNat (S_.2.2.1 216 0 g_.toNat)) := gi_aI hI_ (show 0 ≤ (S_.2.2.1 216 0 g_.toNat) ∧ (S_.2.2.1 216 0 g_.toNat) ≤ 11 from ⟨by omega, by omega⟩)
        have hFx10_ : ai_fr (sx_W vw_420n) S0_ (sm_aI S_ 229 0 (150 * c_ + g_).toNat (S_.2.2.1 216 0 g_.toNat)) := ai_fr_tr hF_ (ai_fr_aI rfl)
        have hKx11_ : rcf c_.toNat S0_ (sm_aI S_ 229 0 (150 * c_ + g_).toNat (S_.2.2.1 216 0 g_.toNat)) := rcf_aI hK_ (Or.inr (by rw [show rcs 229 = 150 from rfl]; omega))
        refine sm_T_go 2 (c1 := (119, [some (.inr (.inr (some (13, 0)))), some (.inl c_), some (.inl g_), some (.inl 0)], [], sm_aI S_ 229 0 (150 * c_ + g_).toNat (S_.2.2.1 216 0 g_.toNat))) rfl ?_
        refine ih_.2.1 g_ 0 (sm_aI S_ 229 0 (150 * c_ + g_).toNat (S_.2.2.1 216 0 g_.toNat)) hIx9_ hFx10_ ⟨?_, ?_, ?_, ?_, ?_, ?_, trivial⟩ ?_
        · omega
        · (try simp only [rd_eq, rd_ne, rf_eq, rf_nk, rf_nt, rd_fa, rd_af, rd_fl, rd_al, rd_lf, rd_la, rd_leq, rd_lne, rd_fr, rd_ar, ne_eq, Nat.reduceEqDiff, not_false_eq_true])
          exact h1_
        · (try simp only [rd_eq, rd_ne, rf_eq, rf_nk, rf_nt, rd_fa, rd_af, rd_fl, rd_al, rd_lf, rd_la, rd_leq, rd_lne, rd_fr, rd_ar, ne_eq, Nat.reduceEqDiff, not_false_eq_true])
          exact hT_
        · intro j9_ u0_ u1_
          (try simp only [rd_eq, rd_ne, rf_eq, rf_nk, rf_nt, rd_fa, rd_af, rd_fl, rd_al, rd_lf, rd_la, rd_leq, rd_lne, rd_fr, rd_ar, ne_eq, Nat.reduceEqDiff, not_false_eq_true])
          by_cases z9_ : j9_ = g_
          · rw [z9_, if_pos rfl]; exact x216_
          · rw [if_neg (by omega)]; exact h2_ j9_ u0_ (by omega)
        · intro j9_ u0_ u1_
          (try simp only [rd_eq, rd_ne, rf_eq, rf_nk, rf_nt, rd_fa, rd_af, rd_fl, rd_al, rd_lf, rd_la, rd_leq, rd_lne, rd_fr, rd_ar, ne_eq, Nat.reduceEqDiff, not_false_eq_true])
          exact h3_ j9_ u0_ (by omega)
        · exact hKx11_
        · omega
    · rintro g_ k_ S_ hI_ hF_ ⟨h0_, h1_, hT_, h2_, h3_, hK_, -⟩ hm_
      have d1_ := hd_.1
      have s129_ : S_.1 13 0 129 = S0_.1 13 0 129 := hF_.1 13 0 129 rfl
      have s106_ : S_.1 13 0 106 = S0_.1 13 0 106 := hF_.1 13 0 106 rfl
      have s105_ : S_.1 13 0 105 = S0_.1 13 0 105 := hF_.1 13 0 105 rfl
      have f216_ : S_.2.2.1 216 0 = S0_.2.2.1 216 0 := fr_arr hF_ rfl
      have f217_ : S_.2.2.1 217 0 = S0_.2.2.1 217 0 := fr_arr hF_ rfl
      have f184_ : S_.2.2.1 184 0 = S0_.2.2.1 184 0 := fr_arr hF_ rfl
      have f185_ : S_.2.2.1 185 0 = S0_.2.2.1 185 0 := fr_arr hF_ rfl
      have f186_ : S_.2.2.1 186 0 = S0_.2.2.1 186 0 := fr_arr hF_ rfl
      have f187_ : S_.2.2.1 187 0 = S0_.2.2.1 187 0 := fr_arr hF_ rfl
      have f188_ : S_.2.2.1 188 0 = S0_.2.2.1 188 0 := fr_arr hF_ rfl
      have f231_ : S_.2.2.1 231 0 = S0_.2.2.1 231 0 := fr_arr hF_ rfl
      have f232_ : S_.2.2.1 232 0 = S0_.2.2.1 232 0 := fr_arr hF_ rfl
      refine sm_T_go 2 (c1 := (121, [some (.inr (.inr (some (13, 0)))), some (.inl c_), some (.inl g_), some (.inl k_)], [.inl 3, .inl k_], S_)) rfl ?_
      refine sm_T_br (a := 3) (z := 35) rfl (fun cx1_ => ?_) (fun cx1_ => ?_)
      · have cx1_ : 3 ≤ k_ := of_decide_eq_true cx1_
        refine sm_T_inc (a := 2) (z := 1) (v := g_) (w := g_ + 1) rfl rfl (by omega) (by omega) (by omega) ?_ -- pc_ 156
        refine sm_T_go 1 (c1 := (91, [some (.inr (.inr (some (13, 0)))), some (.inl c_), some (.inl (g_ + 1)), some (.inl k_)], [], S_)) rfl ?_
        refine sm_T_wk [some (.inr (.inr (some (13, 0)))), some (.inl c_), some (.inl (g_ + 1)), none] (by exact ⟨rfl, rfl, rfl, trivial⟩) ?_
        refine ih_.1 (g_ + 1) S_ hI_ hF_ ⟨?_, ?_, ?_, ?_, ?_, ?_, trivial⟩ ?_
        · omega
        · exact h1_
        · exact hT_
        · exact h2_
        · (intro j9_ u0_ u1_; exact h3_ j9_ u0_ (by omega))
        · exact hK_
        · omega
      · have cx1_ : ¬ (3 ≤ k_) := of_decide_eq_false cx1_
        have m9_ := (hmd_ g_ (by omega) (by omega)).2 k_ (by omega) (by omega)
        have x217_ : S_.2.2.1 217 0 (3 * g_ + k_).toNat = S0_.2.2.1 217 0 (3 * g_ + k_).toNat := congrFun f217_ _
        refine sm_T_go 5 (c1 := (133, [some (.inr (.inr (some (13, 0)))), some (.inl c_), some (.inl g_), some (.inl k_)], [.inl c_, .inl 150, .inl 3, .inr (.inr (some (230, 0)))], S_)) rfl ?_
        refine sm_T_bin (w := 150 * c_) rfl (bi_mul (by omega) (by omega) (by omega)) ?_ -- pc_ 133
        refine sm_T_go 1 (c1 := (135, [some (.inr (.inr (some (13, 0)))), some (.inl c_), some (.inl g_), some (.inl k_)], [.inl g_, .inl (150 * c_), .inl 3, .inr (.inr (some (230, 0)))], S_)) rfl ?_
        refine sm_T_bin (w := 150 * c_ + g_) rfl (bi_add (by omega) (by omega) (by omega)) ?_ -- pc_ 135
        refine sm_T_bin (w := 450 * c_ + 3 * g_) rfl (bi_mul (by omega) (by omega) (by omega)) ?_ -- pc_ 136
        refine sm_T_go 1 (c1 := (138, [some (.inr (.inr (some (13, 0)))), some (.inl c_), some (.inl g_), some (.inl k_)], [.inl k_, .inl (450 * c_ + 3 * g_), .inr (.inr (some (230, 0)))], S_)) rfl ?_
        refine sm_T_bin (w := 450 * c_ + 3 * g_ + k_) rfl (bi_add (by omega) (by omega) (by omega)) ?_ -- pc_ 138
        refine sm_T_go 4 (c1 := (145, [some (.inr (.inr (some (13, 0)))), some (.inl c_), some (.inl g_), some (.inl k_)], [.inl g_, .inl 3, .inr (.inr (some (217, 0))), .inl (450 * c_ + 3 * g_ + k_), .inr (.inr (some (230, 0)))], S_)) rfl ?_
        refine sm_T_bin (w := 3 * g_) rfl (bi_mul (by omega) (by omega) (by omega)) ?_ -- pc_ 145
        refine sm_T_go 1 (c1 := (147, [some (.inr (.inr (some (13, 0)))), some (.inl c_), some (.inl g_), some (.inl k_)], [.inl k_, .inl (3 * g_), .inr (.inr (some (217, 0))), .inl (450 * c_ + 3 * g_ + k_), .inr (.inr (some (230, 0)))], S_)) rfl ?_
        refine sm_T_bin (w := 3 * g_ + k_) rfl (bi_add (by omega) (by omega) (by omega)) ?_ -- pc_ 147
        refine sm_T_iald (n := 24576) rfl rfl (by omega) (by omega) ?_
        have bx2_ : (-2) ≤ S_.2.2.1 217 0 (3 * g_ + k_).toNat ∧ S_.2.2.1 217 0 (3 * g_ + k_).toNat ≤ 9000 := hI_.2 217 0 _
        refine sm_T_iast (n := 1800) rfl rfl (by omega) (by omega) ?_
        have hIx3_ : gi (sm_aI S_ 230 0 (450 * c_ + 3 * g_ + k_).toNat (S_.2.2.1 217 0 (3 * g_ + k_).toNat)) := gi_aI hI_ (show (-1) ≤ (S_.2.2.1 217 0 (3 * g_ + k_).toNat) ∧ (S_.2.2.1 217 0 (3 * g_ + k_).toNat) ≤ 161 from ⟨by omega, by omega⟩)
        have hFx4_ : ai_fr (sx_W vw_420n) S0_ (sm_aI S_ 230 0 (450 * c_ + 3 * g_ + k_).toNat (S_.2.2.1 217 0 (3 * g_ + k_).toNat)) := ai_fr_tr hF_ (ai_fr_aI rfl)
        have hKx5_ : rcf c_.toNat S0_ (sm_aI S_ 230 0 (450 * c_ + 3 * g_ + k_).toNat (S_.2.2.1 217 0 (3 * g_ + k_).toNat)) := rcf_aI hK_ (Or.inr (by rw [show rcs 230 = 450 from rfl]; omega))
        refine sm_T_inc (a := 3) (z := 1) (v := k_) (w := k_ + 1) rfl rfl (by omega) (by omega) (by omega) ?_ -- pc_ 150
        refine sm_T_go 1 (c1 := (119, [some (.inr (.inr (some (13, 0)))), some (.inl c_), some (.inl g_), some (.inl (k_ + 1))], [], sm_aI S_ 230 0 (450 * c_ + 3 * g_ + k_).toNat (S_.2.2.1 217 0 (3 * g_ + k_).toNat))) rfl ?_
        refine ih_.2.1 g_ (k_ + 1) (sm_aI S_ 230 0 (450 * c_ + 3 * g_ + k_).toNat (S_.2.2.1 217 0 (3 * g_ + k_).toNat)) hIx3_ hFx4_ ⟨?_, ?_, ?_, ?_, ?_, ?_, trivial⟩ ?_
        · omega
        · (try simp only [rd_eq, rd_ne, rf_eq, rf_nk, rf_nt, rd_fa, rd_af, rd_fl, rd_al, rd_lf, rd_la, rd_leq, rd_lne, rd_fr, rd_ar, ne_eq, Nat.reduceEqDiff, not_false_eq_true])
          exact h1_
        · (try simp only [rd_eq, rd_ne, rf_eq, rf_nk, rf_nt, rd_fa, rd_af, rd_fl, rd_al, rd_lf, rd_la, rd_leq, rd_lne, rd_fr, rd_ar, ne_eq, Nat.reduceEqDiff, not_false_eq_true])
          exact hT_
        · intro j9_ u0_ u1_
          (try simp only [rd_eq, rd_ne, rf_eq, rf_nk, rf_nt, rd_fa, rd_af, rd_fl, rd_al, rd_lf, rd_la, rd_leq, rd_lne, rd_fr, rd_ar, ne_eq, Nat.reduceEqDiff, not_false_eq_true])
          exact h2_ j9_ u0_ u1_
        · intro j9_ u0_ u1_
          (try simp only [rd_eq, rd_ne, rf_eq, rf_nk, rf_nt, rd_fa, rd_af, rd_fl, rd_al, rd_lf, rd_la, rd_leq, rd_lne, rd_fr, rd_ar, ne_eq, Nat.reduceEqDiff, not_false_eq_true])
          by_cases z9_ : j9_ = 3 * g_ + k_
          · rw [z9_, if_pos (by omega)]; exact congrFun f217_ _
          · rw [if_neg (by omega)]; exact h3_ j9_ u0_ (by omega)
        · exact hKx5_
        · omega
    · rintro i_ S_ hI_ hF_ ⟨h0_, h1_, hT_, h5_, h6_, h2_, h3_, h4_, hK_, -⟩ hm_
      have d1_ := hd_.1
      have s129_ : S_.1 13 0 129 = S0_.1 13 0 129 := hF_.1 13 0 129 rfl
      have s106_ : S_.1 13 0 106 = S0_.1 13 0 106 := hF_.1 13 0 106 rfl
      have s105_ : S_.1 13 0 105 = S0_.1 13 0 105 := hF_.1 13 0 105 rfl
      have f216_ : S_.2.2.1 216 0 = S0_.2.2.1 216 0 := fr_arr hF_ rfl
      have f217_ : S_.2.2.1 217 0 = S0_.2.2.1 217 0 := fr_arr hF_ rfl
      have f184_ : S_.2.2.1 184 0 = S0_.2.2.1 184 0 := fr_arr hF_ rfl
      have f185_ : S_.2.2.1 185 0 = S0_.2.2.1 185 0 := fr_arr hF_ rfl
      have f186_ : S_.2.2.1 186 0 = S0_.2.2.1 186 0 := fr_arr hF_ rfl
      have f187_ : S_.2.2.1 187 0 = S0_.2.2.1 187 0 := fr_arr hF_ rfl
      have f188_ : S_.2.2.1 188 0 = S0_.2.2.1 188 0 := fr_arr hF_ rfl
      have f231_ : S_.2.2.1 231 0 = S0_.2.2.1 231 0 := fr_arr hF_ rfl
      have f232_ : S_.2.2.1 232 0 = S0_.2.2.1 232 0 := fr_arr hF_ rfl
      refine sm_T_go 2 (c1 := (182, [some (.inr (.inr (some (13, 0)))), some (.inl c_), some (.inl i_), none], [.inl 12, .inl i_], S_)) rfl ?_
      refine sm_T_br (a := 3) (z := 109) rfl (fun cx1_ => ?_) (fun cx1_ => ?_)
      · have cx1_ : 12 ≤ i_ := of_decide_eq_true cx1_
        refine sm_T_go 4 (c1 := (297, [some (.inr (.inr (some (13, 0)))), some (.inl c_), some (.inl i_), none], [.inl 0, .inl c_, .inr (.inr (some (240, 0)))], S_)) rfl ?_
        refine sm_T_iast (n := 4) rfl rfl (by omega) (by omega) ?_
        have hIx2_ : gi (sm_aI S_ 240 0 c_.toNat 0) := gi_aI hI_ (show 0 ≤ 0 ∧ 0 ≤ 12 from ⟨by omega, by omega⟩)
        have hFx3_ : ai_fr (sx_W vw_420n) S0_ (sm_aI S_ 240 0 c_.toNat 0) := ai_fr_tr hF_ (ai_fr_aI rfl)
        have hKx4_ : rcf c_.toNat S0_ (sm_aI S_ 240 0 c_.toNat 0) := rcf_aI hK_ (Or.inr (by rw [show rcs 240 = 1 from rfl]; omega))
        refine sm_T_go 4 (c1 := (304, [some (.inr (.inr (some (13, 0)))), some (.inl c_), some (.inl i_), none], [.inl 0, .inl c_, .inr (.inr (some (251, 0)))], sm_aI S_ 240 0 c_.toNat 0)) rfl ?_
        refine sm_T_zas1 (n := 4) rfl rfl (by omega) (by omega) (by omega) ?_
        have hIx5_ : gi (sm_aI (sm_aI S_ 240 0 c_.toNat 0) 251 0 c_.toNat 0) := gi_aI hIx2_ (show 0 ≤ 0 ∧ 0 ≤ 1 from ⟨by omega, by omega⟩)
        have hFx6_ : ai_fr (sx_W vw_420n) S0_ (sm_aI (sm_aI S_ 240 0 c_.toNat 0) 251 0 c_.toNat 0) := ai_fr_tr hFx3_ (ai_fr_aI rfl)
        have hKx7_ : rcf c_.toNat S0_ (sm_aI (sm_aI S_ 240 0 c_.toNat 0) 251 0 c_.toNat 0) := rcf_aI hKx4_ (Or.inr (by rw [show rcs 251 = 1 from rfl]; omega))
        refine sm_T_go 4 (c1 := (311, [some (.inr (.inr (some (13, 0)))), some (.inl c_), some (.inl i_), none], [.inl 0, .inl c_, .inr (.inr (some (263, 0)))], sm_aI (sm_aI S_ 240 0 c_.toNat 0) 251 0 c_.toNat 0)) rfl ?_
        refine sm_T_zas1 (n := 4) rfl rfl (by omega) (by omega) (by omega) ?_
        have hIx8_ : gi (sm_aI (sm_aI (sm_aI S_ 240 0 c_.toNat 0) 251 0 c_.toNat 0) 263 0 c_.toNat 0) := gi_aI hIx5_ (show 0 ≤ 0 ∧ 0 ≤ 1 from ⟨by omega, by omega⟩)
        have hFx9_ : ai_fr (sx_W vw_420n) S0_ (sm_aI (sm_aI (sm_aI S_ 240 0 c_.toNat 0) 251 0 c_.toNat 0) 263 0 c_.toNat 0) := ai_fr_tr hFx6_ (ai_fr_aI rfl)
        have hKx10_ : rcf c_.toNat S0_ (sm_aI (sm_aI (sm_aI S_ 240 0 c_.toNat 0) 251 0 c_.toNat 0) 263 0 c_.toNat 0) := rcf_aI hKx7_ (Or.inl rfl)
        refine sm_T_go 4 (c1 := (318, [some (.inr (.inr (some (13, 0)))), some (.inl c_), some (.inl i_), none], [.inl 0, .inl c_, .inr (.inr (some (272, 0)))], sm_aI (sm_aI (sm_aI S_ 240 0 c_.toNat 0) 251 0 c_.toNat 0) 263 0 c_.toNat 0)) rfl ?_
        refine sm_T_iast (n := 4) rfl rfl (by omega) (by omega) ?_
        have hIx11_ : gi (sm_aI (sm_aI (sm_aI (sm_aI S_ 240 0 c_.toNat 0) 251 0 c_.toNat 0) 263 0 c_.toNat 0) 272 0 c_.toNat 0) := gi_aI hIx8_ (show 0 ≤ 0 ∧ 0 ≤ 40 from ⟨by omega, by omega⟩)
        have hFx12_ : ai_fr (sx_W vw_420n) S0_ (sm_aI (sm_aI (sm_aI (sm_aI S_ 240 0 c_.toNat 0) 251 0 c_.toNat 0) 263 0 c_.toNat 0) 272 0 c_.toNat 0) := ai_fr_tr hFx9_ (ai_fr_aI rfl)
        have hKx13_ : rcf c_.toNat S0_ (sm_aI (sm_aI (sm_aI (sm_aI S_ 240 0 c_.toNat 0) 251 0 c_.toNat 0) 263 0 c_.toNat 0) 272 0 c_.toNat 0) := rcf_aI hKx10_ (Or.inl rfl)
        refine sm_T_go 4 (c1 := (325, [some (.inr (.inr (some (13, 0)))), some (.inl c_), some (.inl i_), none], [.inl (-1), .inl c_, .inr (.inr (some (289, 0)))], sm_aI (sm_aI (sm_aI (sm_aI S_ 240 0 c_.toNat 0) 251 0 c_.toNat 0) 263 0 c_.toNat 0) 272 0 c_.toNat 0)) rfl ?_
        refine sm_T_iast (n := 4) rfl rfl (by omega) (by omega) ?_
        have hIx14_ : gi (sm_aI (sm_aI (sm_aI (sm_aI (sm_aI S_ 240 0 c_.toNat 0) 251 0 c_.toNat 0) 263 0 c_.toNat 0) 272 0 c_.toNat 0) 289 0 c_.toNat (-1)) := gi_aI hIx11_ (show (-1) ≤ (-1) ∧ (-1) ≤ 1224 from ⟨by omega, by omega⟩)
        have hFx15_ : ai_fr (sx_W vw_420n) S0_ (sm_aI (sm_aI (sm_aI (sm_aI (sm_aI S_ 240 0 c_.toNat 0) 251 0 c_.toNat 0) 263 0 c_.toNat 0) 272 0 c_.toNat 0) 289 0 c_.toNat (-1)) := ai_fr_tr hFx12_ (ai_fr_aI rfl)
        have hKx16_ : rcf c_.toNat S0_ (sm_aI (sm_aI (sm_aI (sm_aI (sm_aI S_ 240 0 c_.toNat 0) 251 0 c_.toNat 0) 263 0 c_.toNat 0) 272 0 c_.toNat 0) 289 0 c_.toNat (-1)) := rcf_aI hKx13_ (Or.inl rfl)
        refine sm_T_go 2 (c1 := (328, [some (.inr (.inr (some (13, 0)))), some (.inl c_), some (.inl i_), none], [.inl c_, .inr (.inr (some (13, 0)))], sm_aI (sm_aI (sm_aI (sm_aI (sm_aI S_ 240 0 c_.toNat 0) 251 0 c_.toNat 0) 263 0 c_.toNat 0) 272 0 c_.toNat 0) 289 0 c_.toNat (-1))) rfl ?_
        refine sm_T_cal (d1 := 0) (Q1 := vq_519 c_ (sm_aI (sm_aI (sm_aI (sm_aI (sm_aI S_ 240 0 c_.toNat 0) 251 0 c_.toNat 0) 263 0 c_.toNat 0) 272 0 c_.toNat 0) 289 0 c_.toNat (-1))) rfl rfl (by decide) (vc_519 c_ (sm_aI (sm_aI (sm_aI (sm_aI (sm_aI S_ 240 0 c_.toNat 0) 251 0 c_.toNat 0) 263 0 c_.toNat 0) 272 0 c_.toNat 0) 289 0 c_.toNat (-1)) hIx14_ (by omega)) (fun u_ Sx17_ px20_ => ?_)
        obtain ⟨rfl, hIx18_, hFx19_, px20_⟩ := px20_
        have hFx21_ : ai_fr (sx_W vw_420n) S0_ Sx17_ := ai_fr_tr hFx15_ (fr_le hFx19_ rfl)
        have hKx22_ : rcf c_.toNat S0_ Sx17_ := rcf_tr hKx16_ (rcf_fr hFx19_ rfl)
        have f328_ := hFx19_
        have y240_ : Sx17_.2.2.1 240 0 c_.toNat = 0 := (congrFun (fr_arr (t := 240) (i := 0) hFx19_ rfl) _).trans (by ((try simp only [rd_eq, rd_ne, rf_eq, rf_nk, rf_nt, rd_fa, rd_af, rd_fl, rd_al, rd_lf, rd_la, rd_leq, rd_lne, rd_fr, rd_ar, ne_eq, Nat.reduceEqDiff, not_false_eq_true]); exact if_pos trivial))
        have y251_ : Sx17_.2.2.1 251 0 c_.toNat = 0 := (congrFun (fr_arr (t := 251) (i := 0) hFx19_ rfl) _).trans (by ((try simp only [rd_eq, rd_ne, rf_eq, rf_nk, rf_nt, rd_fa, rd_af, rd_fl, rd_al, rd_lf, rd_la, rd_leq, rd_lne, rd_fr, rd_ar, ne_eq, Nat.reduceEqDiff, not_false_eq_true]); exact if_pos trivial))
        have y222_ : Sx17_.2.2.1 222 0 = S_.2.2.1 222 0 := (fr_arr (t := 222) (i := 0) hFx19_ rfl).trans (by (funext j9_; (try simp only [rd_eq, rd_ne, rf_eq, rf_nk, rf_nt, rd_fa, rd_af, rd_fl, rd_al, rd_lf, rd_la, rd_leq, rd_lne, rd_fr, rd_ar, ne_eq, Nat.reduceEqDiff, not_false_eq_true])))
        have y223_ : Sx17_.2.2.1 223 0 = S_.2.2.1 223 0 := (fr_arr (t := 223) (i := 0) hFx19_ rfl).trans (by (funext j9_; (try simp only [rd_eq, rd_ne, rf_eq, rf_nk, rf_nt, rd_fa, rd_af, rd_fl, rd_al, rd_lf, rd_la, rd_leq, rd_lne, rd_fr, rd_ar, ne_eq, Nat.reduceEqDiff, not_false_eq_true])))
        have y224_ : Sx17_.2.2.1 224 0 = S_.2.2.1 224 0 := (fr_arr (t := 224) (i := 0) hFx19_ rfl).trans (by (funext j9_; (try simp only [rd_eq, rd_ne, rf_eq, rf_nk, rf_nt, rd_fa, rd_af, rd_fl, rd_al, rd_lf, rd_la, rd_leq, rd_lne, rd_fr, rd_ar, ne_eq, Nat.reduceEqDiff, not_false_eq_true])))
        have y225_ : Sx17_.2.2.1 225 0 = S_.2.2.1 225 0 := (fr_arr (t := 225) (i := 0) hFx19_ rfl).trans (by (funext j9_; (try simp only [rd_eq, rd_ne, rf_eq, rf_nk, rf_nt, rd_fa, rd_af, rd_fl, rd_al, rd_lf, rd_la, rd_leq, rd_lne, rd_fr, rd_ar, ne_eq, Nat.reduceEqDiff, not_false_eq_true])))
        have y226_ : Sx17_.2.2.1 226 0 = S_.2.2.1 226 0 := (fr_arr (t := 226) (i := 0) hFx19_ rfl).trans (by (funext j9_; (try simp only [rd_eq, rd_ne, rf_eq, rf_nk, rf_nt, rd_fa, rd_af, rd_fl, rd_al, rd_lf, rd_la, rd_leq, rd_lne, rd_fr, rd_ar, ne_eq, Nat.reduceEqDiff, not_false_eq_true])))
        have y227_ : Sx17_.2.2.1 227 0 = S_.2.2.1 227 0 := (fr_arr (t := 227) (i := 0) hFx19_ rfl).trans (by (funext j9_; (try simp only [rd_eq, rd_ne, rf_eq, rf_nk, rf_nt, rd_fa, rd_af, rd_fl, rd_al, rd_lf, rd_la, rd_leq, rd_lne, rd_fr, rd_ar, ne_eq, Nat.reduceEqDiff, not_false_eq_true])))
        have y228_ : Sx17_.2.2.1 228 0 = S_.2.2.1 228 0 := (fr_arr (t := 228) (i := 0) hFx19_ rfl).trans (by (funext j9_; (try simp only [rd_eq, rd_ne, rf_eq, rf_nk, rf_nt, rd_fa, rd_af, rd_fl, rd_al, rd_lf, rd_la, rd_leq, rd_lne, rd_fr, rd_ar, ne_eq, Nat.reduceEqDiff, not_false_eq_true])))
        have y229_ : Sx17_.2.2.1 229 0 = S_.2.2.1 229 0 := (fr_arr (t := 229) (i := 0) hFx19_ rfl).trans (by (funext j9_; (try simp only [rd_eq, rd_ne, rf_eq, rf_nk, rf_nt, rd_fa, rd_af, rd_fl, rd_al, rd_lf, rd_la, rd_leq, rd_lne, rd_fr, rd_ar, ne_eq, Nat.reduceEqDiff, not_false_eq_true])))
        have y230_ : Sx17_.2.2.1 230 0 = S_.2.2.1 230 0 := (fr_arr (t := 230) (i := 0) hFx19_ rfl).trans (by (funext j9_; (try simp only [rd_eq, rd_ne, rf_eq, rf_nk, rf_nt, rd_fa, rd_af, rd_fl, rd_al, rd_lf, rd_la, rd_leq, rd_lne, rd_fr, rd_ar, ne_eq, Nat.reduceEqDiff, not_false_eq_true])))
        have y231_ : Sx17_.2.2.1 231 0 = S_.2.2.1 231 0 := (fr_arr (t := 231) (i := 0) hFx19_ rfl).trans (by (funext j9_; (try simp only [rd_eq, rd_ne, rf_eq, rf_nk, rf_nt, rd_fa, rd_af, rd_fl, rd_al, rd_lf, rd_la, rd_leq, rd_lne, rd_fr, rd_ar, ne_eq, Nat.reduceEqDiff, not_false_eq_true])))
        have y232_ : Sx17_.2.2.1 232 0 = S_.2.2.1 232 0 := (fr_arr (t := 232) (i := 0) hFx19_ rfl).trans (by (funext j9_; (try simp only [rd_eq, rd_ne, rf_eq, rf_nk, rf_nt, rd_fa, rd_af, rd_fl, rd_al, rd_lf, rd_la, rd_leq, rd_lne, rd_fr, rd_ar, ne_eq, Nat.reduceEqDiff, not_false_eq_true])))
        have y233_ : Sx17_.2.2.1 233 0 = S_.2.2.1 233 0 := (fr_arr (t := 233) (i := 0) hFx19_ rfl).trans (by (funext j9_; (try simp only [rd_eq, rd_ne, rf_eq, rf_nk, rf_nt, rd_fa, rd_af, rd_fl, rd_al, rd_lf, rd_la, rd_leq, rd_lne, rd_fr, rd_ar, ne_eq, Nat.reduceEqDiff, not_false_eq_true])))
        have y234_ : Sx17_.2.2.1 234 0 = S_.2.2.1 234 0 := (fr_arr (t := 234) (i := 0) hFx19_ rfl).trans (by (funext j9_; (try simp only [rd_eq, rd_ne, rf_eq, rf_nk, rf_nt, rd_fa, rd_af, rd_fl, rd_al, rd_lf, rd_la, rd_leq, rd_lne, rd_fr, rd_ar, ne_eq, Nat.reduceEqDiff, not_false_eq_true])))
        have y235_ : Sx17_.2.2.1 235 0 = S_.2.2.1 235 0 := (fr_arr (t := 235) (i := 0) hFx19_ rfl).trans (by (funext j9_; (try simp only [rd_eq, rd_ne, rf_eq, rf_nk, rf_nt, rd_fa, rd_af, rd_fl, rd_al, rd_lf, rd_la, rd_leq, rd_lne, rd_fr, rd_ar, ne_eq, Nat.reduceEqDiff, not_false_eq_true])))
        have y236_ : Sx17_.2.2.1 236 0 = S_.2.2.1 236 0 := (fr_arr (t := 236) (i := 0) hFx19_ rfl).trans (by (funext j9_; (try simp only [rd_eq, rd_ne, rf_eq, rf_nk, rf_nt, rd_fa, rd_af, rd_fl, rd_al, rd_lf, rd_la, rd_leq, rd_lne, rd_fr, rd_ar, ne_eq, Nat.reduceEqDiff, not_false_eq_true])))
        have y237_ : Sx17_.2.2.1 237 0 = S_.2.2.1 237 0 := (fr_arr (t := 237) (i := 0) hFx19_ rfl).trans (by (funext j9_; (try simp only [rd_eq, rd_ne, rf_eq, rf_nk, rf_nt, rd_fa, rd_af, rd_fl, rd_al, rd_lf, rd_la, rd_leq, rd_lne, rd_fr, rd_ar, ne_eq, Nat.reduceEqDiff, not_false_eq_true])))
        refine sm_T_rv rfl ⟨_, _, rfl, rfl, hIx18_, hFx21_, ?_⟩
        refine ⟨hKx22_, ?_⟩
        refine ⟨kch (fun j9_ => by (rw [← f216_]; exact (hI_.2 216 0 _).2)) hd_ hc_.1 hmd_ hl_ (by (rw [y223_, y224_, y225_, y226_, y227_, y228_]; exact h1_)) (fun j9_ u0_ u1_ => by (rw [y229_]; exact h2_ j9_ u0_ u1_)) (fun j9_ u0_ u1_ => by (rw [y230_]; exact h3_ j9_ u0_ u1_)) (fun j9_ u0_ u1_ => by (rw [y234_]; exact h4_ j9_ u0_ (by omega))) ⟨fun k9_ u0_ u1_ => by (rw [y231_, f231_]; exact ho_.1 k9_ u0_ u1_), fun k9_ u0_ u1_ => by (rw [y232_, f232_]; exact ho_.2 k9_ u0_ u1_)⟩ y240_ y251_, ?_⟩
        unfold kcp
        refine ⟨by (rw [y222_]; exact hT_), by (rw [y223_, y224_, y225_, y226_, y227_, y228_]; exact h1_), fun j9_ u0_ u1_ => by (rw [y229_]; exact h2_ j9_ u0_ u1_), fun j9_ u0_ u1_ => by (rw [y230_]; exact h3_ j9_ u0_ u1_), by (rw [y233_]; exact h5_), fun j9_ u0_ u1_ => ?_, y231_.trans f231_, y232_.trans f232_, y240_⟩
        have z6_ := h6_ j9_ u0_ (by omega)
        rw [y234_, y235_, y236_, y237_]
        exact ⟨h4_ j9_ u0_ (by omega), z6_.1, z6_.2.1, z6_.2.2⟩
      · have cx1_ : ¬ (12 ≤ i_) := of_decide_eq_false cx1_
        refine sm_T_go 4 (c1 := (192, [some (.inr (.inr (some (13, 0)))), some (.inl c_), some (.inl i_), none], [.inl c_, .inl 12, .inr (.inr (some (234, 0)))], S_)) rfl ?_
        refine sm_T_bin (w := 12 * c_) rfl (bi_mul (by omega) (by omega) (by omega)) ?_ -- pc_ 192
        refine sm_T_go 1 (c1 := (194, [some (.inr (.inr (some (13, 0)))), some (.inl c_), some (.inl i_), none], [.inl i_, .inl (12 * c_), .inr (.inr (some (234, 0)))], S_)) rfl ?_
        refine sm_T_bin (w := 12 * c_ + i_) rfl (bi_add (by omega) (by omega) (by omega)) ?_ -- pc_ 194
        have bx23_ : 0 ≤ S_.1 13 0 106 ∧ S_.1 13 0 106 ≤ 2 := hI_.1 13 0 106 rfl
        refine sm_T_go 5 (c1 := (205, [some (.inr (.inr (some (13, 0)))), some (.inl c_), some (.inl i_), none], [.inl (S_.1 13 0 106), .inl 12, .inr (.inr (some (185, 0))), .inl (12 * c_ + i_), .inr (.inr (some (234, 0)))], S_)) rfl ?_
        refine sm_T_bin (w := 12 * (S_.1 13 0 106)) rfl (bi_mul (by omega) (by omega) (by omega)) ?_ -- pc_ 205
        refine sm_T_go 1 (c1 := (207, [some (.inr (.inr (some (13, 0)))), some (.inl c_), some (.inl i_), none], [.inl i_, .inl (12 * (S_.1 13 0 106)), .inr (.inr (some (185, 0))), .inl (12 * c_ + i_), .inr (.inr (some (234, 0)))], S_)) rfl ?_
        refine sm_T_bin (w := 12 * (S_.1 13 0 106) + i_) rfl (bi_add (by omega) (by omega) (by omega)) ?_ -- pc_ 207
        refine sm_T_iald (n := 36) rfl rfl (by omega) (by omega) ?_
        have bx24_ : 0 ≤ S_.2.2.1 185 0 (12 * (S_.1 13 0 106) + i_).toNat ∧ S_.2.2.1 185 0 (12 * (S_.1 13 0 106) + i_).toNat ≤ 3 := hI_.2 185 0 _
        refine sm_T_iast (n := 48) rfl rfl (by omega) (by omega) ?_
        have hIx25_ : gi (sm_aI S_ 234 0 (12 * c_ + i_).toNat (S_.2.2.1 185 0 (12 * (S_.1 13 0 106) + i_).toNat)) := gi_aI hI_ (show 0 ≤ (S_.2.2.1 185 0 (12 * (S_.1 13 0 106) + i_).toNat) ∧ (S_.2.2.1 185 0 (12 * (S_.1 13 0 106) + i_).toNat) ≤ 3 from ⟨by omega, by omega⟩)
        have hFx26_ : ai_fr (sx_W vw_420n) S0_ (sm_aI S_ 234 0 (12 * c_ + i_).toNat (S_.2.2.1 185 0 (12 * (S_.1 13 0 106) + i_).toNat)) := ai_fr_tr hF_ (ai_fr_aI rfl)
        have hKx27_ : rcf c_.toNat S0_ (sm_aI S_ 234 0 (12 * c_ + i_).toNat (S_.2.2.1 185 0 (12 * (S_.1 13 0 106) + i_).toNat)) := rcf_aI hK_ (Or.inr (by rw [show rcs 234 = 12 from rfl]; omega))
        refine sm_T_go 4 (c1 := (217, [some (.inr (.inr (some (13, 0)))), some (.inl c_), some (.inl i_), none], [.inl c_, .inl 12, .inr (.inr (some (235, 0)))], sm_aI S_ 234 0 (12 * c_ + i_).toNat (S_.2.2.1 185 0 (12 * (S_.1 13 0 106) + i_).toNat))) rfl ?_
        refine sm_T_bin (w := 12 * c_) rfl (bi_mul (by omega) (by omega) (by omega)) ?_ -- pc_ 217
        refine sm_T_go 1 (c1 := (219, [some (.inr (.inr (some (13, 0)))), some (.inl c_), some (.inl i_), none], [.inl i_, .inl (12 * c_), .inr (.inr (some (235, 0)))], sm_aI S_ 234 0 (12 * c_ + i_).toNat (S_.2.2.1 185 0 (12 * (S_.1 13 0 106) + i_).toNat))) rfl ?_
        refine sm_T_bin (w := 12 * c_ + i_) rfl (bi_add (by omega) (by omega) (by omega)) ?_ -- pc_ 219
        refine sm_T_go 5 (c1 := (230, [some (.inr (.inr (some (13, 0)))), some (.inl c_), some (.inl i_), none], [.inl (S_.1 13 0 106), .inl 12, .inr (.inr (some (186, 0))), .inl (12 * c_ + i_), .inr (.inr (some (235, 0)))], sm_aI S_ 234 0 (12 * c_ + i_).toNat (S_.2.2.1 185 0 (12 * (S_.1 13 0 106) + i_).toNat))) rfl ?_
        refine sm_T_bin (w := 12 * (S_.1 13 0 106)) rfl (bi_mul (by omega) (by omega) (by omega)) ?_ -- pc_ 230
        refine sm_T_go 1 (c1 := (232, [some (.inr (.inr (some (13, 0)))), some (.inl c_), some (.inl i_), none], [.inl i_, .inl (12 * (S_.1 13 0 106)), .inr (.inr (some (186, 0))), .inl (12 * c_ + i_), .inr (.inr (some (235, 0)))], sm_aI S_ 234 0 (12 * c_ + i_).toNat (S_.2.2.1 185 0 (12 * (S_.1 13 0 106) + i_).toNat))) rfl ?_
        refine sm_T_bin (w := 12 * (S_.1 13 0 106) + i_) rfl (bi_add (by omega) (by omega) (by omega)) ?_ -- pc_ 232
        refine sm_T_iald (n := 36) rfl rfl (by omega) (by omega) ?_
        have bx28_ : 0 ≤ S_.2.2.1 186 0 (12 * (S_.1 13 0 106) + i_).toNat ∧ S_.2.2.1 186 0 (12 * (S_.1 13 0 106) + i_).toNat ≤ 255 := hI_.2 186 0 _
        refine sm_T_go 0 (c1 := (234, [some (.inr (.inr (some (13, 0)))), some (.inl c_), some (.inl i_), none], [.inl (S_.2.2.1 186 0 (12 * (S_.1 13 0 106) + i_).toNat), .inl (12 * c_ + i_), .inr (.inr (some (235, 0)))], sm_aI S_ 234 0 (12 * c_ + i_).toNat (S_.2.2.1 185 0 (12 * (S_.1 13 0 106) + i_).toNat))) rfl ?_
        refine sm_T_iast (n := 48) rfl rfl (by omega) (by omega) ?_
        have hIx29_ : gi (sm_aI (sm_aI S_ 234 0 (12 * c_ + i_).toNat (S_.2.2.1 185 0 (12 * (S_.1 13 0 106) + i_).toNat)) 235 0 (12 * c_ + i_).toNat (S_.2.2.1 186 0 (12 * (S_.1 13 0 106) + i_).toNat)) := gi_aI hIx25_ (show 0 ≤ (S_.2.2.1 186 0 (12 * (S_.1 13 0 106) + i_).toNat) ∧ (S_.2.2.1 186 0 (12 * (S_.1 13 0 106) + i_).toNat) ≤ 255 from ⟨by omega, by omega⟩)
        have hFx30_ : ai_fr (sx_W vw_420n) S0_ (sm_aI (sm_aI S_ 234 0 (12 * c_ + i_).toNat (S_.2.2.1 185 0 (12 * (S_.1 13 0 106) + i_).toNat)) 235 0 (12 * c_ + i_).toNat (S_.2.2.1 186 0 (12 * (S_.1 13 0 106) + i_).toNat)) := ai_fr_tr hFx26_ (ai_fr_aI rfl)
        have hKx31_ : rcf c_.toNat S0_ (sm_aI (sm_aI S_ 234 0 (12 * c_ + i_).toNat (S_.2.2.1 185 0 (12 * (S_.1 13 0 106) + i_).toNat)) 235 0 (12 * c_ + i_).toNat (S_.2.2.1 186 0 (12 * (S_.1 13 0 106) + i_).toNat)) := rcf_aI hKx27_ (Or.inr (by rw [show rcs 235 = 12 from rfl]; omega))
        refine sm_T_go 4 (c1 := (242, [some (.inr (.inr (some (13, 0)))), some (.inl c_), some (.inl i_), none], [.inl c_, .inl 12, .inr (.inr (some (236, 0)))], sm_aI (sm_aI S_ 234 0 (12 * c_ + i_).toNat (S_.2.2.1 185 0 (12 * (S_.1 13 0 106) + i_).toNat)) 235 0 (12 * c_ + i_).toNat (S_.2.2.1 186 0 (12 * (S_.1 13 0 106) + i_).toNat))) rfl ?_
        refine sm_T_bin (w := 12 * c_) rfl (bi_mul (by omega) (by omega) (by omega)) ?_ -- pc_ 242
        refine sm_T_go 1 (c1 := (244, [some (.inr (.inr (some (13, 0)))), some (.inl c_), some (.inl i_), none], [.inl i_, .inl (12 * c_), .inr (.inr (some (236, 0)))], sm_aI (sm_aI S_ 234 0 (12 * c_ + i_).toNat (S_.2.2.1 185 0 (12 * (S_.1 13 0 106) + i_).toNat)) 235 0 (12 * c_ + i_).toNat (S_.2.2.1 186 0 (12 * (S_.1 13 0 106) + i_).toNat))) rfl ?_
        refine sm_T_bin (w := 12 * c_ + i_) rfl (bi_add (by omega) (by omega) (by omega)) ?_ -- pc_ 244
        refine sm_T_go 5 (c1 := (255, [some (.inr (.inr (some (13, 0)))), some (.inl c_), some (.inl i_), none], [.inl (S_.1 13 0 106), .inl 12, .inr (.inr (some (187, 0))), .inl (12 * c_ + i_), .inr (.inr (some (236, 0)))], sm_aI (sm_aI S_ 234 0 (12 * c_ + i_).toNat (S_.2.2.1 185 0 (12 * (S_.1 13 0 106) + i_).toNat)) 235 0 (12 * c_ + i_).toNat (S_.2.2.1 186 0 (12 * (S_.1 13 0 106) + i_).toNat))) rfl ?_
        refine sm_T_bin (w := 12 * (S_.1 13 0 106)) rfl (bi_mul (by omega) (by omega) (by omega)) ?_ -- pc_ 255
        refine sm_T_go 1 (c1 := (257, [some (.inr (.inr (some (13, 0)))), some (.inl c_), some (.inl i_), none], [.inl i_, .inl (12 * (S_.1 13 0 106)), .inr (.inr (some (187, 0))), .inl (12 * c_ + i_), .inr (.inr (some (236, 0)))], sm_aI (sm_aI S_ 234 0 (12 * c_ + i_).toNat (S_.2.2.1 185 0 (12 * (S_.1 13 0 106) + i_).toNat)) 235 0 (12 * c_ + i_).toNat (S_.2.2.1 186 0 (12 * (S_.1 13 0 106) + i_).toNat))) rfl ?_
        refine sm_T_bin (w := 12 * (S_.1 13 0 106) + i_) rfl (bi_add (by omega) (by omega) (by omega)) ?_ -- pc_ 257
        refine sm_T_iald (n := 36) rfl rfl (by omega) (by omega) ?_
        have bx32_ : 0 ≤ S_.2.2.1 187 0 (12 * (S_.1 13 0 106) + i_).toNat ∧ S_.2.2.1 187 0 (12 * (S_.1 13 0 106) + i_).toNat ≤ 1000 := hI_.2 187 0 _
        refine sm_T_go 0 (c1 := (259, [some (.inr (.inr (some (13, 0)))), some (.inl c_), some (.inl i_), none], [.inl (S_.2.2.1 187 0 (12 * (S_.1 13 0 106) + i_).toNat), .inl (12 * c_ + i_), .inr (.inr (some (236, 0)))], sm_aI (sm_aI S_ 234 0 (12 * c_ + i_).toNat (S_.2.2.1 185 0 (12 * (S_.1 13 0 106) + i_).toNat)) 235 0 (12 * c_ + i_).toNat (S_.2.2.1 186 0 (12 * (S_.1 13 0 106) + i_).toNat))) rfl ?_
        refine sm_T_iast (n := 48) rfl rfl (by omega) (by omega) ?_
        have hIx33_ : gi (sm_aI (sm_aI (sm_aI S_ 234 0 (12 * c_ + i_).toNat (S_.2.2.1 185 0 (12 * (S_.1 13 0 106) + i_).toNat)) 235 0 (12 * c_ + i_).toNat (S_.2.2.1 186 0 (12 * (S_.1 13 0 106) + i_).toNat)) 236 0 (12 * c_ + i_).toNat (S_.2.2.1 187 0 (12 * (S_.1 13 0 106) + i_).toNat)) := gi_aI hIx29_ (show 0 ≤ (S_.2.2.1 187 0 (12 * (S_.1 13 0 106) + i_).toNat) ∧ (S_.2.2.1 187 0 (12 * (S_.1 13 0 106) + i_).toNat) ≤ 1000 from ⟨by omega, by omega⟩)
        have hFx34_ : ai_fr (sx_W vw_420n) S0_ (sm_aI (sm_aI (sm_aI S_ 234 0 (12 * c_ + i_).toNat (S_.2.2.1 185 0 (12 * (S_.1 13 0 106) + i_).toNat)) 235 0 (12 * c_ + i_).toNat (S_.2.2.1 186 0 (12 * (S_.1 13 0 106) + i_).toNat)) 236 0 (12 * c_ + i_).toNat (S_.2.2.1 187 0 (12 * (S_.1 13 0 106) + i_).toNat)) := ai_fr_tr hFx30_ (ai_fr_aI rfl)
        have hKx35_ : rcf c_.toNat S0_ (sm_aI (sm_aI (sm_aI S_ 234 0 (12 * c_ + i_).toNat (S_.2.2.1 185 0 (12 * (S_.1 13 0 106) + i_).toNat)) 235 0 (12 * c_ + i_).toNat (S_.2.2.1 186 0 (12 * (S_.1 13 0 106) + i_).toNat)) 236 0 (12 * c_ + i_).toNat (S_.2.2.1 187 0 (12 * (S_.1 13 0 106) + i_).toNat)) := rcf_aI hKx31_ (Or.inr (by rw [show rcs 236 = 12 from rfl]; omega))
        refine sm_T_go 4 (c1 := (267, [some (.inr (.inr (some (13, 0)))), some (.inl c_), some (.inl i_), none], [.inl c_, .inl 12, .inr (.inr (some (237, 0)))], sm_aI (sm_aI (sm_aI S_ 234 0 (12 * c_ + i_).toNat (S_.2.2.1 185 0 (12 * (S_.1 13 0 106) + i_).toNat)) 235 0 (12 * c_ + i_).toNat (S_.2.2.1 186 0 (12 * (S_.1 13 0 106) + i_).toNat)) 236 0 (12 * c_ + i_).toNat (S_.2.2.1 187 0 (12 * (S_.1 13 0 106) + i_).toNat))) rfl ?_
        refine sm_T_bin (w := 12 * c_) rfl (bi_mul (by omega) (by omega) (by omega)) ?_ -- pc_ 267
        refine sm_T_go 1 (c1 := (269, [some (.inr (.inr (some (13, 0)))), some (.inl c_), some (.inl i_), none], [.inl i_, .inl (12 * c_), .inr (.inr (some (237, 0)))], sm_aI (sm_aI (sm_aI S_ 234 0 (12 * c_ + i_).toNat (S_.2.2.1 185 0 (12 * (S_.1 13 0 106) + i_).toNat)) 235 0 (12 * c_ + i_).toNat (S_.2.2.1 186 0 (12 * (S_.1 13 0 106) + i_).toNat)) 236 0 (12 * c_ + i_).toNat (S_.2.2.1 187 0 (12 * (S_.1 13 0 106) + i_).toNat))) rfl ?_
        refine sm_T_bin (w := 12 * c_ + i_) rfl (bi_add (by omega) (by omega) (by omega)) ?_ -- pc_ 269
        refine sm_T_go 5 (c1 := (280, [some (.inr (.inr (some (13, 0)))), some (.inl c_), some (.inl i_), none], [.inl (S_.1 13 0 106), .inl 12, .inr (.inr (some (188, 0))), .inl (12 * c_ + i_), .inr (.inr (some (237, 0)))], sm_aI (sm_aI (sm_aI S_ 234 0 (12 * c_ + i_).toNat (S_.2.2.1 185 0 (12 * (S_.1 13 0 106) + i_).toNat)) 235 0 (12 * c_ + i_).toNat (S_.2.2.1 186 0 (12 * (S_.1 13 0 106) + i_).toNat)) 236 0 (12 * c_ + i_).toNat (S_.2.2.1 187 0 (12 * (S_.1 13 0 106) + i_).toNat))) rfl ?_
        refine sm_T_bin (w := 12 * (S_.1 13 0 106)) rfl (bi_mul (by omega) (by omega) (by omega)) ?_ -- pc_ 280
        refine sm_T_go 1 (c1 := (282, [some (.inr (.inr (some (13, 0)))), some (.inl c_), some (.inl i_), none], [.inl i_, .inl (12 * (S_.1 13 0 106)), .inr (.inr (some (188, 0))), .inl (12 * c_ + i_), .inr (.inr (some (237, 0)))], sm_aI (sm_aI (sm_aI S_ 234 0 (12 * c_ + i_).toNat (S_.2.2.1 185 0 (12 * (S_.1 13 0 106) + i_).toNat)) 235 0 (12 * c_ + i_).toNat (S_.2.2.1 186 0 (12 * (S_.1 13 0 106) + i_).toNat)) 236 0 (12 * c_ + i_).toNat (S_.2.2.1 187 0 (12 * (S_.1 13 0 106) + i_).toNat))) rfl ?_
        refine sm_T_bin (w := 12 * (S_.1 13 0 106) + i_) rfl (bi_add (by omega) (by omega) (by omega)) ?_ -- pc_ 282
        refine sm_T_iald (n := 36) rfl rfl (by omega) (by omega) ?_
        have bx36_ : 0 ≤ S_.2.2.1 188 0 (12 * (S_.1 13 0 106) + i_).toNat ∧ S_.2.2.1 188 0 (12 * (S_.1 13 0 106) + i_).toNat ≤ 100 := hI_.2 188 0 _
        refine sm_T_go 0 (c1 := (284, [some (.inr (.inr (some (13, 0)))), some (.inl c_), some (.inl i_), none], [.inl (S_.2.2.1 188 0 (12 * (S_.1 13 0 106) + i_).toNat), .inl (12 * c_ + i_), .inr (.inr (some (237, 0)))], sm_aI (sm_aI (sm_aI S_ 234 0 (12 * c_ + i_).toNat (S_.2.2.1 185 0 (12 * (S_.1 13 0 106) + i_).toNat)) 235 0 (12 * c_ + i_).toNat (S_.2.2.1 186 0 (12 * (S_.1 13 0 106) + i_).toNat)) 236 0 (12 * c_ + i_).toNat (S_.2.2.1 187 0 (12 * (S_.1 13 0 106) + i_).toNat))) rfl ?_
        refine sm_T_iast (n := 48) rfl rfl (by omega) (by omega) ?_
        have hIx37_ : gi (sm_aI (sm_aI (sm_aI (sm_aI S_ 234 0 (12 * c_ + i_).toNat (S_.2.2.1 185 0 (12 * (S_.1 13 0 106) + i_).toNat)) 235 0 (12 * c_ + i_).toNat (S_.2.2.1 186 0 (12 * (S_.1 13 0 106) + i_).toNat)) 236 0 (12 * c_ + i_).toNat (S_.2.2.1 187 0 (12 * (S_.1 13 0 106) + i_).toNat)) 237 0 (12 * c_ + i_).toNat (S_.2.2.1 188 0 (12 * (S_.1 13 0 106) + i_).toNat)) := gi_aI hIx33_ (show 0 ≤ (S_.2.2.1 188 0 (12 * (S_.1 13 0 106) + i_).toNat) ∧ (S_.2.2.1 188 0 (12 * (S_.1 13 0 106) + i_).toNat) ≤ 100 from ⟨by omega, by omega⟩)
        have hFx38_ : ai_fr (sx_W vw_420n) S0_ (sm_aI (sm_aI (sm_aI (sm_aI S_ 234 0 (12 * c_ + i_).toNat (S_.2.2.1 185 0 (12 * (S_.1 13 0 106) + i_).toNat)) 235 0 (12 * c_ + i_).toNat (S_.2.2.1 186 0 (12 * (S_.1 13 0 106) + i_).toNat)) 236 0 (12 * c_ + i_).toNat (S_.2.2.1 187 0 (12 * (S_.1 13 0 106) + i_).toNat)) 237 0 (12 * c_ + i_).toNat (S_.2.2.1 188 0 (12 * (S_.1 13 0 106) + i_).toNat)) := ai_fr_tr hFx34_ (ai_fr_aI rfl)
        have hKx39_ : rcf c_.toNat S0_ (sm_aI (sm_aI (sm_aI (sm_aI S_ 234 0 (12 * c_ + i_).toNat (S_.2.2.1 185 0 (12 * (S_.1 13 0 106) + i_).toNat)) 235 0 (12 * c_ + i_).toNat (S_.2.2.1 186 0 (12 * (S_.1 13 0 106) + i_).toNat)) 236 0 (12 * c_ + i_).toNat (S_.2.2.1 187 0 (12 * (S_.1 13 0 106) + i_).toNat)) 237 0 (12 * c_ + i_).toNat (S_.2.2.1 188 0 (12 * (S_.1 13 0 106) + i_).toNat)) := rcf_aI hKx35_ (Or.inr (by rw [show rcs 237 = 12 from rfl]; omega))
        refine sm_T_inc (a := 2) (z := 1) (v := i_) (w := i_ + 1) rfl rfl (by omega) (by omega) (by omega) ?_ -- pc_ 285
        refine sm_T_go 1 (c1 := (179, [some (.inr (.inr (some (13, 0)))), some (.inl c_), some (.inl (i_ + 1)), none], [], sm_aI (sm_aI (sm_aI (sm_aI S_ 234 0 (12 * c_ + i_).toNat (S_.2.2.1 185 0 (12 * (S_.1 13 0 106) + i_).toNat)) 235 0 (12 * c_ + i_).toNat (S_.2.2.1 186 0 (12 * (S_.1 13 0 106) + i_).toNat)) 236 0 (12 * c_ + i_).toNat (S_.2.2.1 187 0 (12 * (S_.1 13 0 106) + i_).toNat)) 237 0 (12 * c_ + i_).toNat (S_.2.2.1 188 0 (12 * (S_.1 13 0 106) + i_).toNat))) rfl ?_
        refine ih_.2.2 (i_ + 1) (sm_aI (sm_aI (sm_aI (sm_aI S_ 234 0 (12 * c_ + i_).toNat (S_.2.2.1 185 0 (12 * (S_.1 13 0 106) + i_).toNat)) 235 0 (12 * c_ + i_).toNat (S_.2.2.1 186 0 (12 * (S_.1 13 0 106) + i_).toNat)) 236 0 (12 * c_ + i_).toNat (S_.2.2.1 187 0 (12 * (S_.1 13 0 106) + i_).toNat)) 237 0 (12 * c_ + i_).toNat (S_.2.2.1 188 0 (12 * (S_.1 13 0 106) + i_).toNat)) hIx37_ hFx38_ ⟨?_, ?_, ?_, ?_, ?_, ?_, ?_, ?_, ?_, trivial⟩ ?_
        · omega
        · (try simp only [rd_eq, rd_ne, rf_eq, rf_nk, rf_nt, rd_fa, rd_af, rd_fl, rd_al, rd_lf, rd_la, rd_leq, rd_lne, rd_fr, rd_ar, ne_eq, Nat.reduceEqDiff, not_false_eq_true])
          exact h1_
        · (try simp only [rd_eq, rd_ne, rf_eq, rf_nk, rf_nt, rd_fa, rd_af, rd_fl, rd_al, rd_lf, rd_la, rd_leq, rd_lne, rd_fr, rd_ar, ne_eq, Nat.reduceEqDiff, not_false_eq_true])
          exact hT_
        · (try simp only [rd_eq, rd_ne, rf_eq, rf_nk, rf_nt, rd_fa, rd_af, rd_fl, rd_al, rd_lf, rd_la, rd_leq, rd_lne, rd_fr, rd_ar, ne_eq, Nat.reduceEqDiff, not_false_eq_true])
          exact h5_
        · intro j9_ u0_ u1_
          (try simp only [rd_eq, rd_ne, rf_eq, rf_nk, rf_nt, rd_fa, rd_af, rd_fl, rd_al, rd_lf, rd_la, rd_leq, rd_lne, rd_fr, rd_ar, ne_eq, Nat.reduceEqDiff, not_false_eq_true])
          by_cases z9_ : j9_ = i_
          · rw [z9_, if_pos rfl, if_pos rfl, if_pos rfl, s106_]; exact ⟨congrFun f186_ _, congrFun f187_ _, congrFun f188_ _⟩
          · rw [if_neg (by omega), if_neg (by omega), if_neg (by omega)]; exact h6_ j9_ u0_ (by omega)
        · intro j9_ u0_ u1_
          (try simp only [rd_eq, rd_ne, rf_eq, rf_nk, rf_nt, rd_fa, rd_af, rd_fl, rd_al, rd_lf, rd_la, rd_leq, rd_lne, rd_fr, rd_ar, ne_eq, Nat.reduceEqDiff, not_false_eq_true])
          exact h2_ j9_ u0_ u1_
        · intro j9_ u0_ u1_
          (try simp only [rd_eq, rd_ne, rf_eq, rf_nk, rf_nt, rd_fa, rd_af, rd_fl, rd_al, rd_lf, rd_la, rd_leq, rd_lne, rd_fr, rd_ar, ne_eq, Nat.reduceEqDiff, not_false_eq_true])
          exact h3_ j9_ u0_ u1_
        · intro j9_ u0_ u1_
          (try simp only [rd_eq, rd_ne, rf_eq, rf_nk, rf_nt, rd_fa, rd_af, rd_fl, rd_al, rd_lf, rd_la, rd_leq, rd_lne, rd_fr, rd_ar, ne_eq, Nat.reduceEqDiff, not_false_eq_true])
          by_cases z9_ : j9_ = i_
          · rw [z9_, if_pos rfl, s106_]; exact congrFun f185_ _
          · rw [if_neg (by omega)]; exact h4_ j9_ u0_ (by omega)
        · exact hKx39_
        · omega
set_option maxHeartbeats 2000000 in
set_option maxRecDepth 20000 in
theorem vc_420n {sc_ : Nat × (Nat → Int)} (c_ : Int) (F_ : Int) (N_ : Int) (d_ : Int) (S0_ : sm_S) (hI_ : gi S0_) (hd_ : dmp F_ N_ d_ S0_) (hc_ : 0 ≤ c_ ∧ c_ ≤ 3) (hmd_ : mad F_ S0_) (hl_ : (S0_.1 13 0 134) = 0) (hg_ : 0 ≤ (S0_.1 13 0 129) ∧ (S0_.1 13 0 129) ≤ 150) (hlb_ : 0 ≤ (S0_.1 13 0 106) ∧ (S0_.1 13 0 106) ≤ 2) (ho_ : (∀ k_ : Int, 0 ≤ k_ → k_ < S0_.2.2.1 156 0 d_.toNat → S0_.2.2.1 231 0 (16 * c_ + k_).toNat < F_ - 1 + S0_.1 13 0 129) ∧ ∀ k_ : Int, 0 ≤ k_ → k_ < S0_.2.2.1 155 0 d_.toNat → S0_.2.2.1 232 0 (6 * c_ + k_).toNat < F_ - 1 + S0_.1 13 0 129) : sm_T (mt_P sc_) 1 420 (0, [some (.inr (.inr (some (13, 0)))), some (.inl c_), none, none], [], S0_) (fun ro9_ => ∃ u_ S1_, ro9_ = (.inl u_, S1_, 0) ∧ vq_420n c_ F_ N_ d_ S0_ u_ S1_) := by
  have hF_ : ai_fr (sx_W vw_420n) S0_ S0_ := ai_fr_rf
  have hK_ : rcf c_.toNat S0_ S0_ := rcf_rf
  have d1_ := hd_.1
  refine sm_T_go 4 (c1 := (6, [some (.inr (.inr (some (13, 0)))), some (.inl c_), none, none], [.inl 1, .inl c_, .inr (.inr (some (222, 0)))], S0_)) rfl ?_
  refine sm_T_zas1 (n := 4) rfl rfl (by omega) (by omega) (by omega) ?_
  have hIx1_ : gi (sm_aI S0_ 222 0 c_.toNat 1) := gi_aI hI_ (show 0 ≤ 1 ∧ 1 ≤ 1 from ⟨by omega, by omega⟩)
  have hFx2_ : ai_fr (sx_W vw_420n) S0_ (sm_aI S0_ 222 0 c_.toNat 1) := ai_fr_tr hF_ (ai_fr_aI rfl)
  have hKx3_ : rcf c_.toNat S0_ (sm_aI S0_ 222 0 c_.toNat 1) := rcf_aI hK_ (Or.inr (by rw [show rcs 222 = 1 from rfl]; omega))
  have bx4_ : 0 ≤ S0_.1 13 0 105 ∧ S0_.1 13 0 105 ≤ 5 := hI_.1 13 0 105 rfl
  refine sm_T_go 7 (c1 := (20, [some (.inr (.inr (some (13, 0)))), some (.inl c_), none, none], [.inl (S0_.1 13 0 105), .inr (.inr (some (154, 0))), .inl c_, .inr (.inr (some (223, 0)))], sm_aI S0_ 222 0 c_.toNat 1)) rfl ?_
  refine sm_T_iald (n := 6) rfl rfl (by omega) (by omega) ?_
  have bx5_ : 0 ≤ S0_.2.2.1 154 0 (S0_.1 13 0 105).toNat ∧ S0_.2.2.1 154 0 (S0_.1 13 0 105).toNat ≤ 12 := hI_.2 154 0 _
  refine sm_T_go 0 (c1 := (21, [some (.inr (.inr (some (13, 0)))), some (.inl c_), none, none], [.inl (S0_.2.2.1 154 0 (S0_.1 13 0 105).toNat), .inl c_, .inr (.inr (some (223, 0)))], sm_aI S0_ 222 0 c_.toNat 1)) rfl ?_
  refine sm_T_iast (n := 4) rfl rfl (by omega) (by omega) ?_
  have hIx6_ : gi (sm_aI (sm_aI S0_ 222 0 c_.toNat 1) 223 0 c_.toNat (S0_.2.2.1 154 0 (S0_.1 13 0 105).toNat)) := gi_aI hIx1_ (show 0 ≤ (S0_.2.2.1 154 0 (S0_.1 13 0 105).toNat) ∧ (S0_.2.2.1 154 0 (S0_.1 13 0 105).toNat) ≤ 12 from ⟨by omega, by omega⟩)
  have hFx7_ : ai_fr (sx_W vw_420n) S0_ (sm_aI (sm_aI S0_ 222 0 c_.toNat 1) 223 0 c_.toNat (S0_.2.2.1 154 0 (S0_.1 13 0 105).toNat)) := ai_fr_tr hFx2_ (ai_fr_aI rfl)
  have hKx8_ : rcf c_.toNat S0_ (sm_aI (sm_aI S0_ 222 0 c_.toNat 1) 223 0 c_.toNat (S0_.2.2.1 154 0 (S0_.1 13 0 105).toNat)) := rcf_aI hKx3_ (Or.inr (by rw [show rcs 223 = 1 from rfl]; omega))
  refine sm_T_go 7 (c1 := (35, [some (.inr (.inr (some (13, 0)))), some (.inl c_), none, none], [.inl (S0_.1 13 0 105), .inr (.inr (some (155, 0))), .inl c_, .inr (.inr (some (224, 0)))], sm_aI (sm_aI S0_ 222 0 c_.toNat 1) 223 0 c_.toNat (S0_.2.2.1 154 0 (S0_.1 13 0 105).toNat))) rfl ?_
  refine sm_T_iald (n := 6) rfl rfl (by omega) (by omega) ?_
  have bx9_ : 0 ≤ S0_.2.2.1 155 0 (S0_.1 13 0 105).toNat ∧ S0_.2.2.1 155 0 (S0_.1 13 0 105).toNat ≤ 6 := hI_.2 155 0 _
  refine sm_T_go 0 (c1 := (36, [some (.inr (.inr (some (13, 0)))), some (.inl c_), none, none], [.inl (S0_.2.2.1 155 0 (S0_.1 13 0 105).toNat), .inl c_, .inr (.inr (some (224, 0)))], sm_aI (sm_aI S0_ 222 0 c_.toNat 1) 223 0 c_.toNat (S0_.2.2.1 154 0 (S0_.1 13 0 105).toNat))) rfl ?_
  refine sm_T_iast (n := 4) rfl rfl (by omega) (by omega) ?_
  have hIx10_ : gi (sm_aI (sm_aI (sm_aI S0_ 222 0 c_.toNat 1) 223 0 c_.toNat (S0_.2.2.1 154 0 (S0_.1 13 0 105).toNat)) 224 0 c_.toNat (S0_.2.2.1 155 0 (S0_.1 13 0 105).toNat)) := gi_aI hIx6_ (show 0 ≤ (S0_.2.2.1 155 0 (S0_.1 13 0 105).toNat) ∧ (S0_.2.2.1 155 0 (S0_.1 13 0 105).toNat) ≤ 6 from ⟨by omega, by omega⟩)
  have hFx11_ : ai_fr (sx_W vw_420n) S0_ (sm_aI (sm_aI (sm_aI S0_ 222 0 c_.toNat 1) 223 0 c_.toNat (S0_.2.2.1 154 0 (S0_.1 13 0 105).toNat)) 224 0 c_.toNat (S0_.2.2.1 155 0 (S0_.1 13 0 105).toNat)) := ai_fr_tr hFx7_ (ai_fr_aI rfl)
  have hKx12_ : rcf c_.toNat S0_ (sm_aI (sm_aI (sm_aI S0_ 222 0 c_.toNat 1) 223 0 c_.toNat (S0_.2.2.1 154 0 (S0_.1 13 0 105).toNat)) 224 0 c_.toNat (S0_.2.2.1 155 0 (S0_.1 13 0 105).toNat)) := rcf_aI hKx8_ (Or.inr (by rw [show rcs 224 = 1 from rfl]; omega))
  refine sm_T_go 7 (c1 := (50, [some (.inr (.inr (some (13, 0)))), some (.inl c_), none, none], [.inl (S0_.1 13 0 105), .inr (.inr (some (156, 0))), .inl c_, .inr (.inr (some (225, 0)))], sm_aI (sm_aI (sm_aI S0_ 222 0 c_.toNat 1) 223 0 c_.toNat (S0_.2.2.1 154 0 (S0_.1 13 0 105).toNat)) 224 0 c_.toNat (S0_.2.2.1 155 0 (S0_.1 13 0 105).toNat))) rfl ?_
  refine sm_T_iald (n := 6) rfl rfl (by omega) (by omega) ?_
  have bx13_ : 0 ≤ S0_.2.2.1 156 0 (S0_.1 13 0 105).toNat ∧ S0_.2.2.1 156 0 (S0_.1 13 0 105).toNat ≤ 16 := hI_.2 156 0 _
  refine sm_T_go 0 (c1 := (51, [some (.inr (.inr (some (13, 0)))), some (.inl c_), none, none], [.inl (S0_.2.2.1 156 0 (S0_.1 13 0 105).toNat), .inl c_, .inr (.inr (some (225, 0)))], sm_aI (sm_aI (sm_aI S0_ 222 0 c_.toNat 1) 223 0 c_.toNat (S0_.2.2.1 154 0 (S0_.1 13 0 105).toNat)) 224 0 c_.toNat (S0_.2.2.1 155 0 (S0_.1 13 0 105).toNat))) rfl ?_
  refine sm_T_iast (n := 4) rfl rfl (by omega) (by omega) ?_
  have hIx14_ : gi (sm_aI (sm_aI (sm_aI (sm_aI S0_ 222 0 c_.toNat 1) 223 0 c_.toNat (S0_.2.2.1 154 0 (S0_.1 13 0 105).toNat)) 224 0 c_.toNat (S0_.2.2.1 155 0 (S0_.1 13 0 105).toNat)) 225 0 c_.toNat (S0_.2.2.1 156 0 (S0_.1 13 0 105).toNat)) := gi_aI hIx10_ (show 0 ≤ (S0_.2.2.1 156 0 (S0_.1 13 0 105).toNat) ∧ (S0_.2.2.1 156 0 (S0_.1 13 0 105).toNat) ≤ 16 from ⟨by omega, by omega⟩)
  have hFx15_ : ai_fr (sx_W vw_420n) S0_ (sm_aI (sm_aI (sm_aI (sm_aI S0_ 222 0 c_.toNat 1) 223 0 c_.toNat (S0_.2.2.1 154 0 (S0_.1 13 0 105).toNat)) 224 0 c_.toNat (S0_.2.2.1 155 0 (S0_.1 13 0 105).toNat)) 225 0 c_.toNat (S0_.2.2.1 156 0 (S0_.1 13 0 105).toNat)) := ai_fr_tr hFx11_ (ai_fr_aI rfl)
  have hKx16_ : rcf c_.toNat S0_ (sm_aI (sm_aI (sm_aI (sm_aI S0_ 222 0 c_.toNat 1) 223 0 c_.toNat (S0_.2.2.1 154 0 (S0_.1 13 0 105).toNat)) 224 0 c_.toNat (S0_.2.2.1 155 0 (S0_.1 13 0 105).toNat)) 225 0 c_.toNat (S0_.2.2.1 156 0 (S0_.1 13 0 105).toNat)) := rcf_aI hKx12_ (Or.inr (by rw [show rcs 225 = 1 from rfl]; omega))
  refine sm_T_go 7 (c1 := (65, [some (.inr (.inr (some (13, 0)))), some (.inl c_), none, none], [.inl (S0_.1 13 0 105), .inr (.inr (some (157, 0))), .inl c_, .inr (.inr (some (226, 0)))], sm_aI (sm_aI (sm_aI (sm_aI S0_ 222 0 c_.toNat 1) 223 0 c_.toNat (S0_.2.2.1 154 0 (S0_.1 13 0 105).toNat)) 224 0 c_.toNat (S0_.2.2.1 155 0 (S0_.1 13 0 105).toNat)) 225 0 c_.toNat (S0_.2.2.1 156 0 (S0_.1 13 0 105).toNat))) rfl ?_
  refine sm_T_iald (n := 6) rfl rfl (by omega) (by omega) ?_
  have bx17_ : 0 ≤ S0_.2.2.1 157 0 (S0_.1 13 0 105).toNat ∧ S0_.2.2.1 157 0 (S0_.1 13 0 105).toNat ≤ 63 := hI_.2 157 0 _
  refine sm_T_go 0 (c1 := (66, [some (.inr (.inr (some (13, 0)))), some (.inl c_), none, none], [.inl (S0_.2.2.1 157 0 (S0_.1 13 0 105).toNat), .inl c_, .inr (.inr (some (226, 0)))], sm_aI (sm_aI (sm_aI (sm_aI S0_ 222 0 c_.toNat 1) 223 0 c_.toNat (S0_.2.2.1 154 0 (S0_.1 13 0 105).toNat)) 224 0 c_.toNat (S0_.2.2.1 155 0 (S0_.1 13 0 105).toNat)) 225 0 c_.toNat (S0_.2.2.1 156 0 (S0_.1 13 0 105).toNat))) rfl ?_
  refine sm_T_iast (n := 4) rfl rfl (by omega) (by omega) ?_
  have hIx18_ : gi (sm_aI (sm_aI (sm_aI (sm_aI (sm_aI S0_ 222 0 c_.toNat 1) 223 0 c_.toNat (S0_.2.2.1 154 0 (S0_.1 13 0 105).toNat)) 224 0 c_.toNat (S0_.2.2.1 155 0 (S0_.1 13 0 105).toNat)) 225 0 c_.toNat (S0_.2.2.1 156 0 (S0_.1 13 0 105).toNat)) 226 0 c_.toNat (S0_.2.2.1 157 0 (S0_.1 13 0 105).toNat)) := gi_aI hIx14_ (show 0 ≤ (S0_.2.2.1 157 0 (S0_.1 13 0 105).toNat) ∧ (S0_.2.2.1 157 0 (S0_.1 13 0 105).toNat) ≤ 63 from ⟨by omega, by omega⟩)
  have hFx19_ : ai_fr (sx_W vw_420n) S0_ (sm_aI (sm_aI (sm_aI (sm_aI (sm_aI S0_ 222 0 c_.toNat 1) 223 0 c_.toNat (S0_.2.2.1 154 0 (S0_.1 13 0 105).toNat)) 224 0 c_.toNat (S0_.2.2.1 155 0 (S0_.1 13 0 105).toNat)) 225 0 c_.toNat (S0_.2.2.1 156 0 (S0_.1 13 0 105).toNat)) 226 0 c_.toNat (S0_.2.2.1 157 0 (S0_.1 13 0 105).toNat)) := ai_fr_tr hFx15_ (ai_fr_aI rfl)
  have hKx20_ : rcf c_.toNat S0_ (sm_aI (sm_aI (sm_aI (sm_aI (sm_aI S0_ 222 0 c_.toNat 1) 223 0 c_.toNat (S0_.2.2.1 154 0 (S0_.1 13 0 105).toNat)) 224 0 c_.toNat (S0_.2.2.1 155 0 (S0_.1 13 0 105).toNat)) 225 0 c_.toNat (S0_.2.2.1 156 0 (S0_.1 13 0 105).toNat)) 226 0 c_.toNat (S0_.2.2.1 157 0 (S0_.1 13 0 105).toNat)) := rcf_aI hKx16_ (Or.inr (by rw [show rcs 226 = 1 from rfl]; omega))
  refine sm_T_go 6 (c1 := (77, [some (.inr (.inr (some (13, 0)))), some (.inl c_), none, none], [.inl c_, .inr (.inr (some (226, 0))), .inl c_, .inr (.inr (some (227, 0)))], sm_aI (sm_aI (sm_aI (sm_aI (sm_aI S0_ 222 0 c_.toNat 1) 223 0 c_.toNat (S0_.2.2.1 154 0 (S0_.1 13 0 105).toNat)) 224 0 c_.toNat (S0_.2.2.1 155 0 (S0_.1 13 0 105).toNat)) 225 0 c_.toNat (S0_.2.2.1 156 0 (S0_.1 13 0 105).toNat)) 226 0 c_.toNat (S0_.2.2.1 157 0 (S0_.1 13 0 105).toNat))) rfl ?_
  refine sm_T_iald (n := 4) rfl rfl (by omega) (by omega) ?_
  have bx21_ : 0 ≤ (sm_aI (sm_aI (sm_aI (sm_aI (sm_aI S0_ 222 0 c_.toNat 1) 223 0 c_.toNat (S0_.2.2.1 154 0 (S0_.1 13 0 105).toNat)) 224 0 c_.toNat (S0_.2.2.1 155 0 (S0_.1 13 0 105).toNat)) 225 0 c_.toNat (S0_.2.2.1 156 0 (S0_.1 13 0 105).toNat)) 226 0 c_.toNat (S0_.2.2.1 157 0 (S0_.1 13 0 105).toNat)).2.2.1 226 0 c_.toNat ∧ (sm_aI (sm_aI (sm_aI (sm_aI (sm_aI S0_ 222 0 c_.toNat 1) 223 0 c_.toNat (S0_.2.2.1 154 0 (S0_.1 13 0 105).toNat)) 224 0 c_.toNat (S0_.2.2.1 155 0 (S0_.1 13 0 105).toNat)) 225 0 c_.toNat (S0_.2.2.1 156 0 (S0_.1 13 0 105).toNat)) 226 0 c_.toNat (S0_.2.2.1 157 0 (S0_.1 13 0 105).toNat)).2.2.1 226 0 c_.toNat ≤ 63 := hIx18_.2 226 0 _
  refine sm_T_go 0 (c1 := (78, [some (.inr (.inr (some (13, 0)))), some (.inl c_), none, none], [.inl ((sm_aI (sm_aI (sm_aI (sm_aI (sm_aI S0_ 222 0 c_.toNat 1) 223 0 c_.toNat (S0_.2.2.1 154 0 (S0_.1 13 0 105).toNat)) 224 0 c_.toNat (S0_.2.2.1 155 0 (S0_.1 13 0 105).toNat)) 225 0 c_.toNat (S0_.2.2.1 156 0 (S0_.1 13 0 105).toNat)) 226 0 c_.toNat (S0_.2.2.1 157 0 (S0_.1 13 0 105).toNat)).2.2.1 226 0 c_.toNat), .inl c_, .inr (.inr (some (227, 0)))], sm_aI (sm_aI (sm_aI (sm_aI (sm_aI S0_ 222 0 c_.toNat 1) 223 0 c_.toNat (S0_.2.2.1 154 0 (S0_.1 13 0 105).toNat)) 224 0 c_.toNat (S0_.2.2.1 155 0 (S0_.1 13 0 105).toNat)) 225 0 c_.toNat (S0_.2.2.1 156 0 (S0_.1 13 0 105).toNat)) 226 0 c_.toNat (S0_.2.2.1 157 0 (S0_.1 13 0 105).toNat))) rfl ?_
  refine sm_T_iast (n := 4) rfl rfl (by omega) (by omega) ?_
  have hIx22_ : gi (sm_aI (sm_aI (sm_aI (sm_aI (sm_aI (sm_aI S0_ 222 0 c_.toNat 1) 223 0 c_.toNat (S0_.2.2.1 154 0 (S0_.1 13 0 105).toNat)) 224 0 c_.toNat (S0_.2.2.1 155 0 (S0_.1 13 0 105).toNat)) 225 0 c_.toNat (S0_.2.2.1 156 0 (S0_.1 13 0 105).toNat)) 226 0 c_.toNat (S0_.2.2.1 157 0 (S0_.1 13 0 105).toNat)) 227 0 c_.toNat ((sm_aI (sm_aI (sm_aI (sm_aI (sm_aI S0_ 222 0 c_.toNat 1) 223 0 c_.toNat (S0_.2.2.1 154 0 (S0_.1 13 0 105).toNat)) 224 0 c_.toNat (S0_.2.2.1 155 0 (S0_.1 13 0 105).toNat)) 225 0 c_.toNat (S0_.2.2.1 156 0 (S0_.1 13 0 105).toNat)) 226 0 c_.toNat (S0_.2.2.1 157 0 (S0_.1 13 0 105).toNat)).2.2.1 226 0 c_.toNat)) := gi_aI hIx18_ (show 0 ≤ ((sm_aI (sm_aI (sm_aI (sm_aI (sm_aI S0_ 222 0 c_.toNat 1) 223 0 c_.toNat (S0_.2.2.1 154 0 (S0_.1 13 0 105).toNat)) 224 0 c_.toNat (S0_.2.2.1 155 0 (S0_.1 13 0 105).toNat)) 225 0 c_.toNat (S0_.2.2.1 156 0 (S0_.1 13 0 105).toNat)) 226 0 c_.toNat (S0_.2.2.1 157 0 (S0_.1 13 0 105).toNat)).2.2.1 226 0 c_.toNat) ∧ ((sm_aI (sm_aI (sm_aI (sm_aI (sm_aI S0_ 222 0 c_.toNat 1) 223 0 c_.toNat (S0_.2.2.1 154 0 (S0_.1 13 0 105).toNat)) 224 0 c_.toNat (S0_.2.2.1 155 0 (S0_.1 13 0 105).toNat)) 225 0 c_.toNat (S0_.2.2.1 156 0 (S0_.1 13 0 105).toNat)) 226 0 c_.toNat (S0_.2.2.1 157 0 (S0_.1 13 0 105).toNat)).2.2.1 226 0 c_.toNat) ≤ 63 from ⟨by omega, by omega⟩)
  have hFx23_ : ai_fr (sx_W vw_420n) S0_ (sm_aI (sm_aI (sm_aI (sm_aI (sm_aI (sm_aI S0_ 222 0 c_.toNat 1) 223 0 c_.toNat (S0_.2.2.1 154 0 (S0_.1 13 0 105).toNat)) 224 0 c_.toNat (S0_.2.2.1 155 0 (S0_.1 13 0 105).toNat)) 225 0 c_.toNat (S0_.2.2.1 156 0 (S0_.1 13 0 105).toNat)) 226 0 c_.toNat (S0_.2.2.1 157 0 (S0_.1 13 0 105).toNat)) 227 0 c_.toNat ((sm_aI (sm_aI (sm_aI (sm_aI (sm_aI S0_ 222 0 c_.toNat 1) 223 0 c_.toNat (S0_.2.2.1 154 0 (S0_.1 13 0 105).toNat)) 224 0 c_.toNat (S0_.2.2.1 155 0 (S0_.1 13 0 105).toNat)) 225 0 c_.toNat (S0_.2.2.1 156 0 (S0_.1 13 0 105).toNat)) 226 0 c_.toNat (S0_.2.2.1 157 0 (S0_.1 13 0 105).toNat)).2.2.1 226 0 c_.toNat)) := ai_fr_tr hFx19_ (ai_fr_aI rfl)
  have hKx24_ : rcf c_.toNat S0_ (sm_aI (sm_aI (sm_aI (sm_aI (sm_aI (sm_aI S0_ 222 0 c_.toNat 1) 223 0 c_.toNat (S0_.2.2.1 154 0 (S0_.1 13 0 105).toNat)) 224 0 c_.toNat (S0_.2.2.1 155 0 (S0_.1 13 0 105).toNat)) 225 0 c_.toNat (S0_.2.2.1 156 0 (S0_.1 13 0 105).toNat)) 226 0 c_.toNat (S0_.2.2.1 157 0 (S0_.1 13 0 105).toNat)) 227 0 c_.toNat ((sm_aI (sm_aI (sm_aI (sm_aI (sm_aI S0_ 222 0 c_.toNat 1) 223 0 c_.toNat (S0_.2.2.1 154 0 (S0_.1 13 0 105).toNat)) 224 0 c_.toNat (S0_.2.2.1 155 0 (S0_.1 13 0 105).toNat)) 225 0 c_.toNat (S0_.2.2.1 156 0 (S0_.1 13 0 105).toNat)) 226 0 c_.toNat (S0_.2.2.1 157 0 (S0_.1 13 0 105).toNat)).2.2.1 226 0 c_.toNat)) := rcf_aI hKx20_ (Or.inr (by rw [show rcs 227 = 1 from rfl]; omega))
  have bx25_ : 0 ≤ S0_.1 13 0 129 ∧ S0_.1 13 0 129 ≤ 8191 := hI_.1 13 0 129 rfl
  refine sm_T_go 5 (c1 := (88, [some (.inr (.inr (some (13, 0)))), some (.inl c_), none, none], [.inl (S0_.1 13 0 129), .inl c_, .inr (.inr (some (228, 0)))], sm_aI (sm_aI (sm_aI (sm_aI (sm_aI (sm_aI S0_ 222 0 c_.toNat 1) 223 0 c_.toNat (S0_.2.2.1 154 0 (S0_.1 13 0 105).toNat)) 224 0 c_.toNat (S0_.2.2.1 155 0 (S0_.1 13 0 105).toNat)) 225 0 c_.toNat (S0_.2.2.1 156 0 (S0_.1 13 0 105).toNat)) 226 0 c_.toNat (S0_.2.2.1 157 0 (S0_.1 13 0 105).toNat)) 227 0 c_.toNat ((sm_aI (sm_aI (sm_aI (sm_aI (sm_aI S0_ 222 0 c_.toNat 1) 223 0 c_.toNat (S0_.2.2.1 154 0 (S0_.1 13 0 105).toNat)) 224 0 c_.toNat (S0_.2.2.1 155 0 (S0_.1 13 0 105).toNat)) 225 0 c_.toNat (S0_.2.2.1 156 0 (S0_.1 13 0 105).toNat)) 226 0 c_.toNat (S0_.2.2.1 157 0 (S0_.1 13 0 105).toNat)).2.2.1 226 0 c_.toNat))) rfl ?_
  refine sm_T_iast (n := 4) rfl rfl (by omega) (by omega) ?_
  have hIx26_ : gi (sm_aI (sm_aI (sm_aI (sm_aI (sm_aI (sm_aI (sm_aI S0_ 222 0 c_.toNat 1) 223 0 c_.toNat (S0_.2.2.1 154 0 (S0_.1 13 0 105).toNat)) 224 0 c_.toNat (S0_.2.2.1 155 0 (S0_.1 13 0 105).toNat)) 225 0 c_.toNat (S0_.2.2.1 156 0 (S0_.1 13 0 105).toNat)) 226 0 c_.toNat (S0_.2.2.1 157 0 (S0_.1 13 0 105).toNat)) 227 0 c_.toNat ((sm_aI (sm_aI (sm_aI (sm_aI (sm_aI S0_ 222 0 c_.toNat 1) 223 0 c_.toNat (S0_.2.2.1 154 0 (S0_.1 13 0 105).toNat)) 224 0 c_.toNat (S0_.2.2.1 155 0 (S0_.1 13 0 105).toNat)) 225 0 c_.toNat (S0_.2.2.1 156 0 (S0_.1 13 0 105).toNat)) 226 0 c_.toNat (S0_.2.2.1 157 0 (S0_.1 13 0 105).toNat)).2.2.1 226 0 c_.toNat)) 228 0 c_.toNat (S0_.1 13 0 129)) := gi_aI hIx22_ (show 0 ≤ (S0_.1 13 0 129) ∧ (S0_.1 13 0 129) ≤ 150 from ⟨by omega, by omega⟩)
  have hFx27_ : ai_fr (sx_W vw_420n) S0_ (sm_aI (sm_aI (sm_aI (sm_aI (sm_aI (sm_aI (sm_aI S0_ 222 0 c_.toNat 1) 223 0 c_.toNat (S0_.2.2.1 154 0 (S0_.1 13 0 105).toNat)) 224 0 c_.toNat (S0_.2.2.1 155 0 (S0_.1 13 0 105).toNat)) 225 0 c_.toNat (S0_.2.2.1 156 0 (S0_.1 13 0 105).toNat)) 226 0 c_.toNat (S0_.2.2.1 157 0 (S0_.1 13 0 105).toNat)) 227 0 c_.toNat ((sm_aI (sm_aI (sm_aI (sm_aI (sm_aI S0_ 222 0 c_.toNat 1) 223 0 c_.toNat (S0_.2.2.1 154 0 (S0_.1 13 0 105).toNat)) 224 0 c_.toNat (S0_.2.2.1 155 0 (S0_.1 13 0 105).toNat)) 225 0 c_.toNat (S0_.2.2.1 156 0 (S0_.1 13 0 105).toNat)) 226 0 c_.toNat (S0_.2.2.1 157 0 (S0_.1 13 0 105).toNat)).2.2.1 226 0 c_.toNat)) 228 0 c_.toNat (S0_.1 13 0 129)) := ai_fr_tr hFx23_ (ai_fr_aI rfl)
  have hKx28_ : rcf c_.toNat S0_ (sm_aI (sm_aI (sm_aI (sm_aI (sm_aI (sm_aI (sm_aI S0_ 222 0 c_.toNat 1) 223 0 c_.toNat (S0_.2.2.1 154 0 (S0_.1 13 0 105).toNat)) 224 0 c_.toNat (S0_.2.2.1 155 0 (S0_.1 13 0 105).toNat)) 225 0 c_.toNat (S0_.2.2.1 156 0 (S0_.1 13 0 105).toNat)) 226 0 c_.toNat (S0_.2.2.1 157 0 (S0_.1 13 0 105).toNat)) 227 0 c_.toNat ((sm_aI (sm_aI (sm_aI (sm_aI (sm_aI S0_ 222 0 c_.toNat 1) 223 0 c_.toNat (S0_.2.2.1 154 0 (S0_.1 13 0 105).toNat)) 224 0 c_.toNat (S0_.2.2.1 155 0 (S0_.1 13 0 105).toNat)) 225 0 c_.toNat (S0_.2.2.1 156 0 (S0_.1 13 0 105).toNat)) 226 0 c_.toNat (S0_.2.2.1 157 0 (S0_.1 13 0 105).toNat)).2.2.1 226 0 c_.toNat)) 228 0 c_.toNat (S0_.1 13 0 129)) := rcf_aI hKx24_ (Or.inr (by rw [show rcs 228 = 1 from rfl]; omega))
  refine sm_T_go 2 (c1 := (91, [some (.inr (.inr (some (13, 0)))), some (.inl c_), some (.inl 0), none], [], sm_aI (sm_aI (sm_aI (sm_aI (sm_aI (sm_aI (sm_aI S0_ 222 0 c_.toNat 1) 223 0 c_.toNat (S0_.2.2.1 154 0 (S0_.1 13 0 105).toNat)) 224 0 c_.toNat (S0_.2.2.1 155 0 (S0_.1 13 0 105).toNat)) 225 0 c_.toNat (S0_.2.2.1 156 0 (S0_.1 13 0 105).toNat)) 226 0 c_.toNat (S0_.2.2.1 157 0 (S0_.1 13 0 105).toNat)) 227 0 c_.toNat ((sm_aI (sm_aI (sm_aI (sm_aI (sm_aI S0_ 222 0 c_.toNat 1) 223 0 c_.toNat (S0_.2.2.1 154 0 (S0_.1 13 0 105).toNat)) 224 0 c_.toNat (S0_.2.2.1 155 0 (S0_.1 13 0 105).toNat)) 225 0 c_.toNat (S0_.2.2.1 156 0 (S0_.1 13 0 105).toNat)) 226 0 c_.toNat (S0_.2.2.1 157 0 (S0_.1 13 0 105).toNat)).2.2.1 226 0 c_.toNat)) 228 0 c_.toNat (S0_.1 13 0 129))) rfl ?_
  refine (vl_420n c_ F_ N_ d_ S0_ hd_ hc_ hmd_ hl_ hg_ hlb_ ho_ _).1 0 (sm_aI (sm_aI (sm_aI (sm_aI (sm_aI (sm_aI (sm_aI S0_ 222 0 c_.toNat 1) 223 0 c_.toNat (S0_.2.2.1 154 0 (S0_.1 13 0 105).toNat)) 224 0 c_.toNat (S0_.2.2.1 155 0 (S0_.1 13 0 105).toNat)) 225 0 c_.toNat (S0_.2.2.1 156 0 (S0_.1 13 0 105).toNat)) 226 0 c_.toNat (S0_.2.2.1 157 0 (S0_.1 13 0 105).toNat)) 227 0 c_.toNat ((sm_aI (sm_aI (sm_aI (sm_aI (sm_aI S0_ 222 0 c_.toNat 1) 223 0 c_.toNat (S0_.2.2.1 154 0 (S0_.1 13 0 105).toNat)) 224 0 c_.toNat (S0_.2.2.1 155 0 (S0_.1 13 0 105).toNat)) 225 0 c_.toNat (S0_.2.2.1 156 0 (S0_.1 13 0 105).toNat)) 226 0 c_.toNat (S0_.2.2.1 157 0 (S0_.1 13 0 105).toNat)).2.2.1 226 0 c_.toNat)) 228 0 c_.toNat (S0_.1 13 0 129)) hIx26_ hFx27_ ⟨?_, ?_, ?_, ?_, ?_, ?_, trivial⟩ (Nat.lt_succ_self _)
  · omega
  · (try simp only [rd_eq, rd_ne, rf_eq, rf_nk, rf_nt, rd_fa, rd_af, rd_fl, rd_al, rd_lf, rd_la, rd_leq, rd_lne, rd_fr, rd_ar, ne_eq, Nat.reduceEqDiff, not_false_eq_true])
    rw [d1_.2.2.1]
    exact ⟨rfl, rfl, rfl, rfl, rfl, rfl⟩
  · (try simp only [rd_eq, rd_ne, rf_eq, rf_nk, rf_nt, rd_fa, rd_af, rd_fl, rd_al, rd_lf, rd_la, rd_leq, rd_lne, rd_fr, rd_ar, ne_eq, Nat.reduceEqDiff, not_false_eq_true])
    first | rfl | exact if_pos trivial | exact if_pos rfl
  · (intro j9_ u0_ u1_; exfalso; omega)
  · (intro j9_ u0_ u1_; exfalso; omega)
  · exact hKx28_
end
/-! 99.ztZk -/
section
/-! trees of the graph that the reference maps; written by wip/p55/gen/vg -/

/-! needed nodes are_ swept ones, and so_ are_ their parts -/
theorem psm_z {g_ : Nat → Nat} {a_ : Nat} : ∀ l_ : Nat, (∀ i_, i_ < l_ → g_ (a_ + i_) = 0) → psm g_ a_ l_ = 0
  | 0, _ => rfl
  | l_ + 1, e_ => by
    show psm g_ a_ l_ + g_ (a_ + l_) = 0
    rw [psm_z l_ (fun i_ hi_ => e_ i_ (by omega)), e_ l_ (Nat.lt_succ_self l_)]
theorem nsw_sf {F_ N_ : Nat} {lo_ hi_ sf_ : Nat → Int} {l_ : Int} (hs_ : ∀ m_, m_ < N_ → sfo F_ lo_ hi_ sf_ m_) (h0_ : 0 ≤ l_) (h1_ : l_ < 2 * (N_ : Int)) : nsw sf_ l_ < N_ ∧ sf_ (nsw sf_ l_) = 2 * ((nsw sf_ l_ : Nat) : Int) := by
  have s_ := hs_ (l_ / 2).toNat (by omega)
  have b_ := s_.1
  have e_ := s_.2.1
  have u_ : ((nsw sf_ l_ : Nat) : Int) = sf_ (l_ / 2).toNat / 2 := by
    unfold nsw
    omega
  refine ⟨by omega, ?_⟩
  rw [u_]
  exact e_
theorem nd0_sf {F_ N_ : Nat} {lo_ hi_ sf_ rt_ : Nat → Int} (hs_ : ∀ m_, m_ < N_ → sfo F_ lo_ hi_ sf_ m_) : ∀ (k_ q_ : Nat), (∀ i_, i_ < k_ → 0 ≤ rt_ i_ ∧ rt_ i_ < 2 * (N_ : Int)) → nd0 sf_ rt_ k_ q_ = true → q_ < N_ ∧ sf_ q_ = 2 * (q_ : Int)
  | 0, _, _, h_ => absurd h_ Bool.false_ne_true
  | k_ + 1, q_, hr_, h_ => by
    have h_ : (nd0 sf_ rt_ k_ q_ || decide (q_ = nsw sf_ (rt_ k_))) = true := h_
    rw [Bool.or_eq_true, decide_eq_true_iff] at h_
    rcases h_ with h_ | h_
    · exact nd0_sf hs_ k_ q_ (fun i_ hi_ => hr_ i_ (by omega)) h_
    · rw [h_]
      exact nsw_sf hs_ (hr_ k_ (Nat.lt_succ_self k_)).1 (hr_ k_ (Nat.lt_succ_self k_)).2
theorem ndk_sf {F_ N_ : Nat} {lo_ hi_ sf_ : Nat → Int} {m0_ : Nat → Bool} (hg_ : glo F_ N_ lo_ hi_) (hs_ : ∀ m_, m_ < N_ → sfo F_ lo_ hi_ sf_ m_) (h0_ : ∀ q_, m0_ q_ = true → q_ < N_ ∧ sf_ q_ = 2 * (q_ : Int)) : ∀ (j_ q_ : Nat), j_ ≤ N_ - F_ → (ndk N_ sf_ lo_ hi_ m0_ j_).1 q_ = true → q_ < N_ ∧ sf_ q_ = 2 * (q_ : Int)
  | 0, q_, _, h_ => h0_ q_ h_
  | j_ + 1, q_, hj_, h_ => by
    have g_ := hg_ (N_ - 1 - j_) (by omega) (by omega)
    cases x_ : (ndk N_ sf_ lo_ hi_ m0_ j_).1 (N_ - 1 - j_)
    · rw [ndk_n x_] at h_
      exact ndk_sf hg_ hs_ h0_ j_ q_ (by omega) h_
    · rw [ndk_y x_] at h_
      have h_ : (((ndk N_ sf_ lo_ hi_ m0_ j_).1 q_ || decide (q_ = nsw sf_ (lo_ (N_ - 1 - j_)))) || decide (q_ = nsw sf_ (hi_ (N_ - 1 - j_)))) = true := h_
      rw [Bool.or_eq_true, Bool.or_eq_true, decide_eq_true_iff, decide_eq_true_iff] at h_
      rcases h_ with (h_ | h_) | h_
      · exact ndk_sf hg_ hs_ h0_ j_ q_ (by omega) h_
      · rw [h_]
        exact nsw_sf hs_ (by omega) (by omega)
      · rw [h_]
        exact nsw_sf hs_ (by omega) (by omega)
theorem ndk_up {N_ : Nat} {lo_ hi_ sf_ : Nat → Int} {m0_ : Nat → Bool} {q_ j_ : Nat} (h_ : (ndk N_ sf_ lo_ hi_ m0_ j_).1 q_ = true) : ∀ i_ : Nat, (ndk N_ sf_ lo_ hi_ m0_ (j_ + i_)).1 q_ = true
  | 0 => h_
  | i_ + 1 => by
    have u_ := ndk_up h_ i_
    show (ndk N_ sf_ lo_ hi_ m0_ (j_ + i_ + 1)).1 q_ = true
    cases x_ : (ndk N_ sf_ lo_ hi_ m0_ (j_ + i_)).1 (N_ - 1 - (j_ + i_))
    · rw [ndk_n x_]
      exact u_
    · rw [ndk_y x_]
      show (((ndk N_ sf_ lo_ hi_ m0_ (j_ + i_)).1 q_ || _) || _) = true
      rw [u_, Bool.true_or, Bool.true_or]
theorem ndf_c {F_ N_ K_ : Nat} {lo_ hi_ sf_ rt_ : Nat → Int} (hg_ : glo F_ N_ lo_ hi_) (hs_ : ∀ m_, m_ < N_ → sfo F_ lo_ hi_ sf_ m_) (hr_ : ∀ i_, i_ < K_ → 0 ≤ rt_ i_ ∧ rt_ i_ < 2 * (N_ : Int)) (x_ : Nat) (a_ : F_ ≤ x_) (b_ : x_ < N_) (h_ : ndf F_ N_ K_ sf_ lo_ hi_ rt_ x_ = true) : sf_ x_ = 2 * (x_ : Int) ∧ ndf F_ N_ K_ sf_ lo_ hi_ rt_ (nsw sf_ (lo_ x_)) = true ∧ ndf F_ N_ K_ sf_ lo_ hi_ rt_ (nsw sf_ (hi_ x_)) = true := by
  have h1_ : (ndk N_ sf_ lo_ hi_ (nd0 sf_ rt_ K_) (N_ - F_)).1 x_ = true := h_
  have s_ := ndk_sf hg_ hs_ (fun q_ => nd0_sf hs_ K_ q_ hr_) (N_ - F_) x_ (Nat.le_refl _) h1_
  rw [ndk_fn hg_ (fun m_ hm_ => (hs_ m_ hm_).1) (N_ - F_ - (N_ - 1 - x_)) (N_ - 1 - x_) x_ (by omega) (by omega)] at h1_
  have e_ : N_ - 1 - (N_ - 1 - x_) = x_ := by omega
  have y_ := ndk_y (N_ := N_) (j_ := N_ - 1 - x_) (sf_ := sf_) (lo_ := lo_) (hi_ := hi_) (m0_ := nd0 sf_ rt_ K_) (by rw [e_]; exact h1_)
  rw [e_] at y_
  have p_ : ∀ q_, (q_ = nsw sf_ (lo_ x_) ∨ q_ = nsw sf_ (hi_ x_)) → ndf F_ N_ K_ sf_ lo_ hi_ rt_ q_ = true := by
    intro q_ hq_
    have z_ : (ndk N_ sf_ lo_ hi_ (nd0 sf_ rt_ K_) (N_ - 1 - x_ + 1)).1 q_ = true := by
      rw [y_]
      show (((ndk N_ sf_ lo_ hi_ (nd0 sf_ rt_ K_) (N_ - 1 - x_)).1 q_ || decide (q_ = nsw sf_ (lo_ x_))) || decide (q_ = nsw sf_ (hi_ x_))) = true
      rcases hq_ with hq_ | hq_
      · rw [decide_eq_true hq_, Bool.or_true, Bool.true_or]
      · rw [decide_eq_true hq_, Bool.or_true]
    have w_ := ndk_up z_ (N_ - F_ - (N_ - 1 - x_ + 1))
    rw [show N_ - 1 - x_ + 1 + (N_ - F_ - (N_ - 1 - x_ + 1)) = N_ - F_ by omega] at w_
    exact w_
  exact ⟨s_.2, p_ _ (Or.inl rfl), p_ _ (Or.inr rfl)⟩
/-- what is_ used is_ needed -/
theorem psm_nd {F_ N_ K_ : Nat} {lo_ hi_ sf_ rt_ : Nat → Int} (hg_ : glo F_ N_ lo_ hi_) (hs_ : ∀ m_, m_ < N_ → sfo F_ lo_ hi_ sf_ m_) (hr_ : ∀ i_, i_ < K_ → 0 ≤ rt_ i_ ∧ rt_ i_ < 2 * (N_ : Int)) (q_ : Nat) (h_ : ¬ ndf F_ N_ K_ sf_ lo_ hi_ rt_ q_ = true) : psm (pgn sf_ lo_ hi_ (ndf F_ N_ K_ sf_ lo_ hi_ rt_) q_) F_ (N_ - F_) = 0 := by
  refine psm_z _ (fun i_ hi9_ => ?_)
  unfold pgn
  by_cases z_ : ndf F_ N_ K_ sf_ lo_ hi_ rt_ (F_ + i_) = true
  · have c_ := ndf_c hg_ hs_ hr_ (F_ + i_) (by omega) (by omega) z_
    rw [if_pos z_, if_neg (fun e_ => h_ (by rw [e_]; exact c_.2.1)), if_neg (fun e_ => h_ (by rw [e_]; exact c_.2.2))]
  · rw [if_neg z_]
/-! the_ same trees with sides in another order -/
theorem trh_ag {inn_ : Nat → Bool} {cl_ ch_ dl_ dh_ : Nat → Nat} {n_ : Nat} {T_ : Nat → Prop} (h_ : trh inn_ cl_ ch_ n_ T_) (a_ : ∀ x_, T_ x_ → agr cl_ ch_ dl_ dh_ x_) : trh inn_ dl_ dh_ n_ T_ := by
  have s_ : ∀ x_ z_, T_ x_ → (z_ = dl_ x_ ∨ z_ = dh_ x_) → (z_ = cl_ x_ ∨ z_ = ch_ x_) := by
    intro x_ z_ hx_ hz_
    rcases a_ x_ hx_ with ⟨e1_, e2_⟩ | ⟨e1_, e2_⟩
    · rw [e1_, e2_]
      exact hz_
    · rw [e1_, e2_]
      exact hz_.symm
  refine ⟨h_.1, fun x_ hx_ => ?_, fun x_ y_ z_ hx_ hy_ zx_ zy_ iz_ => h_.2.2 x_ y_ z_ hx_ hy_ (s_ x_ z_ hx_ zx_) (s_ y_ z_ hy_ zy_) iz_⟩
  have p_ := h_.2.1 x_ hx_
  rcases a_ x_ hx_ with ⟨e1_, e2_⟩ | ⟨e1_, e2_⟩
  · rw [← e1_, ← e2_]
    exact p_
  · rw [← e1_, ← e2_]
    exact ⟨⟨p_.1.2.1, p_.1.1, fun u_ => p_.1.2.2 u_.symm⟩, p_.2.2, p_.2.1⟩
theorem crn_ag {inn_ : Nat → Bool} {cl_ ch_ dl_ dh_ : Nat → Nat} {n_ : Nat} {T_ : Nat → Prop} (h_ : trh inn_ cl_ ch_ n_ T_) (a_ : ∀ x_, T_ x_ → agr cl_ ch_ dl_ dh_ x_) (m_ : Nat) : crn inn_ cl_ ch_ n_ m_ = crn inn_ dl_ dh_ n_ m_ := (crn_cg (P_ := fun z_ => inn_ z_ = true → T_ z_) ⟨a_ n_ h_.1, (h_.2.1 n_ h_.1).2.1, (h_.2.1 n_ h_.1).2.2⟩ (fun _ _ => rfl) (fun x_ p_ i_ => ⟨a_ x_ (p_ i_), (h_.2.1 x_ (p_ i_)).2.1, (h_.2.1 x_ (p_ i_)).2.2⟩) m_).1
/-! the_ reference's graph -/
def mqs (d_ : Int) (R_ : sm_S) (m_ : Nat) : Int := R_.2.2.1 166 0 (2048 * d_.toNat + m_)
def mql (d_ : Int) (R_ : sm_S) (m_ : Nat) : Int := R_.2.2.1 164 0 (2048 * d_.toNat + m_)
def mqh (d_ : Int) (R_ : sm_S) (m_ : Nat) : Int := R_.2.2.1 165 0 (2048 * d_.toNat + m_)
def mqk (d_ : Int) (R_ : sm_S) : Nat := (R_.2.2.1 156 0 d_.toNat).toNat + (R_.2.2.1 155 0 d_.toNat).toNat
def mqr (d_ : Int) (R_ : sm_S) : Nat → Int := rto (R_.2.2.1 156 0 d_.toNat).toNat (fun k_ => R_.2.2.1 167 0 (16 * d_.toNat + k_)) (fun k_ => R_.2.2.1 168 0 (6 * d_.toNat + k_))
def mqn (F_ N_ d_ : Int) (R_ : sm_S) : Nat → Bool := ndf F_.toNat N_.toNat (mqk d_ R_) (mqs d_ R_) (mql d_ R_) (mqh d_ R_) (mqr d_ R_)
def mqp (F_ N_ d_ : Int) (R_ : sm_S) (q_ : Nat) : Nat := psm (pgn (mqs d_ R_) (mql d_ R_) (mqh d_ R_) (mqn F_ N_ d_ R_) q_) F_.toNat (N_.toNat - F_.toNat)
def rtn (F_ N_ : Int) (R_ : sm_S) (x_ : Nat) : Prop := F_ ≤ (x_ : Int) ∧ (x_ : Int) < N_ ∧ R_.2.2.1 202 0 x_ = 1
/-- needed nodes, roots, sides -/
def rcq0 (F_ N_ d_ : Int) (R_ : sm_S) : Prop := (∀ q_ : Nat, (q_ : Int) < N_ → (R_.2.2.1 202 0 q_ = 1 ↔ mqn F_ N_ d_ R_ q_ = true)) ∧ (∀ q_ : Nat, (q_ : Int) < N_ → R_.2.2.1 203 0 q_ = if F_ ≤ (q_ : Int) ∧ (0 < rcn (mqs d_ R_) (mqr d_ R_) (mqk d_ R_) q_ ∨ (mqn F_ N_ d_ R_ q_ = true ∧ 1 < rcn (mqs d_ R_) (mqr d_ R_) (mqk d_ R_) q_ + mqp F_ N_ d_ R_ q_)) then 1 else 0) ∧ ∀ q_ : Nat, rtn F_ N_ R_ q_ → sdv (mqs d_ R_) (mql d_ R_) (mqh d_ R_) (R_.2.2.1 199 0 q_) (R_.2.2.1 200 0 q_) q_
def rcm (F_ N_ d_ : Int) (R_ : sm_S) : Prop := rcq0 F_ N_ d_ R_ ∧ ∀ n_, rtn F_ N_ R_ n_ → trh (rnn F_ R_) (rcu R_) (rhq R_) n_ (rtn F_ N_ R_) ∧ ∀ m_, (crn (rnn F_ R_) (rcu R_) (rhq R_) n_ m_).length ≤ 47
theorem sdv_ag {F_ N_ : Nat} {lo_ hi_ sf_ : Nat → Int} {a_ b_ : Int} {n_ : Nat} (hg_ : glo F_ N_ lo_ hi_) (hs_ : ∀ m_, m_ < N_ → sfo F_ lo_ hi_ sf_ m_) (h13_ : N_ ≤ 1013) (h1_ : F_ ≤ n_) (h2_ : n_ < N_) (h_ : sdv sf_ lo_ hi_ a_ b_ n_) : (nsw sf_ (lo_ n_) = (a_ / 2).toNat ∧ nsw sf_ (hi_ n_) = (b_ / 2).toNat) ∨ (nsw sf_ (lo_ n_) = (b_ / 2).toNat ∧ nsw sf_ (hi_ n_) = (a_ / 2).toNat) := by
  have g_ := hg_ n_ h1_ h2_
  have s1_ := (hs_ (lo_ n_ / 2).toNat (by omega)).1
  have s2_ := (hs_ (hi_ n_ / 2).toNat (by omega)).1
  have x1_ : (swt sf_ (lo_ n_) / 2).toNat = nsw sf_ (lo_ n_) := nsw_x ⟨s1_.1, by omega⟩
  have x2_ : (swt sf_ (hi_ n_) / 2).toNat = nsw sf_ (hi_ n_) := nsw_x ⟨s2_.1, by omega⟩
  obtain ⟨ha_, hb_⟩ := h_
  by_cases z_ : swt sf_ (lo_ n_) < swt sf_ (hi_ n_)
  · rw [if_pos z_] at ha_ hb_
    rw [ha_, hb_]
    exact Or.inl ⟨x1_.symm, x2_.symm⟩
  · rw [if_neg z_] at ha_ hb_
    rw [ha_, hb_]
    exact Or.inr ⟨x1_.symm, x2_.symm⟩
theorem rcm_of {F_ N_ d_ : Int} {R_ : sm_S} (hd_ : dmp F_ N_ d_ R_) (hsw : swd F_.toNat N_.toNat (mql d_ R_) (mqh d_ R_) (mqs d_ R_)) (h_ : rcq0 F_ N_ d_ R_) : rcm F_ N_ d_ R_ := by
  obtain ⟨a9_, F1_, I1_, R1_, N1_, k1_, k2_, k3_, k4_, k5_, -⟩ := hd_
  have eF_ : F_.toNat = F1_ := by omega
  have eN_ : N_.toNat = N1_ := by omega
  have hg_ : glo F_.toNat N_.toNat (mql d_ R_) (mqh d_ R_) := by
    rw [eF_, eN_]
    exact k2_
  have hs_ : ∀ m_, m_ < N_.toNat → sfo F_.toNat (mql d_ R_) (mqh d_ R_) (mqs d_ R_) m_ := by
    rw [eF_, eN_]
    exact k3_.2
  have hr_ : ∀ i_, i_ < mqk d_ R_ → 0 ≤ mqr d_ R_ i_ ∧ mqr d_ R_ i_ < 2 * (N_.toNat : Int) := by
    intro i_ hi9_
    unfold mqk at hi9_
    unfold mqr rto
    rw [eN_]
    by_cases z_ : i_ < (R_.2.2.1 156 0 d_.toNat).toNat
    · rw [if_pos z_]
      exact k4_ i_ (by omega)
    · rw [if_neg z_]
      exact k5_ (i_ - (R_.2.2.1 156 0 d_.toNat).toNat) (by omega)
  have eT_ : (fun x_ => F_.toNat ≤ x_ ∧ x_ < N_.toNat ∧ mqn F_ N_ d_ R_ x_ = true) = rtn F_ N_ R_ := by
    funext x_
    refine propext ⟨fun q_ => ⟨by have := q_.1; omega, by have := q_.2.1; omega, (h_.1 x_ (by have := q_.2.1; omega)).mpr q_.2.2⟩, fun q_ => ⟨by have := q_.1; omega, by have := q_.2.1; omega, (h_.1 x_ q_.2.1).mp q_.2.2⟩⟩
  have hc_ := fun x_ a_ b_ c_ => ndf_c hg_ hs_ hr_ x_ a_ b_ c_
  have hi9_ : ∀ z_, z_ < N_.toNat → rnn F_ R_ z_ = true → F_.toNat ≤ z_ ∧ psm (pgn (mqs d_ R_) (mql d_ R_) (mqh d_ R_) (mqn F_ N_ d_ R_) z_) F_.toNat (N_.toNat - F_.toNat) ≤ 1 := by
    intro z_ a_ b_
    have e_ := of_decide_eq_true b_
    refine ⟨by omega, ?_⟩
    have u_ := h_.2.1 z_ (by omega)
    rw [e_.2] at u_
    by_cases c_ : mqn F_ N_ d_ R_ z_ = true
    · by_cases y_ : F_ ≤ (z_ : Int) ∧ (0 < rcn (mqs d_ R_) (mqr d_ R_) (mqk d_ R_) z_ ∨ (mqn F_ N_ d_ R_ z_ = true ∧ 1 < rcn (mqs d_ R_) (mqr d_ R_) (mqk d_ R_) z_ + mqp F_ N_ d_ R_ z_))
      · rw [if_pos y_] at u_
        exact absurd u_ (by decide)
      · show mqp F_ N_ d_ R_ z_ ≤ 1
        by_cases w_ : 1 < mqp F_ N_ d_ R_ z_
        · exact absurd ⟨e_.1, Or.inr ⟨c_, by omega⟩⟩ y_
        · omega
    · have p_ := psm_nd hg_ hs_ hr_ z_ c_
      show psm (pgn (mqs d_ R_) (mql d_ R_) (mqh d_ R_) (ndf F_.toNat N_.toNat (mqk d_ R_) (mqs d_ R_) (mql d_ R_) (mqh d_ R_) (mqr d_ R_)) z_) F_.toNat (N_.toNat - F_.toNat) ≤ 1
      omega
  refine ⟨h_, fun n_ tn_ => ?_⟩
  have tn'_ : F_.toNat ≤ n_ ∧ n_ < N_.toNat ∧ mqn F_ N_ d_ R_ n_ = true := by
    have q_ := tn_
    rw [← eT_] at q_
    exact q_
  have t_ := trh_of (inn_ := rnn F_ R_) (n_ := n_) (nd_ := mqn F_ N_ d_ R_) (by omega) hg_ hs_ hc_ hi9_ tn'_
  have ag_ : ∀ x_, (F_.toNat ≤ x_ ∧ x_ < N_.toNat ∧ mqn F_ N_ d_ R_ x_ = true) → agr (fun x_ => nsw (mqs d_ R_) (mql d_ R_ x_)) (fun x_ => nsw (mqs d_ R_) (mqh d_ R_ x_)) (rcu R_) (rhq R_) x_ := fun x_ hx_ => sdv_ag hg_ hs_ (by omega) hx_.1 hx_.2.1 (h_.2.2 x_ (by rw [← eT_]; exact hx_))
  have t2_ := trh_ag t_ ag_
  rw [eT_] at t2_
  refine ⟨t2_, fun m_ => ?_⟩
  rw [← crn_ag t_ ag_ m_]
  exact crn_sw (inn_ := rnn F_ R_) (n_ := n_) (nd_ := mqn F_ N_ d_ R_) (by omega) hg_ hs_ (by have := k3_.1; exact this) hc_ hsw hi9_ tn'_ m_
end
