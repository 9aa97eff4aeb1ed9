/-! a design mapped: the class; written by wip/p55/gen/vg -/

/-! what building a_ chip leaves, in a_ state behind -/
def bpc (dd_ F_ ll_ cc_ : Nat) (S_ : sm_S) (v_ : Int) : Prop := (v_ = -1 ∧ ((∃ n_ : Nat, btn dd_ F_ S_ n_ ∧ S_.2.2.1 60 0 n_ ≠ 0 ∧ 268435456 ≤ S_.2.2.1 61 0 (2 * n_) ∧ ∀ x_, btn dd_ F_ S_ x_ → x_ ≤ n_ → cnw dd_ F_ ll_ (btn dd_ F_ S_) S_ x_) ∨ (ball dd_ F_ ll_ S_ ∧ S_.1 5 ll_ 2 = -1 ∧ ∃ i_ : Int, 0 ≤ i_ ∧ i_ < S_.1 3 dd_ 3 + S_.1 3 dd_ 2 ∧ 1 < slv dd_ S_ i_ ∧ slv dd_ S_ i_ % 2 = 1))) ∨ (v_ ≠ -1 ∧ ball dd_ F_ ll_ S_ ∧ (S_.1 5 ll_ 2 ≠ -1 ∨ ∀ i_ : Int, 0 ≤ i_ → i_ < S_.1 3 dd_ 3 + S_.1 3 dd_ 2 → slv dd_ S_ i_ ≤ 1 ∨ slv dd_ S_ i_ % 2 = 0) ∧ ∃ M_ : Nat → Int, inm (F_ : Int) M_ ∧ ((v_ = -2 ∧ 150 < (rtq (cpn ll_ S_) (cpv (F_ : Int) S_) (cgc ll_ S_) ((F_ : Int) - 1) (fun j_ => slv dd_ S_ (j_ : Int)) (S_.1 3 dd_ 3 + S_.1 3 dd_ 2).toNat (M_, [])).2.length) ∨ (v_ = 0 ∧ ∃ g9_ : List (Int × List Int), cgz cc_ S_ g9_ ∧ (S_.2.2.1 72 0, g9_) = rtq (cpn ll_ S_) (cpv (F_ : Int) S_) (cgc ll_ S_) ((F_ : Int) - 1) (fun j_ => slv dd_ S_ (j_ : Int)) (S_.1 3 dd_ 3 + S_.1 3 dd_ 2).toNat (M_, []) ∧ ∀ j_ : Nat, j_ < (S_.1 3 dd_ 3 + S_.1 3 dd_ 2).toNat → (if (j_ : Int) < S_.1 3 dd_ 3 then S_.2.2.1 37 (0 + cc_) j_ else S_.2.2.1 38 (0 + cc_) (j_ - (S_.1 3 dd_ 3).toNat)) = ntq (fun j_ => slv dd_ S_ (j_ : Int)) (S_.2.2.1 72 0) j_)))
theorem bpc_of {dd_ F_ ll_ cc_ : Nat} {o_ r_ v_ : Int} {S_ : sm_S} (h_ : (v_ = -1 ∧ ((∃ n_ : Nat, btn dd_ F_ S_ n_ ∧ S_.2.2.1 60 0 n_ ≠ 0 ∧ 268435456 ≤ S_.2.2.1 61 0 (2 * n_) ∧ ∀ x_, btn dd_ F_ S_ x_ → x_ ≤ n_ → cnw dd_ F_ ll_ (btn dd_ F_ S_) S_ x_) ∨ (ball dd_ F_ ll_ S_ ∧ S_.1 5 ll_ 2 = -1 ∧ ∃ i_ : Int, 0 ≤ i_ ∧ i_ < o_ + r_ ∧ 1 < slv dd_ S_ i_ ∧ slv dd_ S_ i_ % 2 = 1))) ∨ (v_ ≠ -1 ∧ ball dd_ F_ ll_ S_ ∧ (S_.1 5 ll_ 2 ≠ -1 ∨ ∀ i_ : Int, 0 ≤ i_ → i_ < o_ + r_ → slv dd_ S_ i_ ≤ 1 ∨ slv dd_ S_ i_ % 2 = 0) ∧ ∃ M_ : Nat → Int, inm (F_ : Int) M_ ∧ ((v_ = -2 ∧ 150 < (rtq (cpn ll_ S_) (cpv (F_ : Int) S_) (cgc ll_ S_) ((F_ : Int) - 1) (fun j_ => slv dd_ S_ (j_ : Int)) (o_ + r_).toNat (M_, [])).2.length) ∨ (v_ = 0 ∧ ∃ g9_ : List (Int × List Int), cgz cc_ S_ g9_ ∧ (S_.2.2.1 72 0, g9_) = rtq (cpn ll_ S_) (cpv (F_ : Int) S_) (cgc ll_ S_) ((F_ : Int) - 1) (fun j_ => slv dd_ S_ (j_ : Int)) (o_ + r_).toNat (M_, []) ∧ ∀ j_ : Nat, j_ < (o_ + r_).toNat → (if (j_ : Int) < o_ then S_.2.2.1 37 (0 + cc_) j_ else S_.2.2.1 38 (0 + cc_) (j_ - (o_).toNat)) = ntq (fun j_ => slv dd_ S_ (j_ : Int)) (S_.2.2.1 72 0) j_)))) (e3_ : S_.1 3 dd_ 3 = o_) (e2_ : S_.1 3 dd_ 2 = r_) : bpc dd_ F_ ll_ cc_ S_ v_ := by
  unfold bpc
  rw [e3_, e2_]
  exact h_
theorem bpc_fr {w_ : sx_Wl} {dd_ F_ ll_ cc_ : Nat} {S_ S'_ : sm_S} {v_ : Int} (hb_ : bcm dd_ F_ S_) (h_ : bpc dd_ F_ ll_ cc_ S_ v_) (g_ : ai_fr (sx_W w_) S_ S'_) (c55_ : ∀ k_, S_.2.2.1 55 (0 + ll_) k_ ≤ 3) (p32_ : (sx_W w_).1 3 2 = false := by rfl) (p33_ : (sx_W w_).1 3 3 = false := by rfl) (p34_ : (sx_W w_).1 3 4 = false := by rfl) (p51_ : (sx_W w_).1 5 1 = false := by rfl) (p52_ : (sx_W w_).1 5 2 = false := by rfl) (p28_ : (sx_W w_).1 2 8 = false := by rfl) (a35_ : (sx_W w_).2.1 35 = false := by rfl) (a36_ : (sx_W w_).2.1 36 = false := by rfl) (a37_ : (sx_W w_).2.1 37 = false := by rfl) (a38_ : (sx_W w_).2.1 38 = false := by rfl) (a42_ : (sx_W w_).2.1 42 = false := by rfl) (a43_ : (sx_W w_).2.1 43 = false := by rfl) (a44_ : (sx_W w_).2.1 44 = false := by rfl) (a45_ : (sx_W w_).2.1 45 = false := by rfl) (a46_ : (sx_W w_).2.1 46 = false := by rfl) (a55_ : (sx_W w_).2.1 55 = false := by rfl) (a56_ : (sx_W w_).2.1 56 = false := by rfl) (a57_ : (sx_W w_).2.1 57 = false := by rfl) (a59_ : (sx_W w_).2.1 59 = false := by rfl) (a60_ : (sx_W w_).2.1 60 = false := by rfl) (a61_ : (sx_W w_).2.1 61 = false := by rfl) (a62_ : (sx_W w_).2.1 62 = false := by rfl) (a63_ : (sx_W w_).2.1 63 = false := by rfl) (a64_ : (sx_W w_).2.1 64 = false := by rfl) (a69_ : (sx_W w_).2.1 69 = false := by rfl) (a72_ : (sx_W w_).2.1 72 = false := by rfl) : bpc dd_ F_ ll_ cc_ S'_ v_ := by
  have B9_ := bcm_fr hb_ g_ p32_ p33_ p34_ a42_ a43_ a44_ a45_ a46_ a59_ a60_
  have e42_ : S'_.2.2.1 42 (0 + dd_) = S_.2.2.1 42 (0 + dd_) := fr_arr g_ a42_
  have e43_ : S'_.2.2.1 43 (0 + dd_) = S_.2.2.1 43 (0 + dd_) := fr_arr g_ a43_
  have e44_ : S'_.2.2.1 44 (0 + dd_) = S_.2.2.1 44 (0 + dd_) := fr_arr g_ a44_
  have e45_ : S'_.2.2.1 45 (0 + dd_) = S_.2.2.1 45 (0 + dd_) := fr_arr g_ a45_
  have e46_ : S'_.2.2.1 46 (0 + dd_) = S_.2.2.1 46 (0 + dd_) := fr_arr g_ a46_
  have e55_ : S'_.2.2.1 55 (0 + ll_) = S_.2.2.1 55 (0 + ll_) := fr_arr g_ a55_
  have e57_ : S'_.2.2.1 57 (0 + ll_) = S_.2.2.1 57 (0 + ll_) := fr_arr g_ a57_
  have e60_ : S'_.2.2.1 60 0 = S_.2.2.1 60 0 := fr_arr g_ a60_
  have e61_ : S'_.2.2.1 61 0 = S_.2.2.1 61 0 := fr_arr g_ a61_
  have e62_ : S'_.2.2.1 62 0 = S_.2.2.1 62 0 := fr_arr g_ a62_
  have e63_ : S'_.2.2.1 63 0 = S_.2.2.1 63 0 := fr_arr g_ a63_
  have e64_ : S'_.2.2.1 64 0 = S_.2.2.1 64 0 := fr_arr g_ a64_
  have e69_ : S'_.2.2.1 69 0 = S_.2.2.1 69 0 := fr_arr g_ a69_
  have e72_ : S'_.2.2.1 72 0 = S_.2.2.1 72 0 := fr_arr g_ a72_
  have e37_ : S'_.2.2.1 37 (0 + cc_) = S_.2.2.1 37 (0 + cc_) := fr_arr g_ a37_
  have e38_ : S'_.2.2.1 38 (0 + cc_) = S_.2.2.1 38 (0 + cc_) := fr_arr g_ a38_
  have f1_ : S'_.1 5 ll_ 1 = S_.1 5 ll_ 1 := g_.1 5 ll_ 1 p51_
  have f2_ : S'_.1 5 ll_ 2 = S_.1 5 ll_ 2 := g_.1 5 ll_ 2 p52_
  have d3_ : S'_.1 3 dd_ 3 = S_.1 3 dd_ 3 := g_.1 3 dd_ 3 p33_
  have d2_ : S'_.1 3 dd_ 2 = S_.1 3 dd_ 2 := g_.1 3 dd_ 2 p32_
  have AL_ : ball dd_ F_ ll_ S_ → ball dd_ F_ ll_ S'_ := fun q9_ => ball_cg hb_ q9_ B9_ e42_ e43_ e44_ e60_ e69_ e55_ e57_ f1_ f2_ e61_ e62_ e63_ e64_ c55_
  have SL_ : slv dd_ S'_ = slv dd_ S_ := by
    funext i_
    unfold slv rtv
    rw [d3_, e44_, e45_, e46_]
  have y1_ : cpn ll_ S'_ = cpn ll_ S_ := by
    funext u_
    unfold cpn
    rw [e62_, e55_]
  have y2_ : cgc ll_ S'_ = cgc ll_ S_ := by
    funext u_
    unfold cgc
    rw [e62_, f2_]
  have y3_ : cpv (F_ : Int) S'_ = cpv (F_ : Int) S_ := by
    funext u_ k_
    unfold cpv
    rw [e60_, e62_, e63_, e64_]
  unfold bpc at h_ ⊢
  rw [y1_, y2_, y3_, SL_, d3_, d2_, f2_, e72_, e37_, e38_, e60_, e61_]
  rcases h_ with ⟨h1_, h2_⟩ | ⟨h1_, h2_, h3_, M_, h4_, h5_⟩
  · refine Or.inl ⟨h1_, ?_⟩
    rcases h2_ with ⟨n_, k1_, k2_, k3_, k4_⟩ | ⟨k1_, k2_⟩
    · refine Or.inl ⟨n_, by rw [B9_.2.1]; exact k1_, k2_, k3_, fun x_ hx_ hl_ => ?_⟩
      rw [B9_.2.1] at hx_ ⊢
      exact cnw_cg (hb_.2.2 x_ hx_).1 (k4_ x_ hx_ hl_) e42_ e43_ e44_ e60_ e69_ e55_ e57_ f1_ f2_ (fun j_ _ => by rw [e61_]) (fun j_ _ _ => by rw [e62_, e63_]; exact ⟨rfl, rfl⟩) (fun j_ _ _ => by rw [e64_]) c55_
    · exact Or.inr ⟨AL_ k1_, k2_⟩
  · refine Or.inr ⟨h1_, AL_ h2_, h3_, M_, h4_, ?_⟩
    rcases h5_ with h5_ | ⟨h5_, g9_, h6_, h7_⟩
    · exact Or.inl h5_
    · exact Or.inr ⟨h5_, g9_, cgz_fr h6_ g_ p28_ a35_ a36_, h7_⟩
/-! a_ design mapped -/
def w87 : sx_Wl := ((2, 0) :: vw_169.1, vw_169.2.1, vw_169.2.2)
def oka_map (aa_ lb_ : Int) (S_ : sm_S) : Prop := (0 ≤ aa_ ∧ aa_ < 6 ∧ S_.1 3 aa_.toNat 0 = 1) ∧ (0 ≤ lb_ ∧ lb_ < 3 ∧ S_.1 5 lb_.toNat 0 = 1)
def fch (c_ : Nat) (S_ : sm_S) : Prop := c_ < 4 ∧ S_.1 2 c_ 0 = 0 ∧ ∀ j_ : Nat, j_ < c_ → S_.1 2 j_ 0 = 1
def mpc (dd_ F_ ll_ cc_ : Nat) (S0_ S1_ : sm_S) (v_ : Int) : Prop := ((F_ : Int) = 1 + S1_.1 3 dd_ 1 + S1_.1 3 dd_ 2 ∧ bcm dd_ F_ S1_ ∧ bvw ll_ S1_) ∧ cdf cc_ S0_ S1_ ∧ ∃ x_ : Int, bpc dd_ F_ ll_ cc_ S1_ x_ ∧ ((x_ ≠ 0 ∧ v_ = x_ ∧ S1_.1 2 cc_ 0 = 0) ∨ (x_ = 0 ∧ v_ = (cc_ : Int) ∧ S1_.1 2 cc_ 0 = 1 ∧ clc cc_ ll_ S1_ S1_ ∧ (S1_.1 2 cc_ 1 = S1_.1 3 dd_ 1 ∧ S1_.1 2 cc_ 2 = S1_.1 3 dd_ 2 ∧ S1_.1 2 cc_ 3 = S1_.1 3 dd_ 3 ∧ S1_.1 2 cc_ 4 = S1_.1 3 dd_ 5 ∧ S1_.1 2 cc_ 5 = S1_.1 3 dd_ 5)))

/-! ChipFlow.freeChip -/
def vw_275n : sx_Wl := ([], [], [])
def vq_275n  (S0_ : sm_S) (u_ : Option sm_V) (S1_ : sm_S) : Prop := S0_ = S1_ ∧ ∃ v_ : Int, u_ = some (.inl v_) ∧ ((v_ = -1 ∧ ∀ j_ : Nat, j_ < 4 → S1_.1 2 j_ 0 = 1) ∨ (∃ u_ : Nat, v_ = (u_ : Int) ∧ u_ < 4 ∧ S1_.1 2 u_ 0 = 0 ∧ ∀ j_ : Nat, j_ < u_ → S1_.1 2 j_ 0 = 1))
set_option maxHeartbeats 400000 in
theorem vl_275n {sc_ : Nat × (Nat → Int)}  (S0_ : sm_S)  : ∀ nn_ : Nat, (∀ (i_ : Int) (S_ : sm_S), gi S_ → ai_fr (sx_W vw_275n) S0_ S_ → ((0 ≤ i_ ∧ i_ ≤ 4) ∧ (∀ j_ : Nat, j_ < i_.toNat → S_.1 2 j_ 0 = 1) ∧ (S_ = S0_) ∧ True) → ((20 - i_).toNat) < nn_ → sm_T (mt_P sc_) 0 275 (2, [some (.inr (.inr (some (12, 0)))), some (.inl i_)], [], S_) (fun ro9_ => ∃ u_ S1_, ro9_ = (.inl u_, S1_, 0) ∧ vq_275n  S0_ u_ S1_)) := by
  intro nn_
  induction nn_ with
  | zero => exact fun _ _ _ _ _ h_ => absurd h_ (Nat.not_lt_zero _)
  | succ nn_ ih_ =>
    rintro i_ S_ hI_ hF_ ⟨h0_, h1_, hS_, -⟩ hm_
    refine sm_T_go 2 (c1 := (4, [some (.inr (.inr (some (12, 0)))), some (.inl i_)], [.inl 4, .inl i_], S_)) rfl ?_
    refine sm_T_br (a := 3) (z := 23) rfl (fun cx1_ => ?_) (fun cx1_ => ?_)
    · have cx1_ : 4 ≤ i_ := of_decide_eq_true cx1_
      refine sm_T_go 1 (c1 := (28, [some (.inr (.inr (some (12, 0)))), some (.inl i_)], [.inl (-1)], S_)) rfl ?_
      refine sm_T_ri rfl ⟨_, _, rfl, (by first | rfl | exact hS_.symm), _, rfl, ?_⟩
      left
      exact ⟨rfl, fun j_ hj_ => h1_ j_ (by omega)⟩
    · have cx1_ : ¬ (4 ≤ i_) := of_decide_eq_false cx1_
      refine sm_T_go 3 (c1 := (12, [some (.inr (.inr (some (12, 0)))), some (.inl i_)], [.inl i_, .inr (.inr (some (112, 0)))], S_)) rfl ?_
      refine sm_T_aald (t0 := 6) (n := 4) rfl rfl (by omega) (by omega) ?_
      have bx2_ : 0 ≤ S_.1 2 i_.toNat 0 ∧ S_.1 2 i_.toNat 0 ≤ 1 := hI_.1 2 i_.toNat 0 rfl
      refine sm_T_go 1 (c1 := (16, [some (.inr (.inr (some (12, 0)))), some (.inl i_)], [.inl (S_.1 2 i_.toNat 0)], S_)) rfl ?_
      refine sm_T_b0 (a := 1) (z := 5) rfl (fun cx3_ => ?_) (fun cx3_ => ?_)
      · have cx3_ : (S_.1 2 i_.toNat 0) ≠ 0 := of_decide_eq_true cx3_
        refine sm_T_inc (a := 1) (z := 1) (v := i_) (w := i_ + 1) rfl rfl (by omega) (by omega) (by omega) ?_ -- pc_ 21
        refine sm_T_go 1 (c1 := (2, [some (.inr (.inr (some (12, 0)))), some (.inl (i_ + 1))], [], S_)) rfl ?_
        refine ih_ (i_ + 1) S_ hI_ hF_ ⟨?_, ?_, ?_, trivial⟩ ?_
        · omega
        · intro j_ hj_
          by_cases z_ : j_ = i_.toNat
          · rw [z_]; omega
          · exact h1_ j_ (by omega)
        · first | rfl | exact hS_
        · omega
      · have cx3_ : ¬ ((S_.1 2 i_.toNat 0) ≠ 0) := of_decide_eq_false cx3_
        refine sm_T_go 1 (c1 := (20, [some (.inr (.inr (some (12, 0)))), some (.inl i_)], [.inl i_], S_)) rfl ?_
        refine sm_T_ri rfl ⟨_, _, rfl, (by first | rfl | exact hS_.symm), _, rfl, ?_⟩
        right
        exact ⟨i_.toNat, by omega, by omega, by omega, h1_⟩
set_option maxHeartbeats 400000 in
theorem vc_275n {sc_ : Nat × (Nat → Int)}  (S0_ : sm_S) (hI_ : gi S0_)  : sm_T (mt_P sc_) 0 275 (0, [some (.inr (.inr (some (12, 0)))), none], [], S0_) (fun ro9_ => ∃ u_ S1_, ro9_ = (.inl u_, S1_, 0) ∧ vq_275n  S0_ u_ S1_) := by
  have hF_ : ai_fr (sx_W vw_275n) S0_ S0_ := ai_fr_rf
  refine sm_T_go 2 (c1 := (2, [some (.inr (.inr (some (12, 0)))), some (.inl 0)], [], S0_)) rfl ?_
  refine (vl_275n S0_ _) 0 S0_ hI_ hF_ ⟨?_, ?_, ?_, trivial⟩ (Nat.lt_succ_self _)
  · omega
  · (intro j_ hj_; exact absurd hj_ (Nat.not_lt_zero _))
  · first | rfl | exact hS_
/-! ChipFlow.map -/
