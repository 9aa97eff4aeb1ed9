/-! 99.zs2 -/
section
/-! the reference: times and paths; written by wip/p55/gen/vg -/

/-! the_ reference: times and paths -/
/-- an_ entry of_ the_ tails of_ a_ net_ -/
def tne (N_ n_ nx_ pl_ : Int) (ct : Int → Int) : Prop := n_ < nx_ ∧ (10000 ≤ nx_ ∨ (nx_ < N_ ∧ pl_ < ct nx_))
def tok (N_ : Int) (S_ : sm_S) (e_ n_ : Int) : Prop := ∀ i_ : Int, 0 ≤ i_ → i_ < S_.2.2.1 275 0 (256 * e_ + n_).toNat → tne N_ n_ (S_.2.2.1 277 0 (10240 * e_ + 40 * n_ + i_).toNat) (S_.2.2.1 278 0 (10240 * e_ + 40 * n_ + i_).toNat) (fun x_ => S_.2.2.1 275 0 (256 * e_ + x_).toNat)
/-- only the_ tails of_ one_ net_ change -/
def tfr (ow_ : Int) (S_ S'_ : sm_S) : Prop := (∀ j_, j_ ≠ ow_.toNat → S'_.2.2.1 275 0 j_ = S_.2.2.1 275 0 j_) ∧ ∀ j_, (j_ < 40 * ow_.toNat ∨ 40 * ow_.toNat + 40 ≤ j_) → S'_.2.2.1 277 0 j_ = S_.2.2.1 277 0 j_ ∧ S'_.2.2.1 278 0 j_ = S_.2.2.1 278 0 j_
theorem tfr_rf {ow_ : Int} {S_ : sm_S} : tfr ow_ S_ S_ := ⟨fun _ _ => rfl, fun _ _ => ⟨rfl, rfl⟩⟩
theorem tfr_tr {ow_ : Int} {S_ S'_ S2_ : sm_S} (h_ : tfr ow_ S_ S'_) (g_ : tfr ow_ S'_ S2_) : tfr ow_ S_ S2_ := ⟨fun j_ hj_ => (g_.1 j_ hj_).trans (h_.1 j_ hj_), fun j_ hj_ => ⟨(g_.2 j_ hj_).1.trans (h_.2 j_ hj_).1, (g_.2 j_ hj_).2.trans (h_.2 j_ hj_).2⟩⟩
theorem tfr_fr {w_ : sx_Wl} {ow_ : Int} {S_ S'_ : sm_S} (g_ : ai_fr (sx_W w_) S_ S'_) (h1_ : (sx_W w_).2.1 275 = false := by rfl) (h2_ : (sx_W w_).2.1 277 = false := by rfl) (h3_ : (sx_W w_).2.1 278 = false := by rfl) : tfr ow_ S_ S'_ := ⟨fun j_ _ => congrFun (fr_arr g_ h1_) j_, fun j_ _ => ⟨congrFun (fr_arr g_ h2_) j_, congrFun (fr_arr g_ h3_) j_⟩⟩
theorem tok_tf {N_ ow_ e_ n_ : Int} {S_ S'_ : sm_S} (hI_ : gi S'_) (h_ : tok N_ S_ e_ n_) (g_ : tfr ow_ S_ S'_) (hN_ : N_ ≤ 168) (he_ : 0 ≤ e_) (hn_ : 0 ≤ n_ ∧ n_ < N_) (ho_ : 0 ≤ ow_) (d_ : ∀ x_ : Int, n_ ≤ x_ → x_ < N_ → 256 * e_ + x_ ≠ ow_) : tok N_ S'_ e_ n_ := by
  have d0_ := d_ n_ (by omega) hn_.2
  intro i_ i0_ i1_
  rw [g_.1 _ (by omega)] at i1_
  have q_ := h_ i_ i0_ i1_
  have cp_ : S'_.2.2.1 275 0 (256 * e_ + n_).toNat ≤ 40 := (hI_.2 275 0 _).2
  rw [g_.1 _ (by omega)] at cp_
  have z_ : i_ < 40 := by omega
  · have w_ := g_.2 (10240 * e_ + 40 * n_ + i_).toNat (by omega)
    rw [w_.1, w_.2]
    obtain ⟨q1_, q2_⟩ := q_
    refine ⟨q1_, ?_⟩
    rcases q2_ with q2_ | q2_
    · exact Or.inl q2_
    · right
      refine ⟨q2_.1, ?_⟩
      show _ < S'_.2.2.1 275 0 _
      rw [g_.1 _ (by have := d_ _ (Int.le_of_lt q1_) q2_.1; omega)]
      exact q2_.2
theorem tok_0 {N_ e_ n_ : Int} {S_ : sm_S} (h_ : S_.2.2.1 275 0 (256 * e_ + n_).toNat = 0) : tok N_ S_ e_ n_ := fun i_ a_ b_ => by
  rw [h_] at b_
  omega
theorem tok_fr {w_ : sx_Wl} {N_ e_ n_ : Int} {S_ S'_ : sm_S} (h_ : tok N_ S_ e_ n_) (g_ : ai_fr (sx_W w_) S_ S'_) (h1_ : (sx_W w_).2.1 275 = false := by rfl) (h2_ : (sx_W w_).2.1 277 = false := by rfl) (h3_ : (sx_W w_).2.1 278 = false := by rfl) : tok N_ S'_ e_ n_ := by
  unfold tok
  rw [fr_arr g_ h1_, fr_arr g_ h2_, fr_arr g_ h3_]
  exact h_
def tal (N_ E_ : Int) (S_ : sm_S) : Prop := ∀ e_ n_ : Int, 0 ≤ e_ → e_ < E_ → 0 ≤ n_ → n_ < N_ → tok N_ S_ e_ n_
theorem tal_fr {w_ : sx_Wl} {N_ E_ : Int} {S_ S'_ : sm_S} (h_ : tal N_ E_ S_) (g_ : ai_fr (sx_W w_) S_ S'_) (h1_ : (sx_W w_).2.1 275 = false := by rfl) (h2_ : (sx_W w_).2.1 277 = false := by rfl) (h3_ : (sx_W w_).2.1 278 = false := by rfl) : tal N_ E_ S'_ := fun e_ n_ a_ b_ c_ d_ => tok_fr (h_ e_ n_ a_ b_ c_ d_) g_ h1_ h2_ h3_
/-! M_.findTimes -/
def vw_495 : sx_Wl := ([(13, 159)], [243, 244, 245, 246, 247, 248, 249, 250, 270], [])
def vq_495 (c_ : Int) (S0_ : sm_S) (u_ : Option sm_V) (S1_ : sm_S) : Prop := u_ = none ∧ gi S1_ ∧ ai_fr (sx_W vw_495) S0_ S1_ ∧ (True)
set_option maxHeartbeats 400000 in
set_option maxRecDepth 20000 in
theorem vl_495 {sc_ : Nat × (Nat → Int)} (c_ : Int) (S0_ : sm_S) (hc_ : 0 ≤ c_ ∧ c_ ≤ 3) (hx_ : S0_.2.2.1 223 0 c_.toNat + S0_.2.2.1 224 0 c_.toNat ≤ 12) (hg_ : cgt c_ S0_) (ho_ : con c_ S0_) : ∀ nn_ : Nat, (∀ (fi_ : Int) (n_ : Int) (S_ : sm_S), gi S_ → ai_fr (sx_W vw_495) S0_ S_ → ((0 ≤ n_ ∧ n_ ≤ 168 ∧ fi_ = S0_.2.2.1 223 0 c_.toNat + S0_.2.2.1 224 0 c_.toNat) ∧ True) → ((5000 - n_).toNat) < nn_ → sm_T (mt_P sc_) 4 495 (21, [some (.inr (.inr (some (13, 0)))), some (.inl c_), some (.inl fi_), some (.inl n_), none], [], S_) (fun ro9_ => ∃ u_ S1_, ro9_ = (.inl u_, S1_, 0) ∧ vq_495 c_ S0_ u_ S1_)) := by
  intro nn_
  induction nn_ with
  | zero => exact fun _ _ _ _ _ _ h_ => absurd h_ (Nat.not_lt_zero _)
  | succ nn_ ih_ =>
    rintro fi_ n_ S_ hI_ hF_ ⟨h0_, -⟩ hm_
    have f223_ : S_.2.2.1 223 0 = S0_.2.2.1 223 0 := fr_arr hF_ rfl
    have f224_ : S_.2.2.1 224 0 = S0_.2.2.1 224 0 := fr_arr hF_ rfl
    have f225_ : S_.2.2.1 225 0 = S0_.2.2.1 225 0 := fr_arr hF_ rfl
    have f228_ : S_.2.2.1 228 0 = S0_.2.2.1 228 0 := fr_arr hF_ rfl
    have x223_ : S_.2.2.1 223 0 c_.toNat = S0_.2.2.1 223 0 c_.toNat := congrFun f223_ _
    have x224_ : S_.2.2.1 224 0 c_.toNat = S0_.2.2.1 224 0 c_.toNat := congrFun f224_ _
    have x225_ : S_.2.2.1 225 0 c_.toNat = S0_.2.2.1 225 0 c_.toNat := congrFun f225_ _
    have x228_ : S_.2.2.1 228 0 c_.toNat = S0_.2.2.1 228 0 c_.toNat := congrFun f228_ _
    have cA_ : 0 ≤ S_.2.2.1 223 0 c_.toNat ∧ S_.2.2.1 223 0 c_.toNat ≤ 12 := hI_.2 223 0 _
    have cB_ : 0 ≤ S_.2.2.1 224 0 c_.toNat ∧ S_.2.2.1 224 0 c_.toNat ≤ 6 := hI_.2 224 0 _
    have cG_ : 0 ≤ S_.2.2.1 228 0 c_.toNat ∧ S_.2.2.1 228 0 c_.toNat ≤ 150 := hI_.2 228 0 _
    have cO_ : 0 ≤ S_.2.2.1 225 0 c_.toNat ∧ S_.2.2.1 225 0 c_.toNat ≤ 16 := hI_.2 225 0 _
    refine sm_T_go 3 (c1 := (24, [some (.inr (.inr (some (13, 0)))), some (.inl c_), some (.inl fi_), some (.inl n_), none], [.inl c_, .inr (.inr (some (13, 0))), .inl n_], S_)) rfl ?_
    refine sm_T_cal (d1 := 0) (Q1 := vq_422 c_ S_) rfl rfl (by decide) (vc_422 c_ S_ hI_ (by omega)) (fun u_ Sx1_ px4_ => ?_)
    obtain ⟨rfl, vx6_, rfl, px4_⟩ := px4_
    refine sm_T_br (a := 3) (z := 88) rfl (fun cx7_ => ?_) (fun cx7_ => ?_)
    · have cx7_ : vx6_ ≤ n_ := of_decide_eq_true cx7_
      refine sm_T_rv rfl ⟨_, _, rfl, rfl, hI_, hF_, ?_⟩
      trivial
    · have cx7_ : ¬ (vx6_ ≤ n_) := of_decide_eq_false cx7_
      refine sm_T_go 3 (c1 := (35, [some (.inr (.inr (some (13, 0)))), some (.inl c_), some (.inl fi_), some (.inl n_), none], [.inl n_, .inr (.inr (some (246, 0)))], S_)) rfl ?_
      refine sm_T_iald (n := 256) rfl rfl (by omega) (by omega) ?_
      have bx8_ : 0 ≤ S_.2.2.1 246 0 n_.toNat ∧ S_.2.2.1 246 0 n_.toNat ≤ 700 := hI_.2 246 0 _
      refine sm_T_go 1 (c1 := (37, [some (.inr (.inr (some (13, 0)))), some (.inl c_), some (.inl fi_), some (.inl n_), none], [.inl 1, .inl (S_.2.2.1 246 0 n_.toNat)], S_)) rfl ?_
      refine sm_T_bin (w := (S_.2.2.1 246 0 n_.toNat) - 1) rfl (bi_sub (by omega) (by omega) (by omega)) ?_ -- pc_ 37
      refine sm_T_go 3 (c1 := (43, [some (.inr (.inr (some (13, 0)))), some (.inl c_), some (.inl fi_), some (.inl n_), none], [.inl c_, .inr (.inr (some (240, 0))), .inl ((S_.2.2.1 246 0 n_.toNat) - 1)], S_)) rfl ?_
      refine sm_T_iald (n := 4) rfl rfl (by omega) (by omega) ?_
      have bx9_ : 0 ≤ S_.2.2.1 240 0 c_.toNat ∧ S_.2.2.1 240 0 c_.toNat ≤ 12 := hI_.2 240 0 _
      refine sm_T_b0 (a := 5) (z := 13) rfl (fun cx10_ => ?_) (fun cx10_ => ?_)
      · have cx10_ : (S_.2.2.1 240 0 c_.toNat) ≤ 0 := of_decide_eq_true cx10_
        refine sm_T_go 1 (c1 := (58, [some (.inr (.inr (some (13, 0)))), some (.inl c_), some (.inl fi_), some (.inl n_), none], [.inl 0, .inl ((S_.2.2.1 246 0 n_.toNat) - 1)], S_)) rfl ?_
        refine sm_T_bin (w := (S_.2.2.1 246 0 n_.toNat) - 1) rfl (bi_add (by omega) (by omega) (by omega)) ?_ -- pc_ 58
        refine sm_T_go 8 (c1 := (72, [some (.inr (.inr (some (13, 0)))), some (.inl c_), some (.inl fi_), some (.inl n_), some (.inl ((S_.2.2.1 246 0 n_.toNat) - 1))], [.inl c_, .inr (.inr (some (223, 0))), .inl n_, .inl n_, .inr (.inr (some (270, 0)))], S_)) rfl ?_
        refine sm_T_iald (n := 4) rfl rfl (by omega) (by omega) ?_
        have bx11_ : 0 ≤ S_.2.2.1 223 0 c_.toNat ∧ S_.2.2.1 223 0 c_.toNat ≤ 12 := hI_.2 223 0 _
        refine sm_T_br (a := 3) (z := 7) rfl (fun cx12_ => ?_) (fun cx12_ => ?_)
        · have cx12_ : (S_.2.2.1 223 0 c_.toNat) ≤ n_ := of_decide_eq_true cx12_
          refine sm_T_go 2 (c1 := (82, [some (.inr (.inr (some (13, 0)))), some (.inl c_), some (.inl fi_), some (.inl n_), some (.inl ((S_.2.2.1 246 0 n_.toNat) - 1))], [.inl fi_, .inl n_, .inl n_, .inr (.inr (some (270, 0)))], S_)) rfl ?_
          refine sm_T_br (a := 3) (z := 10) rfl (fun cx13_ => ?_) (fun cx13_ => ?_)
          · have cx13_ : fi_ ≤ n_ := of_decide_eq_true cx13_
            refine sm_T_go 6 (c1 := (100, [some (.inr (.inr (some (13, 0)))), some (.inl c_), some (.inl fi_), some (.inl n_), some (.inl ((S_.2.2.1 246 0 n_.toNat) - 1))], [.inl fi_, .inl n_, .inl c_, .inr (.inr (some (13, 0))), .inr (.inr (some (237, 0))), .inl n_, .inr (.inr (some (270, 0)))], S_)) rfl ?_
            refine sm_T_bin (w := n_ - fi_) rfl (bi_sub (by omega) (by omega) (by omega)) ?_ -- pc_ 100
            refine sm_T_cal (d1 := 0) (Q1 := vq_421 c_ (n_ - fi_) S_) rfl rfl (by decide) (vc_421 c_ (n_ - fi_) S_ hI_ (by omega) (by omega)) (fun u_ Sx14_ px17_ => ?_)
            obtain ⟨rfl, vx19_, rfl, px17_⟩ := px17_
            refine sm_T_iald (n := 48) rfl rfl (by omega) (by omega) ?_
            have bx20_ : 0 ≤ S_.2.2.1 237 0 vx19_.toNat ∧ S_.2.2.1 237 0 vx19_.toNat ≤ 100 := hI_.2 237 0 _
            refine sm_T_go 1 (c1 := (107, [some (.inr (.inr (some (13, 0)))), some (.inl c_), some (.inl fi_), some (.inl n_), some (.inl ((S_.2.2.1 246 0 n_.toNat) - 1))], [.inl ((S_.2.2.1 246 0 n_.toNat) - 1), .inl (S_.2.2.1 237 0 vx19_.toNat), .inl n_, .inr (.inr (some (270, 0)))], S_)) rfl ?_
            refine sm_T_bin (w := (S_.2.2.1 237 0 vx19_.toNat) + (S_.2.2.1 246 0 n_.toNat) - 1) rfl (bi_add (by omega) (by omega) (by omega)) ?_ -- pc_ 107
            refine sm_T_iast (n := 256) rfl rfl (by omega) (by omega) ?_
            have hIx21_ : gi (sm_aI S_ 270 0 n_.toNat ((S_.2.2.1 237 0 vx19_.toNat) + (S_.2.2.1 246 0 n_.toNat) - 1)) := gi_aI hI_ (show (-2147483648) ≤ (S_.2.2.1 237 0 vx19_.toNat) + (S_.2.2.1 246 0 n_.toNat) - 1 ∧ (S_.2.2.1 237 0 vx19_.toNat) + (S_.2.2.1 246 0 n_.toNat) - 1 ≤ 2147483647 from ⟨by omega, by omega⟩)
            have hFx22_ : ai_fr (sx_W vw_495) S0_ (sm_aI S_ 270 0 n_.toNat ((S_.2.2.1 237 0 vx19_.toNat) + (S_.2.2.1 246 0 n_.toNat) - 1)) := ai_fr_tr hF_ (ai_fr_aI rfl)
            refine sm_T_inc (a := 3) (z := 1) (v := n_) (w := n_ + 1) rfl rfl (by omega) (by omega) (by omega) ?_ -- pc_ 109
            refine sm_T_go 1 (c1 := (21, [some (.inr (.inr (some (13, 0)))), some (.inl c_), some (.inl fi_), some (.inl (n_ + 1)), some (.inl ((S_.2.2.1 246 0 n_.toNat) - 1))], [], sm_aI S_ 270 0 n_.toNat ((S_.2.2.1 237 0 vx19_.toNat) + (S_.2.2.1 246 0 n_.toNat) - 1))) rfl ?_
            refine sm_T_wk [some (.inr (.inr (some (13, 0)))), some (.inl c_), some (.inl fi_), some (.inl (n_ + 1)), none] (by exact ⟨rfl, rfl, rfl, rfl, trivial⟩) ?_
            refine ih_ fi_ (n_ + 1) (sm_aI S_ 270 0 n_.toNat ((S_.2.2.1 237 0 vx19_.toNat) + (S_.2.2.1 246 0 n_.toNat) - 1)) hIx21_ hFx22_ ⟨?_, trivial⟩ ?_
            · omega
            · omega
          · have cx13_ : ¬ (fi_ ≤ n_) := of_decide_eq_false cx13_
            refine sm_T_go 2 (c1 := (88, [some (.inr (.inr (some (13, 0)))), some (.inl c_), some (.inl fi_), some (.inl n_), some (.inl ((S_.2.2.1 246 0 n_.toNat) - 1))], [.inl ((S_.2.2.1 246 0 n_.toNat) - 1), .inl 3, .inl n_, .inr (.inr (some (270, 0)))], S_)) rfl ?_
            refine sm_T_bin (w := (S_.2.2.1 246 0 n_.toNat) + 2) rfl (bi_add (by omega) (by omega) (by omega)) ?_ -- pc_ 88
            refine sm_T_go 1 (c1 := (108, [some (.inr (.inr (some (13, 0)))), some (.inl c_), some (.inl fi_), some (.inl n_), some (.inl ((S_.2.2.1 246 0 n_.toNat) - 1))], [.inl ((S_.2.2.1 246 0 n_.toNat) + 2), .inl n_, .inr (.inr (some (270, 0)))], S_)) rfl ?_
            refine sm_T_iast (n := 256) rfl rfl (by omega) (by omega) ?_
            have hIx23_ : gi (sm_aI S_ 270 0 n_.toNat ((S_.2.2.1 246 0 n_.toNat) + 2)) := gi_aI hI_ (show (-2147483648) ≤ (S_.2.2.1 246 0 n_.toNat) + 2 ∧ (S_.2.2.1 246 0 n_.toNat) + 2 ≤ 2147483647 from ⟨by omega, by omega⟩)
            have hFx24_ : ai_fr (sx_W vw_495) S0_ (sm_aI S_ 270 0 n_.toNat ((S_.2.2.1 246 0 n_.toNat) + 2)) := ai_fr_tr hF_ (ai_fr_aI rfl)
            refine sm_T_inc (a := 3) (z := 1) (v := n_) (w := n_ + 1) rfl rfl (by omega) (by omega) (by omega) ?_ -- pc_ 109
            refine sm_T_go 1 (c1 := (21, [some (.inr (.inr (some (13, 0)))), some (.inl c_), some (.inl fi_), some (.inl (n_ + 1)), some (.inl ((S_.2.2.1 246 0 n_.toNat) - 1))], [], sm_aI S_ 270 0 n_.toNat ((S_.2.2.1 246 0 n_.toNat) + 2))) rfl ?_
            refine sm_T_wk [some (.inr (.inr (some (13, 0)))), some (.inl c_), some (.inl fi_), some (.inl (n_ + 1)), none] (by exact ⟨rfl, rfl, rfl, rfl, trivial⟩) ?_
            refine ih_ fi_ (n_ + 1) (sm_aI S_ 270 0 n_.toNat ((S_.2.2.1 246 0 n_.toNat) + 2)) hIx23_ hFx24_ ⟨?_, trivial⟩ ?_
            · omega
            · omega
        · have cx12_ : ¬ ((S_.2.2.1 223 0 c_.toNat) ≤ n_) := of_decide_eq_false cx12_
          refine sm_T_go 2 (c1 := (108, [some (.inr (.inr (some (13, 0)))), some (.inl c_), some (.inl fi_), some (.inl n_), some (.inl ((S_.2.2.1 246 0 n_.toNat) - 1))], [.inl 0, .inl n_, .inr (.inr (some (270, 0)))], S_)) rfl ?_
          refine sm_T_iast (n := 256) rfl rfl (by omega) (by omega) ?_
          have hIx25_ : gi (sm_aI S_ 270 0 n_.toNat 0) := gi_aI hI_ (show (-2147483648) ≤ 0 ∧ 0 ≤ 2147483647 from ⟨by omega, by omega⟩)
          have hFx26_ : ai_fr (sx_W vw_495) S0_ (sm_aI S_ 270 0 n_.toNat 0) := ai_fr_tr hF_ (ai_fr_aI rfl)
          refine sm_T_inc (a := 3) (z := 1) (v := n_) (w := n_ + 1) rfl rfl (by omega) (by omega) (by omega) ?_ -- pc_ 109
          refine sm_T_go 1 (c1 := (21, [some (.inr (.inr (some (13, 0)))), some (.inl c_), some (.inl fi_), some (.inl (n_ + 1)), some (.inl ((S_.2.2.1 246 0 n_.toNat) - 1))], [], sm_aI S_ 270 0 n_.toNat 0)) rfl ?_
          refine sm_T_wk [some (.inr (.inr (some (13, 0)))), some (.inl c_), some (.inl fi_), some (.inl (n_ + 1)), none] (by exact ⟨rfl, rfl, rfl, rfl, trivial⟩) ?_
          refine ih_ fi_ (n_ + 1) (sm_aI S_ 270 0 n_.toNat 0) hIx25_ hFx26_ ⟨?_, trivial⟩ ?_
          · omega
          · omega
      · have cx10_ : ¬ ((S_.2.2.1 240 0 c_.toNat) ≤ 0) := of_decide_eq_false cx10_
        refine sm_T_go 2 (c1 := (49, [some (.inr (.inr (some (13, 0)))), some (.inl c_), some (.inl fi_), some (.inl n_), none], [.inl n_, .inr (.inr (some (13, 0))), .inl ((S_.2.2.1 246 0 n_.toNat) - 1)], S_)) rfl ?_
        refine sm_T_cal (d1 := 0) (Q1 := vq_441 n_ S_) rfl rfl (by decide) (vc_441 n_ S_ hI_ (by omega)) (fun u_ Sx27_ px30_ => ?_)
        obtain ⟨rfl, vx32_, rfl, px30_⟩ := px30_
        refine sm_T_go 1 (c1 := (53, [some (.inr (.inr (some (13, 0)))), some (.inl c_), some (.inl fi_), some (.inl n_), none], [.inl 4, .inl vx32_, .inl ((S_.2.2.1 246 0 n_.toNat) - 1)], S_)) rfl ?_
        refine sm_T_bin (w := (Int.tdiv vx32_ 4)) rfl (bi_dvt (by omega) (by omega)) ?_ -- pc_ 53
        have bx33_ := tdv_b (x_ := vx32_) (y_ := 4) (M_ := 20000) (by omega) (by omega)
        refine sm_T_go 1 (c1 := (58, [some (.inr (.inr (some (13, 0)))), some (.inl c_), some (.inl fi_), some (.inl n_), none], [.inl (Int.tdiv vx32_ 4), .inl ((S_.2.2.1 246 0 n_.toNat) - 1)], S_)) rfl ?_
        refine sm_T_bin (w := (S_.2.2.1 246 0 n_.toNat) + (Int.tdiv vx32_ 4) - 1) rfl (bi_add (by omega) (by omega) (by omega)) ?_ -- pc_ 58
        refine sm_T_go 8 (c1 := (72, [some (.inr (.inr (some (13, 0)))), some (.inl c_), some (.inl fi_), some (.inl n_), some (.inl ((S_.2.2.1 246 0 n_.toNat) + (Int.tdiv vx32_ 4) - 1))], [.inl c_, .inr (.inr (some (223, 0))), .inl n_, .inl n_, .inr (.inr (some (270, 0)))], S_)) rfl ?_
        refine sm_T_iald (n := 4) rfl rfl (by omega) (by omega) ?_
        have bx34_ : 0 ≤ S_.2.2.1 223 0 c_.toNat ∧ S_.2.2.1 223 0 c_.toNat ≤ 12 := hI_.2 223 0 _
        refine sm_T_br (a := 3) (z := 7) rfl (fun cx35_ => ?_) (fun cx35_ => ?_)
        · have cx35_ : (S_.2.2.1 223 0 c_.toNat) ≤ n_ := of_decide_eq_true cx35_
          refine sm_T_go 2 (c1 := (82, [some (.inr (.inr (some (13, 0)))), some (.inl c_), some (.inl fi_), some (.inl n_), some (.inl ((S_.2.2.1 246 0 n_.toNat) + (Int.tdiv vx32_ 4) - 1))], [.inl fi_, .inl n_, .inl n_, .inr (.inr (some (270, 0)))], S_)) rfl ?_
          refine sm_T_br (a := 3) (z := 10) rfl (fun cx36_ => ?_) (fun cx36_ => ?_)
          · have cx36_ : fi_ ≤ n_ := of_decide_eq_true cx36_
            refine sm_T_go 6 (c1 := (100, [some (.inr (.inr (some (13, 0)))), some (.inl c_), some (.inl fi_), some (.inl n_), some (.inl ((S_.2.2.1 246 0 n_.toNat) + (Int.tdiv vx32_ 4) - 1))], [.inl fi_, .inl n_, .inl c_, .inr (.inr (some (13, 0))), .inr (.inr (some (237, 0))), .inl n_, .inr (.inr (some (270, 0)))], S_)) rfl ?_
            refine sm_T_bin (w := n_ - fi_) rfl (bi_sub (by omega) (by omega) (by omega)) ?_ -- pc_ 100
            refine sm_T_cal (d1 := 0) (Q1 := vq_421 c_ (n_ - fi_) S_) rfl rfl (by decide) (vc_421 c_ (n_ - fi_) S_ hI_ (by omega) (by omega)) (fun u_ Sx37_ px40_ => ?_)
            obtain ⟨rfl, vx42_, rfl, px40_⟩ := px40_
            refine sm_T_iald (n := 48) rfl rfl (by omega) (by omega) ?_
            have bx43_ : 0 ≤ S_.2.2.1 237 0 vx42_.toNat ∧ S_.2.2.1 237 0 vx42_.toNat ≤ 100 := hI_.2 237 0 _
            refine sm_T_go 1 (c1 := (107, [some (.inr (.inr (some (13, 0)))), some (.inl c_), some (.inl fi_), some (.inl n_), some (.inl ((S_.2.2.1 246 0 n_.toNat) + (Int.tdiv vx32_ 4) - 1))], [.inl ((S_.2.2.1 246 0 n_.toNat) + (Int.tdiv vx32_ 4) - 1), .inl (S_.2.2.1 237 0 vx42_.toNat), .inl n_, .inr (.inr (some (270, 0)))], S_)) rfl ?_
            refine sm_T_bin (w := (S_.2.2.1 237 0 vx42_.toNat) + (S_.2.2.1 246 0 n_.toNat) + (Int.tdiv vx32_ 4) - 1) rfl (bi_add (by omega) (by omega) (by omega)) ?_ -- pc_ 107
            refine sm_T_iast (n := 256) rfl rfl (by omega) (by omega) ?_
            have hIx44_ : gi (sm_aI S_ 270 0 n_.toNat ((S_.2.2.1 237 0 vx42_.toNat) + (S_.2.2.1 246 0 n_.toNat) + (Int.tdiv vx32_ 4) - 1)) := gi_aI hI_ (show (-2147483648) ≤ (S_.2.2.1 237 0 vx42_.toNat) + (S_.2.2.1 246 0 n_.toNat) + (Int.tdiv vx32_ 4) - 1 ∧ (S_.2.2.1 237 0 vx42_.toNat) + (S_.2.2.1 246 0 n_.toNat) + (Int.tdiv vx32_ 4) - 1 ≤ 2147483647 from ⟨by omega, by omega⟩)
            have hFx45_ : ai_fr (sx_W vw_495) S0_ (sm_aI S_ 270 0 n_.toNat ((S_.2.2.1 237 0 vx42_.toNat) + (S_.2.2.1 246 0 n_.toNat) + (Int.tdiv vx32_ 4) - 1)) := ai_fr_tr hF_ (ai_fr_aI rfl)
            refine sm_T_inc (a := 3) (z := 1) (v := n_) (w := n_ + 1) rfl rfl (by omega) (by omega) (by omega) ?_ -- pc_ 109
            refine sm_T_go 1 (c1 := (21, [some (.inr (.inr (some (13, 0)))), some (.inl c_), some (.inl fi_), some (.inl (n_ + 1)), some (.inl ((S_.2.2.1 246 0 n_.toNat) + (Int.tdiv vx32_ 4) - 1))], [], sm_aI S_ 270 0 n_.toNat ((S_.2.2.1 237 0 vx42_.toNat) + (S_.2.2.1 246 0 n_.toNat) + (Int.tdiv vx32_ 4) - 1))) rfl ?_
            refine sm_T_wk [some (.inr (.inr (some (13, 0)))), some (.inl c_), some (.inl fi_), some (.inl (n_ + 1)), none] (by exact ⟨rfl, rfl, rfl, rfl, trivial⟩) ?_
            refine ih_ fi_ (n_ + 1) (sm_aI S_ 270 0 n_.toNat ((S_.2.2.1 237 0 vx42_.toNat) + (S_.2.2.1 246 0 n_.toNat) + (Int.tdiv vx32_ 4) - 1)) hIx44_ hFx45_ ⟨?_, trivial⟩ ?_
            · omega
            · omega
          · have cx36_ : ¬ (fi_ ≤ n_) := of_decide_eq_false cx36_
            refine sm_T_go 2 (c1 := (88, [some (.inr (.inr (some (13, 0)))), some (.inl c_), some (.inl fi_), some (.inl n_), some (.inl ((S_.2.2.1 246 0 n_.toNat) + (Int.tdiv vx32_ 4) - 1))], [.inl ((S_.2.2.1 246 0 n_.toNat) + (Int.tdiv vx32_ 4) - 1), .inl 3, .inl n_, .inr (.inr (some (270, 0)))], S_)) rfl ?_
            refine sm_T_bin (w := (S_.2.2.1 246 0 n_.toNat) + (Int.tdiv vx32_ 4) + 2) rfl (bi_add (by omega) (by omega) (by omega)) ?_ -- pc_ 88
            refine sm_T_go 1 (c1 := (108, [some (.inr (.inr (some (13, 0)))), some (.inl c_), some (.inl fi_), some (.inl n_), some (.inl ((S_.2.2.1 246 0 n_.toNat) + (Int.tdiv vx32_ 4) - 1))], [.inl ((S_.2.2.1 246 0 n_.toNat) + (Int.tdiv vx32_ 4) + 2), .inl n_, .inr (.inr (some (270, 0)))], S_)) rfl ?_
            refine sm_T_iast (n := 256) rfl rfl (by omega) (by omega) ?_
            have hIx46_ : gi (sm_aI S_ 270 0 n_.toNat ((S_.2.2.1 246 0 n_.toNat) + (Int.tdiv vx32_ 4) + 2)) := gi_aI hI_ (show (-2147483648) ≤ (S_.2.2.1 246 0 n_.toNat) + (Int.tdiv vx32_ 4) + 2 ∧ (S_.2.2.1 246 0 n_.toNat) + (Int.tdiv vx32_ 4) + 2 ≤ 2147483647 from ⟨by omega, by omega⟩)
            have hFx47_ : ai_fr (sx_W vw_495) S0_ (sm_aI S_ 270 0 n_.toNat ((S_.2.2.1 246 0 n_.toNat) + (Int.tdiv vx32_ 4) + 2)) := ai_fr_tr hF_ (ai_fr_aI rfl)
            refine sm_T_inc (a := 3) (z := 1) (v := n_) (w := n_ + 1) rfl rfl (by omega) (by omega) (by omega) ?_ -- pc_ 109
            refine sm_T_go 1 (c1 := (21, [some (.inr (.inr (some (13, 0)))), some (.inl c_), some (.inl fi_), some (.inl (n_ + 1)), some (.inl ((S_.2.2.1 246 0 n_.toNat) + (Int.tdiv vx32_ 4) - 1))], [], sm_aI S_ 270 0 n_.toNat ((S_.2.2.1 246 0 n_.toNat) + (Int.tdiv vx32_ 4) + 2))) rfl ?_
            refine sm_T_wk [some (.inr (.inr (some (13, 0)))), some (.inl c_), some (.inl fi_), some (.inl (n_ + 1)), none] (by exact ⟨rfl, rfl, rfl, rfl, trivial⟩) ?_
            refine ih_ fi_ (n_ + 1) (sm_aI S_ 270 0 n_.toNat ((S_.2.2.1 246 0 n_.toNat) + (Int.tdiv vx32_ 4) + 2)) hIx46_ hFx47_ ⟨?_, trivial⟩ ?_
            · omega
            · omega
        · have cx35_ : ¬ ((S_.2.2.1 223 0 c_.toNat) ≤ n_) := of_decide_eq_false cx35_
          refine sm_T_go 2 (c1 := (108, [some (.inr (.inr (some (13, 0)))), some (.inl c_), some (.inl fi_), some (.inl n_), some (.inl ((S_.2.2.1 246 0 n_.toNat) + (Int.tdiv vx32_ 4) - 1))], [.inl 0, .inl n_, .inr (.inr (some (270, 0)))], S_)) rfl ?_
          refine sm_T_iast (n := 256) rfl rfl (by omega) (by omega) ?_
          have hIx48_ : gi (sm_aI S_ 270 0 n_.toNat 0) := gi_aI hI_ (show (-2147483648) ≤ 0 ∧ 0 ≤ 2147483647 from ⟨by omega, by omega⟩)
          have hFx49_ : ai_fr (sx_W vw_495) S0_ (sm_aI S_ 270 0 n_.toNat 0) := ai_fr_tr hF_ (ai_fr_aI rfl)
          refine sm_T_inc (a := 3) (z := 1) (v := n_) (w := n_ + 1) rfl rfl (by omega) (by omega) (by omega) ?_ -- pc_ 109
          refine sm_T_go 1 (c1 := (21, [some (.inr (.inr (some (13, 0)))), some (.inl c_), some (.inl fi_), some (.inl (n_ + 1)), some (.inl ((S_.2.2.1 246 0 n_.toNat) + (Int.tdiv vx32_ 4) - 1))], [], sm_aI S_ 270 0 n_.toNat 0)) rfl ?_
          refine sm_T_wk [some (.inr (.inr (some (13, 0)))), some (.inl c_), some (.inl fi_), some (.inl (n_ + 1)), none] (by exact ⟨rfl, rfl, rfl, rfl, trivial⟩) ?_
          refine ih_ fi_ (n_ + 1) (sm_aI S_ 270 0 n_.toNat 0) hIx48_ hFx49_ ⟨?_, trivial⟩ ?_
          · omega
          · omega
set_option maxHeartbeats 400000 in
set_option maxRecDepth 20000 in
theorem vc_495 {sc_ : Nat × (Nat → Int)} (c_ : Int) (S0_ : sm_S) (hI_ : gi S0_) (hc_ : 0 ≤ c_ ∧ c_ ≤ 3) (hx_ : S0_.2.2.1 223 0 c_.toNat + S0_.2.2.1 224 0 c_.toNat ≤ 12) (hg_ : cgt c_ S0_) (ho_ : con c_ S0_) : sm_T (mt_P sc_) 4 495 (0, [some (.inr (.inr (some (13, 0)))), some (.inl c_), none, none, none], [], S0_) (fun ro9_ => ∃ u_ S1_, ro9_ = (.inl u_, S1_, 0) ∧ vq_495 c_ S0_ u_ S1_) := by
  have hF_ : ai_fr (sx_W vw_495) S0_ S0_ := ai_fr_rf
  refine sm_T_go 2 (c1 := (2, [some (.inr (.inr (some (13, 0)))), some (.inl c_), none, none, none], [.inl c_, .inr (.inr (some (13, 0)))], S0_)) rfl ?_
  refine sm_T_cal (d1 := 3) (Q1 := vq_440 c_ 300 300 S0_) rfl rfl (by decide) (vc_440 c_ 300 300 S0_ hI_ (by exact hc_) (by exact hx_) (by exact hg_) (by exact ho_) (by exact ple_any hI_)) (fun u_ Sx1_ px4_ => ?_)
  obtain ⟨rfl, hIx2_, hFx3_, px4_⟩ := px4_
  have hFx5_ : ai_fr (sx_W vw_495) S0_ Sx1_ := ai_fr_tr hF_ (fr_le hFx3_ rfl)
  have y223_ : Sx1_.2.2.1 223 0 c_.toNat = S0_.2.2.1 223 0 c_.toNat := congrFun (fr_arr hFx3_ rfl) _
  have y224_ : Sx1_.2.2.1 224 0 c_.toNat = S0_.2.2.1 224 0 c_.toNat := congrFun (fr_arr hFx3_ rfl) _
  refine sm_T_go 3 (c1 := (10, [some (.inr (.inr (some (13, 0)))), some (.inl c_), none, none, none], [.inl c_, .inr (.inr (some (223, 0)))], Sx1_)) rfl ?_
  refine sm_T_iald (n := 4) rfl rfl (by omega) (by omega) ?_
  have bx6_ : 0 ≤ Sx1_.2.2.1 223 0 c_.toNat ∧ Sx1_.2.2.1 223 0 c_.toNat ≤ 12 := hIx2_.2 223 0 _
  refine sm_T_go 3 (c1 := (16, [some (.inr (.inr (some (13, 0)))), some (.inl c_), none, none, none], [.inl c_, .inr (.inr (some (224, 0))), .inl (Sx1_.2.2.1 223 0 c_.toNat)], Sx1_)) rfl ?_
  refine sm_T_iald (n := 4) rfl rfl (by omega) (by omega) ?_
  have bx7_ : 0 ≤ Sx1_.2.2.1 224 0 c_.toNat ∧ Sx1_.2.2.1 224 0 c_.toNat ≤ 6 := hIx2_.2 224 0 _
  refine sm_T_bin (w := (Sx1_.2.2.1 223 0 c_.toNat) + (Sx1_.2.2.1 224 0 c_.toNat)) rfl (bi_add (by omega) (by omega) (by omega)) ?_ -- pc_ 17
  refine sm_T_go 3 (c1 := (21, [some (.inr (.inr (some (13, 0)))), some (.inl c_), some (.inl ((Sx1_.2.2.1 223 0 c_.toNat) + (Sx1_.2.2.1 224 0 c_.toNat))), some (.inl 0), none], [], Sx1_)) rfl ?_
  refine (vl_495 c_ S0_ hc_ hx_ hg_ ho_ _) ((Sx1_.2.2.1 223 0 c_.toNat) + (Sx1_.2.2.1 224 0 c_.toNat)) 0 Sx1_ hIx2_ hFx5_ ⟨?_, trivial⟩ (Nat.lt_succ_self _)
  · omega
/-! M_.findArrivals -/
def vw_496 : sx_Wl := ([(13, 159)], [243, 244, 245, 246, 247, 248, 249, 250, 270, 271], [])
def vq_496 (c_ : Int) (la_ : Int) (S0_ : sm_S) (u_ : Option sm_V) (S1_ : sm_S) : Prop := u_ = none ∧ gi S1_ ∧ ai_fr (sx_W vw_496) S0_ S1_ ∧ (True)
set_option maxHeartbeats 400000 in
set_option maxRecDepth 20000 in
theorem vl_496 {sc_ : Nat × (Nat → Int)} (c_ : Int) (la_ : Int) (S0_ : sm_S) (hc_ : 0 ≤ c_ ∧ c_ ≤ 3) (hx_ : S0_.2.2.1 223 0 c_.toNat + S0_.2.2.1 224 0 c_.toNat ≤ 12) (hg_ : cgt c_ S0_) (ho_ : con c_ S0_) : ∀ nn_ : Nat, (∀ (fi_ : Int) (n_ : Int) (S_ : sm_S), gi S_ → ai_fr (sx_W vw_496) S0_ S_ → ((0 ≤ n_ ∧ n_ ≤ 168 ∧ fi_ = S0_.2.2.1 223 0 c_.toNat + S0_.2.2.1 224 0 c_.toNat) ∧ True) → ((10 * (5000 - n_) + 9).toNat) < nn_ → sm_T (mt_P sc_) 5 496 (22, [some (.inr (.inr (some (13, 0)))), some (.inl c_), some (.inl la_), some (.inl fi_), some (.inl n_), none, none, none, none], [], S_) (fun ro9_ => ∃ u_ S1_, ro9_ = (.inl u_, S1_, 0) ∧ vq_496 c_ la_ S0_ u_ S1_)) ∧ (∀ (fi_ : Int) (n_ : Int) (g_ : Int) (be_ : Int) (k_ : Int) (S_ : sm_S), gi S_ → ai_fr (sx_W vw_496) S0_ S_ → ((0 ≤ n_ ∧ n_ < (S0_.2.2.1 223 0 c_.toNat + S0_.2.2.1 224 0 c_.toNat + S0_.2.2.1 228 0 c_.toNat) ∧ fi_ = S0_.2.2.1 223 0 c_.toNat + S0_.2.2.1 224 0 c_.toNat ∧ g_ = n_ - fi_ ∧ 0 ≤ k_ ∧ k_ ≤ 3 ∧ -2147483648 ≤ be_ ∧ be_ ≤ 2147483647) ∧ True) → ((10 * (5000 - n_) + 8 - k_).toNat) < nn_ → sm_T (mt_P sc_) 5 496 (44, [some (.inr (.inr (some (13, 0)))), some (.inl c_), some (.inl la_), some (.inl fi_), some (.inl n_), some (.inl g_), some (.inl be_), some (.inl k_), none], [], S_) (fun ro9_ => ∃ u_ S1_, ro9_ = (.inl u_, S1_, 0) ∧ vq_496 c_ la_ S0_ u_ S1_)) := by
  intro nn_
  induction nn_ with
  | zero => exact ⟨fun _ _ _ _ _ _ h_ => absurd h_ (Nat.not_lt_zero _), fun _ _ _ _ _ _ _ _ _ h_ => absurd h_ (Nat.not_lt_zero _)⟩
  | succ nn_ ih_ =>
    refine ⟨?_, ?_⟩
    · rintro fi_ n_ S_ hI_ hF_ ⟨h0_, -⟩ hm_
      have f223_ : S_.2.2.1 223 0 = S0_.2.2.1 223 0 := fr_arr hF_ rfl
      have f224_ : S_.2.2.1 224 0 = S0_.2.2.1 224 0 := fr_arr hF_ rfl
      have f225_ : S_.2.2.1 225 0 = S0_.2.2.1 225 0 := fr_arr hF_ rfl
      have f228_ : S_.2.2.1 228 0 = S0_.2.2.1 228 0 := fr_arr hF_ rfl
      have x223_ : S_.2.2.1 223 0 c_.toNat = S0_.2.2.1 223 0 c_.toNat := congrFun f223_ _
      have x224_ : S_.2.2.1 224 0 c_.toNat = S0_.2.2.1 224 0 c_.toNat := congrFun f224_ _
      have x225_ : S_.2.2.1 225 0 c_.toNat = S0_.2.2.1 225 0 c_.toNat := congrFun f225_ _
      have x228_ : S_.2.2.1 228 0 c_.toNat = S0_.2.2.1 228 0 c_.toNat := congrFun f228_ _
      have cA_ : 0 ≤ S_.2.2.1 223 0 c_.toNat ∧ S_.2.2.1 223 0 c_.toNat ≤ 12 := hI_.2 223 0 _
      have cB_ : 0 ≤ S_.2.2.1 224 0 c_.toNat ∧ S_.2.2.1 224 0 c_.toNat ≤ 6 := hI_.2 224 0 _
      have cG_ : 0 ≤ S_.2.2.1 228 0 c_.toNat ∧ S_.2.2.1 228 0 c_.toNat ≤ 150 := hI_.2 228 0 _
      have cO_ : 0 ≤ S_.2.2.1 225 0 c_.toNat ∧ S_.2.2.1 225 0 c_.toNat ≤ 16 := hI_.2 225 0 _
      refine sm_T_go 3 (c1 := (26, [some (.inr (.inr (some (13, 0)))), some (.inl c_), some (.inl la_), some (.inl fi_), some (.inl n_), none, none, none, none], [.inl c_, .inr (.inr (some (13, 0))), .inl n_], S_)) rfl ?_
      refine sm_T_cal (d1 := 0) (Q1 := vq_422 c_ S_) rfl rfl (by decide) (vc_422 c_ S_ hI_ (by omega)) (fun u_ Sx1_ px4_ => ?_)
      obtain ⟨rfl, vx6_, rfl, px4_⟩ := px4_
      refine sm_T_br (a := 3) (z := 138) rfl (fun cx7_ => ?_) (fun cx7_ => ?_)
      · have cx7_ : vx6_ ≤ n_ := of_decide_eq_true cx7_
        refine sm_T_rv rfl ⟨_, _, rfl, rfl, hI_, hF_, ?_⟩
        trivial
      · have cx7_ : ¬ (vx6_ ≤ n_) := of_decide_eq_false cx7_
        refine sm_T_go 2 (c1 := (35, [some (.inr (.inr (some (13, 0)))), some (.inl c_), some (.inl la_), some (.inl fi_), some (.inl n_), none, none, none, none], [.inl fi_, .inl n_], S_)) rfl ?_
        refine sm_T_bin (w := n_ - fi_) rfl (bi_sub (by omega) (by omega) (by omega)) ?_ -- pc_ 35
        refine sm_T_go 5 (c1 := (44, [some (.inr (.inr (some (13, 0)))), some (.inl c_), some (.inl la_), some (.inl fi_), some (.inl n_), some (.inl (n_ - fi_)), some (.inl (-1)), some (.inl 0), none], [], S_)) rfl ?_
        refine ih_.2 fi_ n_ (n_ - fi_) (-1) 0 S_ hI_ hF_ ⟨?_, trivial⟩ ?_
        · omega
        · omega
    · rintro fi_ n_ g_ be_ k_ S_ hI_ hF_ ⟨h0_, -⟩ hm_
      have f223_ : S_.2.2.1 223 0 = S0_.2.2.1 223 0 := fr_arr hF_ rfl
      have f224_ : S_.2.2.1 224 0 = S0_.2.2.1 224 0 := fr_arr hF_ rfl
      have f225_ : S_.2.2.1 225 0 = S0_.2.2.1 225 0 := fr_arr hF_ rfl
      have f228_ : S_.2.2.1 228 0 = S0_.2.2.1 228 0 := fr_arr hF_ rfl
      have x223_ : S_.2.2.1 223 0 c_.toNat = S0_.2.2.1 223 0 c_.toNat := congrFun f223_ _
      have x224_ : S_.2.2.1 224 0 c_.toNat = S0_.2.2.1 224 0 c_.toNat := congrFun f224_ _
      have x225_ : S_.2.2.1 225 0 c_.toNat = S0_.2.2.1 225 0 c_.toNat := congrFun f225_ _
      have x228_ : S_.2.2.1 228 0 c_.toNat = S0_.2.2.1 228 0 c_.toNat := congrFun f228_ _
      have cA_ : 0 ≤ S_.2.2.1 223 0 c_.toNat ∧ S_.2.2.1 223 0 c_.toNat ≤ 12 := hI_.2 223 0 _
      have cB_ : 0 ≤ S_.2.2.1 224 0 c_.toNat ∧ S_.2.2.1 224 0 c_.toNat ≤ 6 := hI_.2 224 0 _
      have cG_ : 0 ≤ S_.2.2.1 228 0 c_.toNat ∧ S_.2.2.1 228 0 c_.toNat ≤ 150 := hI_.2 228 0 _
      have cO_ : 0 ≤ S_.2.2.1 225 0 c_.toNat ∧ S_.2.2.1 225 0 c_.toNat ≤ 16 := hI_.2 225 0 _
      have hg9_ := cgt_fr hc_.1 hI_ hg_ hF_
      refine sm_T_go 2 (c1 := (47, [some (.inr (.inr (some (13, 0)))), some (.inl c_), some (.inl la_), some (.inl fi_), some (.inl n_), some (.inl g_), some (.inl be_), some (.inl k_), none], [.inl fi_, .inl n_], S_)) rfl ?_
      refine sm_T_br (a := 2) (z := 87) rfl (fun cx1_ => ?_) (fun cx1_ => ?_)
      · have cx1_ : n_ < fi_ := of_decide_eq_true cx1_
        refine sm_T_go 6 (c1 := (146, [some (.inr (.inr (some (13, 0)))), some (.inl c_), some (.inl la_), some (.inl fi_), some (.inl n_), some (.inl g_), some (.inl be_), some (.inl k_), none], [.inl n_, .inr (.inr (some (270, 0))), .inl n_, .inr (.inr (some (271, 0)))], S_)) rfl ?_
        refine sm_T_iald (n := 256) rfl rfl (by omega) (by omega) ?_
        have bx2_ : (-2147483648) ≤ S_.2.2.1 270 0 n_.toNat ∧ S_.2.2.1 270 0 n_.toNat ≤ 2147483647 := hI_.2 270 0 _
        refine sm_T_go 2 (c1 := (150, [some (.inr (.inr (some (13, 0)))), some (.inl c_), some (.inl la_), some (.inl fi_), some (.inl n_), some (.inl g_), some (.inl be_), some (.inl k_), none], [.inl fi_, .inl n_, .inl (S_.2.2.1 270 0 n_.toNat), .inl n_, .inr (.inr (some (271, 0)))], S_)) rfl ?_
        refine sm_T_br (a := 3) (z := 7) rfl (fun cx3_ => ?_) (fun cx3_ => ?_)
        · have cx3_ : fi_ ≤ n_ := of_decide_eq_true cx3_
          exfalso; omega
        · have cx3_ : ¬ (fi_ ≤ n_) := of_decide_eq_false cx3_
          refine sm_T_go 2 (c1 := (159, [some (.inr (.inr (some (13, 0)))), some (.inl c_), some (.inl la_), some (.inl fi_), some (.inl n_), some (.inl g_), some (.inl be_), some (.inl k_), none], [.inl 0, .inl (S_.2.2.1 270 0 n_.toNat), .inl n_, .inr (.inr (some (271, 0)))], S_)) rfl ?_
          refine sm_T_bin (w := (i_add (S_.2.2.1 270 0 n_.toNat) 0)) rfl rfl ?_ -- pc_ 159
          have bx4_ := i_add_r (S_.2.2.1 270 0 n_.toNat) 0
          refine sm_T_iast (n := 256) rfl rfl (by omega) (by omega) ?_
          have hIx5_ : gi (sm_aI S_ 271 0 n_.toNat (i_add (S_.2.2.1 270 0 n_.toNat) 0)) := gi_aI hI_ (show (-2147483648) ≤ (i_add (S_.2.2.1 270 0 n_.toNat) 0) ∧ (i_add (S_.2.2.1 270 0 n_.toNat) 0) ≤ 2147483647 from ⟨by omega, by omega⟩)
          have hFx6_ : ai_fr (sx_W vw_496) S0_ (sm_aI S_ 271 0 n_.toNat (i_add (S_.2.2.1 270 0 n_.toNat) 0)) := ai_fr_tr hF_ (ai_fr_aI rfl)
          refine sm_T_inc (a := 4) (z := 1) (v := n_) (w := n_ + 1) rfl rfl (by omega) (by omega) (by omega) ?_ -- pc_ 161
          refine sm_T_go 1 (c1 := (22, [some (.inr (.inr (some (13, 0)))), some (.inl c_), some (.inl la_), some (.inl fi_), some (.inl (n_ + 1)), some (.inl g_), some (.inl be_), some (.inl k_), none], [], sm_aI S_ 271 0 n_.toNat (i_add (S_.2.2.1 270 0 n_.toNat) 0))) rfl ?_
          refine sm_T_wk [some (.inr (.inr (some (13, 0)))), some (.inl c_), some (.inl la_), some (.inl fi_), some (.inl (n_ + 1)), none, none, none, none] (by exact ⟨rfl, rfl, rfl, rfl, rfl, trivial⟩) ?_
          refine ih_.1 fi_ (n_ + 1) (sm_aI S_ 271 0 n_.toNat (i_add (S_.2.2.1 270 0 n_.toNat) 0)) hIx5_ hFx6_ ⟨?_, trivial⟩ ?_
          · omega
          · omega
      · have cx1_ : ¬ (n_ < fi_) := of_decide_eq_false cx1_
        refine sm_T_go 6 (c1 := (60, [some (.inr (.inr (some (13, 0)))), some (.inl c_), some (.inl la_), some (.inl fi_), some (.inl n_), some (.inl g_), some (.inl be_), some (.inl k_), none], [.inl g_, .inl c_, .inr (.inr (some (13, 0))), .inr (.inr (some (234, 0))), .inl k_], S_)) rfl ?_
        refine sm_T_cal (d1 := 0) (Q1 := vq_421 c_ g_ S_) rfl rfl (by decide) (vc_421 c_ g_ S_ hI_ (by omega) (by omega)) (fun u_ Sx7_ px10_ => ?_)
        obtain ⟨rfl, vx12_, rfl, px10_⟩ := px10_
        have e60_ := px10_
        refine sm_T_iald (n := 48) rfl rfl (by omega) (by omega) ?_
        have bx13_ : 0 ≤ S_.2.2.1 234 0 vx12_.toNat ∧ S_.2.2.1 234 0 vx12_.toNat ≤ 3 := hI_.2 234 0 _
        refine sm_T_br (a := 3) (z := 70) rfl (fun cx14_ => ?_) (fun cx14_ => ?_)
        · have cx14_ : (S_.2.2.1 234 0 vx12_.toNat) ≤ k_ := of_decide_eq_true cx14_
          refine sm_T_go 6 (c1 := (146, [some (.inr (.inr (some (13, 0)))), some (.inl c_), some (.inl la_), some (.inl fi_), some (.inl n_), some (.inl g_), some (.inl be_), some (.inl k_), none], [.inl n_, .inr (.inr (some (270, 0))), .inl n_, .inr (.inr (some (271, 0)))], S_)) rfl ?_
          refine sm_T_iald (n := 256) rfl rfl (by omega) (by omega) ?_
          have bx15_ : (-2147483648) ≤ S_.2.2.1 270 0 n_.toNat ∧ S_.2.2.1 270 0 n_.toNat ≤ 2147483647 := hI_.2 270 0 _
          refine sm_T_go 2 (c1 := (150, [some (.inr (.inr (some (13, 0)))), some (.inl c_), some (.inl la_), some (.inl fi_), some (.inl n_), some (.inl g_), some (.inl be_), some (.inl k_), none], [.inl fi_, .inl n_, .inl (S_.2.2.1 270 0 n_.toNat), .inl n_, .inr (.inr (some (271, 0)))], S_)) rfl ?_
          refine sm_T_br (a := 3) (z := 7) rfl (fun cx16_ => ?_) (fun cx16_ => ?_)
          · have cx16_ : fi_ ≤ n_ := of_decide_eq_true cx16_
            refine sm_T_go 1 (c1 := (159, [some (.inr (.inr (some (13, 0)))), some (.inl c_), some (.inl la_), some (.inl fi_), some (.inl n_), some (.inl g_), some (.inl be_), some (.inl k_), none], [.inl be_, .inl (S_.2.2.1 270 0 n_.toNat), .inl n_, .inr (.inr (some (271, 0)))], S_)) rfl ?_
            refine sm_T_bin (w := (i_add (S_.2.2.1 270 0 n_.toNat) be_)) rfl rfl ?_ -- pc_ 159
            have bx17_ := i_add_r (S_.2.2.1 270 0 n_.toNat) be_
            refine sm_T_iast (n := 256) rfl rfl (by omega) (by omega) ?_
            have hIx18_ : gi (sm_aI S_ 271 0 n_.toNat (i_add (S_.2.2.1 270 0 n_.toNat) be_)) := gi_aI hI_ (show (-2147483648) ≤ (i_add (S_.2.2.1 270 0 n_.toNat) be_) ∧ (i_add (S_.2.2.1 270 0 n_.toNat) be_) ≤ 2147483647 from ⟨by omega, by omega⟩)
            have hFx19_ : ai_fr (sx_W vw_496) S0_ (sm_aI S_ 271 0 n_.toNat (i_add (S_.2.2.1 270 0 n_.toNat) be_)) := ai_fr_tr hF_ (ai_fr_aI rfl)
            refine sm_T_inc (a := 4) (z := 1) (v := n_) (w := n_ + 1) rfl rfl (by omega) (by omega) (by omega) ?_ -- pc_ 161
            refine sm_T_go 1 (c1 := (22, [some (.inr (.inr (some (13, 0)))), some (.inl c_), some (.inl la_), some (.inl fi_), some (.inl (n_ + 1)), some (.inl g_), some (.inl be_), some (.inl k_), none], [], sm_aI S_ 271 0 n_.toNat (i_add (S_.2.2.1 270 0 n_.toNat) be_))) rfl ?_
            refine sm_T_wk [some (.inr (.inr (some (13, 0)))), some (.inl c_), some (.inl la_), some (.inl fi_), some (.inl (n_ + 1)), none, none, none, none] (by exact ⟨rfl, rfl, rfl, rfl, rfl, trivial⟩) ?_
            refine ih_.1 fi_ (n_ + 1) (sm_aI S_ 271 0 n_.toNat (i_add (S_.2.2.1 270 0 n_.toNat) be_)) hIx18_ hFx19_ ⟨?_, trivial⟩ ?_
            · omega
            · omega
          · have cx16_ : ¬ (fi_ ≤ n_) := of_decide_eq_false cx16_
            exfalso; omega
        · have cx14_ : ¬ ((S_.2.2.1 234 0 vx12_.toNat) ≤ k_) := of_decide_eq_false cx14_
          have G9_ := hg9_ g_ (by omega) (by omega) k_ (by omega) (by omega) (Or.inr (by rw [← e60_.2]; omega))
          refine sm_T_go 7 (c1 := (80, [some (.inr (.inr (some (13, 0)))), some (.inl c_), some (.inl la_), some (.inl fi_), some (.inl n_), some (.inl g_), some (.inl be_), some (.inl k_), none], [.inl c_, .inl 150, .inl 3, .inr (.inr (some (230, 0))), .inr (.inr (some (271, 0)))], S_)) rfl ?_
          refine sm_T_bin (w := 150 * c_) rfl (bi_mul (by omega) (by omega) (by omega)) ?_ -- pc_ 80
          refine sm_T_go 1 (c1 := (83, [some (.inr (.inr (some (13, 0)))), some (.inl c_), some (.inl la_), some (.inl fi_), some (.inl n_), some (.inl g_), some (.inl be_), some (.inl k_), none], [.inl g_, .inl (150 * c_), .inl 3, .inr (.inr (some (230, 0))), .inr (.inr (some (271, 0)))], S_)) rfl ?_
          refine sm_T_bin (w := 150 * c_ + g_) rfl (bi_add (by omega) (by omega) (by omega)) ?_ -- pc_ 83
          refine sm_T_bin (w := 450 * c_ + 3 * g_) rfl (bi_mul (by omega) (by omega) (by omega)) ?_ -- pc_ 84
          refine sm_T_go 1 (c1 := (87, [some (.inr (.inr (some (13, 0)))), some (.inl c_), some (.inl la_), some (.inl fi_), some (.inl n_), some (.inl g_), some (.inl be_), some (.inl k_), none], [.inl k_, .inl (450 * c_ + 3 * g_), .inr (.inr (some (230, 0))), .inr (.inr (some (271, 0)))], S_)) rfl ?_
          refine sm_T_bin (w := 450 * c_ + 3 * g_ + k_) rfl (bi_add (by omega) (by omega) (by omega)) ?_ -- pc_ 87
          refine sm_T_iald (n := 1800) rfl rfl (by omega) (by omega) ?_
          have bx20_ : (-1) ≤ S_.2.2.1 230 0 (450 * c_ + 3 * g_ + k_).toNat ∧ S_.2.2.1 230 0 (450 * c_ + 3 * g_ + k_).toNat ≤ 161 := hI_.2 230 0 _
          refine sm_T_iald (n := 256) rfl rfl (by omega) (by omega) ?_
          have bx21_ : (-2147483648) ≤ S_.2.2.1 271 0 (S_.2.2.1 230 0 (450 * c_ + 3 * g_ + k_).toNat).toNat ∧ S_.2.2.1 271 0 (S_.2.2.1 230 0 (450 * c_ + 3 * g_ + k_).toNat).toNat ≤ 2147483647 := hI_.2 271 0 _
          refine sm_T_go 3 (c1 := (95, [some (.inr (.inr (some (13, 0)))), some (.inl c_), some (.inl la_), some (.inl fi_), some (.inl n_), some (.inl g_), some (.inl be_), some (.inl k_), some (.inl (S_.2.2.1 271 0 (S_.2.2.1 230 0 (450 * c_ + 3 * g_ + k_).toNat).toNat))], [.inl (-1), .inl be_], S_)) rfl ?_
          refine sm_T_br (a := 0) (z := 24) rfl (fun cx22_ => ?_) (fun cx22_ => ?_)
          · have cx22_ : be_ = (-1) := of_decide_eq_true cx22_
            refine sm_T_go 3 (c1 := (128, [some (.inr (.inr (some (13, 0)))), some (.inl c_), some (.inl la_), some (.inl fi_), some (.inl n_), some (.inl g_), some (.inl (S_.2.2.1 271 0 (S_.2.2.1 230 0 (450 * c_ + 3 * g_ + k_).toNat).toNat)), some (.inl k_), some (.inl (S_.2.2.1 271 0 (S_.2.2.1 230 0 (450 * c_ + 3 * g_ + k_).toNat).toNat))], [], S_)) rfl ?_
            refine sm_T_inc (a := 7) (z := 1) (v := k_) (w := k_ + 1) rfl rfl (by omega) (by omega) (by omega) ?_ -- pc_ 128
            refine sm_T_go 1 (c1 := (44, [some (.inr (.inr (some (13, 0)))), some (.inl c_), some (.inl la_), some (.inl fi_), some (.inl n_), some (.inl g_), some (.inl (S_.2.2.1 271 0 (S_.2.2.1 230 0 (450 * c_ + 3 * g_ + k_).toNat).toNat)), some (.inl (k_ + 1)), some (.inl (S_.2.2.1 271 0 (S_.2.2.1 230 0 (450 * c_ + 3 * g_ + k_).toNat).toNat))], [], S_)) rfl ?_
            refine sm_T_wk [some (.inr (.inr (some (13, 0)))), some (.inl c_), some (.inl la_), some (.inl fi_), some (.inl n_), some (.inl g_), some (.inl (S_.2.2.1 271 0 (S_.2.2.1 230 0 (450 * c_ + 3 * g_ + k_).toNat).toNat)), some (.inl (k_ + 1)), none] (by exact ⟨rfl, rfl, rfl, rfl, rfl, rfl, rfl, rfl, trivial⟩) ?_
            refine ih_.2 fi_ n_ g_ (S_.2.2.1 271 0 (S_.2.2.1 230 0 (450 * c_ + 3 * g_ + k_).toNat).toNat) (k_ + 1) S_ hI_ hF_ ⟨?_, trivial⟩ ?_
            · omega
            · omega
          · have cx22_ : ¬ (be_ = (-1)) := of_decide_eq_false cx22_
            refine sm_T_go 1 (c1 := (99, [some (.inr (.inr (some (13, 0)))), some (.inl c_), some (.inl la_), some (.inl fi_), some (.inl n_), some (.inl g_), some (.inl be_), some (.inl k_), some (.inl (S_.2.2.1 271 0 (S_.2.2.1 230 0 (450 * c_ + 3 * g_ + k_).toNat).toNat))], [.inl la_], S_)) rfl ?_
            refine sm_T_b0 (a := 0) (z := 13) rfl (fun cx23_ => ?_) (fun cx23_ => ?_)
            · have cx23_ : la_ = 0 := of_decide_eq_true cx23_
              refine sm_T_go 2 (c1 := (116, [some (.inr (.inr (some (13, 0)))), some (.inl c_), some (.inl la_), some (.inl fi_), some (.inl n_), some (.inl g_), some (.inl be_), some (.inl k_), some (.inl (S_.2.2.1 271 0 (S_.2.2.1 230 0 (450 * c_ + 3 * g_ + k_).toNat).toNat))], [.inl be_, .inl (S_.2.2.1 271 0 (S_.2.2.1 230 0 (450 * c_ + 3 * g_ + k_).toNat).toNat)], S_)) rfl ?_
              refine sm_T_br (a := 3) (z := 8) rfl (fun cx24_ => ?_) (fun cx24_ => ?_)
              · have cx24_ : be_ ≤ (S_.2.2.1 271 0 (S_.2.2.1 230 0 (450 * c_ + 3 * g_ + k_).toNat).toNat) := of_decide_eq_true cx24_
                refine sm_T_go 2 (c1 := (128, [some (.inr (.inr (some (13, 0)))), some (.inl c_), some (.inl la_), some (.inl fi_), some (.inl n_), some (.inl g_), some (.inl be_), some (.inl k_), some (.inl (S_.2.2.1 271 0 (S_.2.2.1 230 0 (450 * c_ + 3 * g_ + k_).toNat).toNat))], [], S_)) rfl ?_
                refine sm_T_inc (a := 7) (z := 1) (v := k_) (w := k_ + 1) rfl rfl (by omega) (by omega) (by omega) ?_ -- pc_ 128
                refine sm_T_go 1 (c1 := (44, [some (.inr (.inr (some (13, 0)))), some (.inl c_), some (.inl la_), some (.inl fi_), some (.inl n_), some (.inl g_), some (.inl be_), some (.inl (k_ + 1)), some (.inl (S_.2.2.1 271 0 (S_.2.2.1 230 0 (450 * c_ + 3 * g_ + k_).toNat).toNat))], [], S_)) rfl ?_
                refine sm_T_wk [some (.inr (.inr (some (13, 0)))), some (.inl c_), some (.inl la_), some (.inl fi_), some (.inl n_), some (.inl g_), some (.inl be_), some (.inl (k_ + 1)), none] (by exact ⟨rfl, rfl, rfl, rfl, rfl, rfl, rfl, rfl, trivial⟩) ?_
                refine ih_.2 fi_ n_ g_ be_ (k_ + 1) S_ hI_ hF_ ⟨?_, trivial⟩ ?_
                · omega
                · omega
              · have cx24_ : ¬ (be_ ≤ (S_.2.2.1 271 0 (S_.2.2.1 230 0 (450 * c_ + 3 * g_ + k_).toNat).toNat)) := of_decide_eq_false cx24_
                refine sm_T_go 3 (c1 := (128, [some (.inr (.inr (some (13, 0)))), some (.inl c_), some (.inl la_), some (.inl fi_), some (.inl n_), some (.inl g_), some (.inl (S_.2.2.1 271 0 (S_.2.2.1 230 0 (450 * c_ + 3 * g_ + k_).toNat).toNat)), some (.inl k_), some (.inl (S_.2.2.1 271 0 (S_.2.2.1 230 0 (450 * c_ + 3 * g_ + k_).toNat).toNat))], [], S_)) rfl ?_
                refine sm_T_inc (a := 7) (z := 1) (v := k_) (w := k_ + 1) rfl rfl (by omega) (by omega) (by omega) ?_ -- pc_ 128
                refine sm_T_go 1 (c1 := (44, [some (.inr (.inr (some (13, 0)))), some (.inl c_), some (.inl la_), some (.inl fi_), some (.inl n_), some (.inl g_), some (.inl (S_.2.2.1 271 0 (S_.2.2.1 230 0 (450 * c_ + 3 * g_ + k_).toNat).toNat)), some (.inl (k_ + 1)), some (.inl (S_.2.2.1 271 0 (S_.2.2.1 230 0 (450 * c_ + 3 * g_ + k_).toNat).toNat))], [], S_)) rfl ?_
                refine sm_T_wk [some (.inr (.inr (some (13, 0)))), some (.inl c_), some (.inl la_), some (.inl fi_), some (.inl n_), some (.inl g_), some (.inl (S_.2.2.1 271 0 (S_.2.2.1 230 0 (450 * c_ + 3 * g_ + k_).toNat).toNat)), some (.inl (k_ + 1)), none] (by exact ⟨rfl, rfl, rfl, rfl, rfl, rfl, rfl, rfl, trivial⟩) ?_
                refine ih_.2 fi_ n_ g_ (S_.2.2.1 271 0 (S_.2.2.1 230 0 (450 * c_ + 3 * g_ + k_).toNat).toNat) (k_ + 1) S_ hI_ hF_ ⟨?_, trivial⟩ ?_
                · omega
                · omega
            · have cx23_ : ¬ (la_ = 0) := of_decide_eq_false cx23_
              refine sm_T_go 2 (c1 := (106, [some (.inr (.inr (some (13, 0)))), some (.inl c_), some (.inl la_), some (.inl fi_), some (.inl n_), some (.inl g_), some (.inl be_), some (.inl k_), some (.inl (S_.2.2.1 271 0 (S_.2.2.1 230 0 (450 * c_ + 3 * g_ + k_).toNat).toNat))], [.inl be_, .inl (S_.2.2.1 271 0 (S_.2.2.1 230 0 (450 * c_ + 3 * g_ + k_).toNat).toNat)], S_)) rfl ?_
              refine sm_T_br (a := 5) (z := 18) rfl (fun cx25_ => ?_) (fun cx25_ => ?_)
              · have cx25_ : (S_.2.2.1 271 0 (S_.2.2.1 230 0 (450 * c_ + 3 * g_ + k_).toNat).toNat) ≤ be_ := of_decide_eq_true cx25_
                refine sm_T_go 2 (c1 := (128, [some (.inr (.inr (some (13, 0)))), some (.inl c_), some (.inl la_), some (.inl fi_), some (.inl n_), some (.inl g_), some (.inl be_), some (.inl k_), some (.inl (S_.2.2.1 271 0 (S_.2.2.1 230 0 (450 * c_ + 3 * g_ + k_).toNat).toNat))], [], S_)) rfl ?_
                refine sm_T_inc (a := 7) (z := 1) (v := k_) (w := k_ + 1) rfl rfl (by omega) (by omega) (by omega) ?_ -- pc_ 128
                refine sm_T_go 1 (c1 := (44, [some (.inr (.inr (some (13, 0)))), some (.inl c_), some (.inl la_), some (.inl fi_), some (.inl n_), some (.inl g_), some (.inl be_), some (.inl (k_ + 1)), some (.inl (S_.2.2.1 271 0 (S_.2.2.1 230 0 (450 * c_ + 3 * g_ + k_).toNat).toNat))], [], S_)) rfl ?_
                refine sm_T_wk [some (.inr (.inr (some (13, 0)))), some (.inl c_), some (.inl la_), some (.inl fi_), some (.inl n_), some (.inl g_), some (.inl be_), some (.inl (k_ + 1)), none] (by exact ⟨rfl, rfl, rfl, rfl, rfl, rfl, rfl, rfl, trivial⟩) ?_
                refine ih_.2 fi_ n_ g_ be_ (k_ + 1) S_ hI_ hF_ ⟨?_, trivial⟩ ?_
                · omega
                · omega
              · have cx25_ : ¬ ((S_.2.2.1 271 0 (S_.2.2.1 230 0 (450 * c_ + 3 * g_ + k_).toNat).toNat) ≤ be_) := of_decide_eq_false cx25_
                refine sm_T_go 4 (c1 := (128, [some (.inr (.inr (some (13, 0)))), some (.inl c_), some (.inl la_), some (.inl fi_), some (.inl n_), some (.inl g_), some (.inl (S_.2.2.1 271 0 (S_.2.2.1 230 0 (450 * c_ + 3 * g_ + k_).toNat).toNat)), some (.inl k_), some (.inl (S_.2.2.1 271 0 (S_.2.2.1 230 0 (450 * c_ + 3 * g_ + k_).toNat).toNat))], [], S_)) rfl ?_
                refine sm_T_inc (a := 7) (z := 1) (v := k_) (w := k_ + 1) rfl rfl (by omega) (by omega) (by omega) ?_ -- pc_ 128
                refine sm_T_go 1 (c1 := (44, [some (.inr (.inr (some (13, 0)))), some (.inl c_), some (.inl la_), some (.inl fi_), some (.inl n_), some (.inl g_), some (.inl (S_.2.2.1 271 0 (S_.2.2.1 230 0 (450 * c_ + 3 * g_ + k_).toNat).toNat)), some (.inl (k_ + 1)), some (.inl (S_.2.2.1 271 0 (S_.2.2.1 230 0 (450 * c_ + 3 * g_ + k_).toNat).toNat))], [], S_)) rfl ?_
                refine sm_T_wk [some (.inr (.inr (some (13, 0)))), some (.inl c_), some (.inl la_), some (.inl fi_), some (.inl n_), some (.inl g_), some (.inl (S_.2.2.1 271 0 (S_.2.2.1 230 0 (450 * c_ + 3 * g_ + k_).toNat).toNat)), some (.inl (k_ + 1)), none] (by exact ⟨rfl, rfl, rfl, rfl, rfl, rfl, rfl, rfl, trivial⟩) ?_
                refine ih_.2 fi_ n_ g_ (S_.2.2.1 271 0 (S_.2.2.1 230 0 (450 * c_ + 3 * g_ + k_).toNat).toNat) (k_ + 1) S_ hI_ hF_ ⟨?_, trivial⟩ ?_
                · omega
                · omega
set_option maxHeartbeats 400000 in
set_option maxRecDepth 20000 in
theorem vc_496 {sc_ : Nat × (Nat → Int)} (c_ : Int) (la_ : Int) (S0_ : sm_S) (hI_ : gi S0_) (hc_ : 0 ≤ c_ ∧ c_ ≤ 3) (hx_ : S0_.2.2.1 223 0 c_.toNat + S0_.2.2.1 224 0 c_.toNat ≤ 12) (hg_ : cgt c_ S0_) (ho_ : con c_ S0_) : sm_T (mt_P sc_) 5 496 (0, [some (.inr (.inr (some (13, 0)))), some (.inl c_), some (.inl la_), none, none, none, none, none, none], [], S0_) (fun ro9_ => ∃ u_ S1_, ro9_ = (.inl u_, S1_, 0) ∧ vq_496 c_ la_ S0_ u_ S1_) := by
  have hF_ : ai_fr (sx_W vw_496) S0_ S0_ := ai_fr_rf
  refine sm_T_go 2 (c1 := (2, [some (.inr (.inr (some (13, 0)))), some (.inl c_), some (.inl la_), none, none, none, none, none, none], [.inl c_, .inr (.inr (some (13, 0)))], S0_)) rfl ?_
  refine sm_T_cal (d1 := 4) (Q1 := vq_495 c_ S0_) rfl rfl (by decide) (vc_495 c_ S0_ hI_ (by exact hc_) (by exact hx_) (by exact hg_) (by exact ho_)) (fun u_ Sx1_ px4_ => ?_)
  obtain ⟨rfl, hIx2_, hFx3_, px4_⟩ := px4_
  have hFx5_ : ai_fr (sx_W vw_496) S0_ Sx1_ := ai_fr_tr hF_ (fr_le hFx3_ rfl)
  have y223_ : Sx1_.2.2.1 223 0 c_.toNat = S0_.2.2.1 223 0 c_.toNat := congrFun (fr_arr hFx3_ rfl) _
  have y224_ : Sx1_.2.2.1 224 0 c_.toNat = S0_.2.2.1 224 0 c_.toNat := congrFun (fr_arr hFx3_ rfl) _
  refine sm_T_go 3 (c1 := (10, [some (.inr (.inr (some (13, 0)))), some (.inl c_), some (.inl la_), none, none, none, none, none, none], [.inl c_, .inr (.inr (some (223, 0)))], Sx1_)) rfl ?_
  refine sm_T_iald (n := 4) rfl rfl (by omega) (by omega) ?_
  have bx6_ : 0 ≤ Sx1_.2.2.1 223 0 c_.toNat ∧ Sx1_.2.2.1 223 0 c_.toNat ≤ 12 := hIx2_.2 223 0 _
  refine sm_T_go 3 (c1 := (16, [some (.inr (.inr (some (13, 0)))), some (.inl c_), some (.inl la_), none, none, none, none, none, none], [.inl c_, .inr (.inr (some (224, 0))), .inl (Sx1_.2.2.1 223 0 c_.toNat)], Sx1_)) rfl ?_
  refine sm_T_iald (n := 4) rfl rfl (by omega) (by omega) ?_
  have bx7_ : 0 ≤ Sx1_.2.2.1 224 0 c_.toNat ∧ Sx1_.2.2.1 224 0 c_.toNat ≤ 6 := hIx2_.2 224 0 _
  refine sm_T_bin (w := (Sx1_.2.2.1 223 0 c_.toNat) + (Sx1_.2.2.1 224 0 c_.toNat)) rfl (bi_add (by omega) (by omega) (by omega)) ?_ -- pc_ 17
  refine sm_T_go 3 (c1 := (22, [some (.inr (.inr (some (13, 0)))), some (.inl c_), some (.inl la_), some (.inl ((Sx1_.2.2.1 223 0 c_.toNat) + (Sx1_.2.2.1 224 0 c_.toNat))), some (.inl 0), none, none, none, none], [], Sx1_)) rfl ?_
  refine (vl_496 c_ la_ S0_ hc_ hx_ hg_ ho_ _).1 ((Sx1_.2.2.1 223 0 c_.toNat) + (Sx1_.2.2.1 224 0 c_.toNat)) 0 Sx1_ hIx2_ hFx5_ ⟨?_, trivial⟩ (Nat.lt_succ_self _)
  · omega
/-! M_.arrival -/
def vw_497 : sx_Wl := ([(13, 0), (13, 159)], [243, 244, 245, 246, 247, 248, 249, 250, 270, 271], [])
def vq_497 (a1_ : Int) (a2_ : Int) (a3_ : Int) (S0_ : sm_S) (u_ : Option sm_V) (S1_ : sm_S) : Prop := ∃ v_ : Int, u_ = some (.inl v_) ∧ gi S1_ ∧ ai_fr (sx_W vw_497) S0_ S1_ ∧ (((-2147483648) ≤ v_ ∧ v_ ≤ 2147483647) ∧ (jR S1_))
set_option maxHeartbeats 400000 in
set_option maxRecDepth 20000 in
theorem vc_497 {sc_ : Nat × (Nat → Int)} (a1_ : Int) (a2_ : Int) (a3_ : Int) (S0_ : sm_S) (hI_ : gi S0_) (ha1_ : (-2147483648) ≤ a1_ ∧ a1_ ≤ 2147483647) (ha2_ : (-2147483648) ≤ a2_ ∧ a2_ ≤ 2147483647) (ha3_ : (-2147483648) ≤ a3_ ∧ a3_ ≤ 2147483647) (hJ_ : jR S0_) : sm_T (mt_P sc_) 6 497 (0, [some (.inr (.inr (some (13, 0)))), some (.inl a1_), some (.inl a2_), some (.inl a3_)], [], S0_) (fun ro9_ => ∃ u_ S1_, ro9_ = (.inl u_, S1_, 0) ∧ vq_497 a1_ a2_ a3_ S0_ u_ S1_) := by
  have hF_ : ai_fr (sx_W vw_497) S0_ S0_ := ai_fr_rf
  refine sm_T_go 4 (c1 := (4, [some (.inr (.inr (some (13, 0)))), some (.inl a1_), some (.inl a2_), some (.inl a3_)], [.inl a2_, .inl a1_, .inr (.inr (some (13, 0))), .inr (.inr (some (13, 0)))], S0_)) rfl ?_
  refine sm_T_cal (d1 := 1) (Q1 := vq_450 a1_ a2_ S0_) rfl rfl (by decide) (vc_450 a1_ a2_ S0_ hI_ (by omega) (by omega)) (fun u_ Sx1_ px4_ => ?_)
  obtain ⟨rfl, vx6_, rfl, px4_⟩ := px4_
  have e4_ := px4_
  refine sm_T_b0 (a := 0) (z := 7) rfl (fun cx7_ => ?_) (fun cx7_ => ?_)
  · have cx7_ : vx6_ = 0 := of_decide_eq_true cx7_
    have hIx8_ : gi (sm_pI S0_ 13 0 0 1) := gi_pI hI_ (show 0 ≤ 1 ∧ 1 ≤ 4 from ⟨by omega, by omega⟩)
    have hFx9_ : ai_fr (sx_W vw_497) S0_ (sm_pI S0_ 13 0 0 1) := ai_fr_tr hF_ (ai_fr_pI rfl)
    refine sm_T_go 6 (c1 := (26, [some (.inr (.inr (some (13, 0)))), some (.inl a1_), some (.inl a2_), some (.inl a3_)], [.inl 0], sm_pI S0_ 13 0 0 1)) rfl ?_
    refine sm_T_ri rfl ⟨_, _, rfl, _, rfl, hIx8_, hFx9_, ?_⟩
    refine ⟨⟨by omega, by omega⟩, jR_fr hJ_ hIx8_ hFx9_⟩
  · have cx7_ : ¬ (vx6_ = 0) := of_decide_eq_false cx7_
    have K9_ : cRk a1_ S0_ := hJ_.2 a1_ (by omega) (by omega) (by omega)
    obtain ⟨K1_, K2_, K3_, K4_, K5_, K6_, K7_⟩ := K9_
    have hIx10_ : gi (sm_pI S0_ 13 0 0 0) := gi_pI hI_ (show 0 ≤ 0 ∧ 0 ≤ 4 from ⟨by omega, by omega⟩)
    have hFx11_ : ai_fr (sx_W vw_497) S0_ (sm_pI S0_ 13 0 0 0) := ai_fr_tr hF_ (ai_fr_pI rfl)
    refine sm_T_go 9 (c1 := (30, [some (.inr (.inr (some (13, 0)))), some (.inl a1_), some (.inl a2_), some (.inl a3_)], [.inl a3_, .inl a1_, .inr (.inr (some (13, 0)))], sm_pI S0_ 13 0 0 0)) rfl ?_
    refine sm_T_cal (d1 := 5) (Q1 := vq_496 a1_ a3_ (sm_pI S0_ 13 0 0 0)) rfl rfl (by decide) (vc_496 a1_ a3_ (sm_pI S0_ 13 0 0 0) hIx10_ (by omega) (by exact K1_) (by exact K4_) (by exact K5_)) (fun u_ Sx12_ px15_ => ?_)
    obtain ⟨rfl, hIx13_, hFx14_, px15_⟩ := px15_
    have hFx16_ : ai_fr (sx_W vw_497) S0_ Sx12_ := ai_fr_tr hFx11_ (fr_le hFx14_ rfl)
    refine sm_T_go 3 (c1 := (38, [some (.inr (.inr (some (13, 0)))), some (.inl a1_), some (.inl a2_), some (.inl a3_)], [.inl a2_, .inr (.inr (some (271, 0)))], Sx12_)) rfl ?_
    refine sm_T_iald (n := 256) rfl rfl (by omega) (by omega) ?_
    have bx17_ : (-2147483648) ≤ Sx12_.2.2.1 271 0 a2_.toNat ∧ Sx12_.2.2.1 271 0 a2_.toNat ≤ 2147483647 := hIx13_.2 271 0 _
    refine sm_T_ri rfl ⟨_, _, rfl, _, rfl, hIx13_, hFx16_, ?_⟩
    refine ⟨⟨by omega, by omega⟩, jR_fr hJ_ hIx13_ hFx16_⟩
/-! M_.endNet -/
def vw_498 : sx_Wl := ([], [], [])
def vq_498 (c_ : Int) (e_ : Int) (S0_ : sm_S) (u_ : Option sm_V) (S1_ : sm_S) : Prop := S0_ = S1_ ∧ ∃ v_ : Int, u_ = some (.inl v_) ∧ ((v_ = -1 ∨ (0 ≤ e_ ∧ e_ < (S0_.2.2.1 225 0 c_.toNat + S0_.2.2.1 224 0 c_.toNat))) ∧ -2 ≤ v_ ∧ v_ < (S0_.2.2.1 223 0 c_.toNat + S0_.2.2.1 224 0 c_.toNat + S0_.2.2.1 228 0 c_.toNat) + 1)
set_option maxHeartbeats 400000 in
set_option maxRecDepth 20000 in
theorem vc_498 {sc_ : Nat × (Nat → Int)} (c_ : Int) (e_ : Int) (S0_ : sm_S) (hI_ : gi S0_) (hc_ : 0 ≤ c_ ∧ c_ ≤ 3) (ho_ : con c_ S0_) : sm_T (mt_P sc_) 0 498 (0, [some (.inr (.inr (some (13, 0)))), some (.inl c_), some (.inl e_)], [], S0_) (fun ro9_ => ∃ u_ S1_, ro9_ = (.inl u_, S1_, 0) ∧ vq_498 c_ e_ S0_ u_ S1_) := by
  have hF_ : ai_fr (sx_W vw_498) S0_ S0_ := ai_fr_rf
  have cA_ : 0 ≤ S0_.2.2.1 223 0 c_.toNat ∧ S0_.2.2.1 223 0 c_.toNat ≤ 12 := hI_.2 223 0 _
  have cG_ : 0 ≤ S0_.2.2.1 228 0 c_.toNat ∧ S0_.2.2.1 228 0 c_.toNat ≤ 150 := hI_.2 228 0 _
  have cB_ : 0 ≤ S0_.2.2.1 224 0 c_.toNat ∧ S0_.2.2.1 224 0 c_.toNat ≤ 6 := hI_.2 224 0 _
  have cO_ : 0 ≤ S0_.2.2.1 225 0 c_.toNat ∧ S0_.2.2.1 225 0 c_.toNat ≤ 16 := hI_.2 225 0 _
  refine sm_T_go 1 (c1 := (1, [some (.inr (.inr (some (13, 0)))), some (.inl c_), some (.inl e_)], [.inl e_], S0_)) rfl ?_
  refine sm_T_b0 (a := 2) (z := 20) rfl (fun cx1_ => ?_) (fun cx1_ => ?_)
  · have cx1_ : e_ < 0 := of_decide_eq_true cx1_
    refine sm_T_go 2 (c1 := (67, [some (.inr (.inr (some (13, 0)))), some (.inl c_), some (.inl e_)], [.inl (-1)], S0_)) rfl ?_
    refine sm_T_ri rfl ⟨_, _, rfl, rfl, _, rfl, ?_⟩
    omega
  · have cx1_ : ¬ (e_ < 0) := of_decide_eq_false cx1_
    refine sm_T_go 4 (c1 := (10, [some (.inr (.inr (some (13, 0)))), some (.inl c_), some (.inl e_)], [.inl c_, .inr (.inr (some (225, 0))), .inl e_], S0_)) rfl ?_
    refine sm_T_iald (n := 4) rfl rfl (by omega) (by omega) ?_
    have bx2_ : 0 ≤ S0_.2.2.1 225 0 c_.toNat ∧ S0_.2.2.1 225 0 c_.toNat ≤ 16 := hI_.2 225 0 _
    refine sm_T_go 3 (c1 := (16, [some (.inr (.inr (some (13, 0)))), some (.inl c_), some (.inl e_)], [.inl c_, .inr (.inr (some (224, 0))), .inl (S0_.2.2.1 225 0 c_.toNat), .inl e_], S0_)) rfl ?_
    refine sm_T_iald (n := 4) rfl rfl (by omega) (by omega) ?_
    have bx3_ : 0 ≤ S0_.2.2.1 224 0 c_.toNat ∧ S0_.2.2.1 224 0 c_.toNat ≤ 6 := hI_.2 224 0 _
    refine sm_T_bin (w := (S0_.2.2.1 225 0 c_.toNat) + (S0_.2.2.1 224 0 c_.toNat)) rfl (bi_add (by omega) (by omega) (by omega)) ?_ -- pc_ 17
    refine sm_T_br (a := 2) (z := 7) rfl (fun cx4_ => ?_) (fun cx4_ => ?_)
    · have cx4_ : e_ < (S0_.2.2.1 225 0 c_.toNat) + (S0_.2.2.1 224 0 c_.toNat) := of_decide_eq_true cx4_
      refine sm_T_go 4 (c1 := (31, [some (.inr (.inr (some (13, 0)))), some (.inl c_), some (.inl e_)], [.inl c_, .inr (.inr (some (225, 0))), .inl e_], S0_)) rfl ?_
      refine sm_T_iald (n := 4) rfl rfl (by omega) (by omega) ?_
      refine sm_T_br (a := 3) (z := 17) rfl (fun cx5_ => ?_) (fun cx5_ => ?_)
      · have cx5_ : (S0_.2.2.1 225 0 c_.toNat) ≤ e_ := of_decide_eq_true cx5_
        have o9_ := ho_.2 (e_ - S0_.2.2.1 225 0 c_.toNat) (by omega) (by omega)
        rw [show (6 * c_ + (e_ - S0_.2.2.1 225 0 c_.toNat)).toNat = (6 * c_ + e_ - S0_.2.2.1 225 0 c_.toNat).toNat by omega] at o9_
        refine sm_T_go 4 (c1 := (56, [some (.inr (.inr (some (13, 0)))), some (.inl c_), some (.inl e_)], [.inl c_, .inl 6, .inr (.inr (some (232, 0)))], S0_)) rfl ?_
        refine sm_T_bin (w := 6 * c_) rfl (bi_mul (by omega) (by omega) (by omega)) ?_ -- pc_ 56
        refine sm_T_go 1 (c1 := (58, [some (.inr (.inr (some (13, 0)))), some (.inl c_), some (.inl e_)], [.inl e_, .inl (6 * c_), .inr (.inr (some (232, 0)))], S0_)) rfl ?_
        refine sm_T_bin (w := 6 * c_ + e_) rfl (bi_add (by omega) (by omega) (by omega)) ?_ -- pc_ 58
        refine sm_T_go 3 (c1 := (64, [some (.inr (.inr (some (13, 0)))), some (.inl c_), some (.inl e_)], [.inl c_, .inr (.inr (some (225, 0))), .inl (6 * c_ + e_), .inr (.inr (some (232, 0)))], S0_)) rfl ?_
        refine sm_T_iald (n := 4) rfl rfl (by omega) (by omega) ?_
        refine sm_T_bin (w := 6 * c_ + e_ - (S0_.2.2.1 225 0 c_.toNat)) rfl (bi_sub (by omega) (by omega) (by omega)) ?_ -- pc_ 65
        refine sm_T_iald (n := 24) rfl rfl (by omega) (by omega) ?_
        have bx6_ : (-2) ≤ S0_.2.2.1 232 0 (6 * c_ + e_ - (S0_.2.2.1 225 0 c_.toNat)).toNat ∧ S0_.2.2.1 232 0 (6 * c_ + e_ - (S0_.2.2.1 225 0 c_.toNat)).toNat ≤ 9000 := hI_.2 232 0 _
        refine sm_T_ri rfl ⟨_, _, rfl, rfl, _, rfl, ?_⟩
        omega
      · have cx5_ : ¬ ((S0_.2.2.1 225 0 c_.toNat) ≤ e_) := of_decide_eq_false cx5_
        have o9_ := ho_.1 e_ (by omega) (by omega)
        refine sm_T_go 4 (c1 := (42, [some (.inr (.inr (some (13, 0)))), some (.inl c_), some (.inl e_)], [.inl c_, .inl 16, .inr (.inr (some (231, 0)))], S0_)) rfl ?_
        refine sm_T_bin (w := 16 * c_) rfl (bi_mul (by omega) (by omega) (by omega)) ?_ -- pc_ 42
        refine sm_T_go 1 (c1 := (44, [some (.inr (.inr (some (13, 0)))), some (.inl c_), some (.inl e_)], [.inl e_, .inl (16 * c_), .inr (.inr (some (231, 0)))], S0_)) rfl ?_
        refine sm_T_bin (w := 16 * c_ + e_) rfl (bi_add (by omega) (by omega) (by omega)) ?_ -- pc_ 44
        refine sm_T_iald (n := 64) rfl rfl (by omega) (by omega) ?_
        have bx7_ : (-2) ≤ S0_.2.2.1 231 0 (16 * c_ + e_).toNat ∧ S0_.2.2.1 231 0 (16 * c_ + e_).toNat ≤ 9000 := hI_.2 231 0 _
        refine sm_T_go 1 (c1 := (67, [some (.inr (.inr (some (13, 0)))), some (.inl c_), some (.inl e_)], [.inl (S0_.2.2.1 231 0 (16 * c_ + e_).toNat)], S0_)) rfl ?_
        refine sm_T_ri rfl ⟨_, _, rfl, rfl, _, rfl, ?_⟩
        omega
    · have cx4_ : ¬ (e_ < (S0_.2.2.1 225 0 c_.toNat) + (S0_.2.2.1 224 0 c_.toNat)) := of_decide_eq_false cx4_
      refine sm_T_go 2 (c1 := (67, [some (.inr (.inr (some (13, 0)))), some (.inl c_), some (.inl e_)], [.inl (-1)], S0_)) rfl ?_
      refine sm_T_ri rfl ⟨_, _, rfl, rfl, _, rfl, ?_⟩
      omega
/-! M_.isFalse -/
def vw_499 : sx_Wl := ([], [], [])
def vq_499 (c_ : Int) (n_ : Int) (e_ : Int) (S0_ : sm_S) (u_ : Option sm_V) (S1_ : sm_S) : Prop := S0_ = S1_ ∧ ∃ v_ : Int, u_ = some (.inl v_) ∧ (((-2147483648) ≤ v_ ∧ v_ ≤ 2147483647) ∧ (v_ = 0 ∨ v_ = 1))
set_option maxHeartbeats 400000 in
set_option maxRecDepth 20000 in
theorem vl_499 {sc_ : Nat × (Nat → Int)} (c_ : Int) (n_ : Int) (e_ : Int) (S0_ : sm_S) (hc_ : 0 ≤ c_ ∧ c_ ≤ 3) (hn_ : 0 ≤ n_ ∧ n_ ≤ 17) (he_ : (-2147483647) ≤ e_ ∧ e_ ≤ 2147483647) : ∀ nn_ : Nat, (∀ (x4_ : Int) (x5_ : Int) (S_ : sm_S), gi S_ → ai_fr (sx_W vw_499) S0_ S_ → ((0 ≤ c_ ∧ c_ ≤ 3 ∧ 0 ≤ n_ ∧ n_ ≤ 17 ∧ (-2147483647) ≤ e_ ∧ e_ ≤ 2147483647 ∧ 0 ≤ x4_ ∧ x4_ ≤ 1 ∧ 0 ≤ x5_ ∧ x5_ ≤ 40) ∧ (0 ≤ x5_ - x4_) ∧ (S_ = S0_) ∧ True) → ((1886 * 41 + 46 * (-x5_ + 40) + 41 : Int).toNat) < nn_ → sm_T (mt_P sc_) 0 499 (6, [some (.inr (.inr (some (13, 0)))), some (.inl c_), some (.inl n_), some (.inl e_), some (.inl x4_), some (.inl x5_)], [], S_) (fun ro9_ => ∃ u_ S1_, ro9_ = (.inl u_, S1_, 0) ∧ vq_499 c_ n_ e_ S0_ u_ S1_)) := by
  intro nn_
  induction nn_ with
  | zero => exact fun _ _ _ _ _ _ h_ => absurd h_ (Nat.not_lt_zero _)
  | succ nn_ ih_ =>
    rintro x4_ x5_ S_ hI_ hF_ ⟨b0_, b1_, hS_, -⟩ hm_
    refine sm_T_go 4 (c1 := (13, [some (.inr (.inr (some (13, 0)))), some (.inl c_), some (.inl n_), some (.inl e_), some (.inl x4_), some (.inl x5_)], [.inl c_, .inr (.inr (some (272, 0))), .inl x5_], S_)) rfl ?_
    refine sm_T_iald (n := 4) rfl rfl (by omega) (by omega) ?_
    have bx1_ : 0 ≤ S_.2.2.1 272 0 c_.toNat ∧ S_.2.2.1 272 0 c_.toNat ≤ 40 := hI_.2 272 0 _
    refine sm_T_br (a := 3) (z := 53) rfl (fun cx2_ => ?_) (fun cx2_ => ?_)
    · have cx2_ : (S_.2.2.1 272 0 c_.toNat) ≤ x5_ := of_decide_eq_true cx2_
      refine sm_T_go 1 (c1 := (69, [some (.inr (.inr (some (13, 0)))), some (.inl c_), some (.inl n_), some (.inl e_), some (.inl x4_), some (.inl x5_)], [.inl x4_], S_)) rfl ?_
      refine sm_T_rz rfl (by omega) ⟨_, _, rfl, (by first | rfl | exact hS_.symm), _, rfl, ?_⟩
      omega
    · have cx2_ : ¬ ((S_.2.2.1 272 0 c_.toNat) ≤ x5_) := of_decide_eq_false cx2_
      refine sm_T_go 1 (c1 := (19, [some (.inr (.inr (some (13, 0)))), some (.inl c_), some (.inl n_), some (.inl e_), some (.inl x4_), some (.inl x5_)], [.inl x4_], S_)) rfl ?_
      refine sm_T_b0 (a := 1) (z := 35) rfl (fun cx3_ => ?_) (fun cx3_ => ?_)
      · have cx3_ : x4_ ≠ 0 := of_decide_eq_true cx3_
        refine sm_T_go 3 (c1 := (61, [some (.inr (.inr (some (13, 0)))), some (.inl c_), some (.inl n_), some (.inl e_), some (.inl 1), some (.inl x5_)], [], S_)) rfl ?_
        refine sm_T_inc (a := 5) (z := 1) (v := x5_) (w := x5_ + 1) rfl rfl (by omega) (by omega) (by omega) ?_ -- pc_ 61
        refine sm_T_go 1 (c1 := (6, [some (.inr (.inr (some (13, 0)))), some (.inl c_), some (.inl n_), some (.inl e_), some (.inl 1), some (.inl (x5_ + 1))], [], S_)) rfl ?_
        refine ih_ 1 (x5_ + 1) S_ hI_ hF_ ⟨?_, ?_, ?_, trivial⟩ ?_
        · omega
        · omega
        · first | rfl | exact hS_
        · omega
      · have cx3_ : ¬ (x4_ ≠ 0) := of_decide_eq_false cx3_
        refine sm_T_go 4 (c1 := (29, [some (.inr (.inr (some (13, 0)))), some (.inl c_), some (.inl n_), some (.inl e_), some (.inl x4_), some (.inl x5_)], [.inl c_, .inl 40, .inr (.inr (some (273, 0)))], S_)) rfl ?_
        refine sm_T_bin (w := 40 * c_) rfl (bi_mul (by omega) (by omega) (by omega)) ?_ -- pc_ 29
        refine sm_T_go 1 (c1 := (32, [some (.inr (.inr (some (13, 0)))), some (.inl c_), some (.inl n_), some (.inl e_), some (.inl x4_), some (.inl x5_)], [.inl x5_, .inl (40 * c_), .inr (.inr (some (273, 0)))], S_)) rfl ?_
        refine sm_T_bin (w := 40 * c_ + x5_) rfl (bi_add (by omega) (by omega) (by omega)) ?_ -- pc_ 32
        refine sm_T_iald (n := 160) rfl rfl (by omega) (by omega) ?_
        have bx4_ : 0 ≤ S_.2.2.1 273 0 (40 * c_ + x5_).toNat ∧ S_.2.2.1 273 0 (40 * c_ + x5_).toNat ≤ 161 := hI_.2 273 0 _
        refine sm_T_go 1 (c1 := (35, [some (.inr (.inr (some (13, 0)))), some (.inl c_), some (.inl n_), some (.inl e_), some (.inl x4_), some (.inl x5_)], [.inl n_, .inl (S_.2.2.1 273 0 (40 * c_ + x5_).toNat)], S_)) rfl ?_
        refine sm_T_br (a := 1) (z := 23) rfl (fun cx5_ => ?_) (fun cx5_ => ?_)
        · have cx5_ : (S_.2.2.1 273 0 (40 * c_ + x5_).toNat) ≠ n_ := of_decide_eq_true cx5_
          refine sm_T_go 2 (c1 := (61, [some (.inr (.inr (some (13, 0)))), some (.inl c_), some (.inl n_), some (.inl e_), some (.inl 0), some (.inl x5_)], [], S_)) rfl ?_
          refine sm_T_inc (a := 5) (z := 1) (v := x5_) (w := x5_ + 1) rfl rfl (by omega) (by omega) (by omega) ?_ -- pc_ 61
          refine sm_T_go 1 (c1 := (6, [some (.inr (.inr (some (13, 0)))), some (.inl c_), some (.inl n_), some (.inl e_), some (.inl 0), some (.inl (x5_ + 1))], [], S_)) rfl ?_
          refine ih_ 0 (x5_ + 1) S_ hI_ hF_ ⟨?_, ?_, ?_, trivial⟩ ?_
          · omega
          · omega
          · first | rfl | exact hS_
          · omega
        · have cx5_ : ¬ ((S_.2.2.1 273 0 (40 * c_ + x5_).toNat) ≠ n_) := of_decide_eq_false cx5_
          refine sm_T_go 4 (c1 := (45, [some (.inr (.inr (some (13, 0)))), some (.inl c_), some (.inl n_), some (.inl e_), some (.inl x4_), some (.inl x5_)], [.inl c_, .inl 40, .inr (.inr (some (274, 0)))], S_)) rfl ?_
          refine sm_T_bin (w := 40 * c_) rfl (bi_mul (by omega) (by omega) (by omega)) ?_ -- pc_ 45
          refine sm_T_go 1 (c1 := (48, [some (.inr (.inr (some (13, 0)))), some (.inl c_), some (.inl n_), some (.inl e_), some (.inl x4_), some (.inl x5_)], [.inl x5_, .inl (40 * c_), .inr (.inr (some (274, 0)))], S_)) rfl ?_
          refine sm_T_bin (w := 40 * c_ + x5_) rfl (bi_add (by omega) (by omega) (by omega)) ?_ -- pc_ 48
          refine sm_T_iald (n := 160) rfl rfl (by omega) (by omega) ?_
          have bx6_ : 0 ≤ S_.2.2.1 274 0 (40 * c_ + x5_).toNat ∧ S_.2.2.1 274 0 (40 * c_ + x5_).toNat ≤ 22 := hI_.2 274 0 _
          refine sm_T_go 1 (c1 := (51, [some (.inr (.inr (some (13, 0)))), some (.inl c_), some (.inl n_), some (.inl e_), some (.inl x4_), some (.inl x5_)], [.inl e_, .inl (S_.2.2.1 274 0 (40 * c_ + x5_).toNat)], S_)) rfl ?_
          refine sm_T_br (a := 1) (z := 7) rfl (fun cx7_ => ?_) (fun cx7_ => ?_)
          · have cx7_ : (S_.2.2.1 274 0 (40 * c_ + x5_).toNat) ≠ e_ := of_decide_eq_true cx7_
            refine sm_T_go 2 (c1 := (61, [some (.inr (.inr (some (13, 0)))), some (.inl c_), some (.inl n_), some (.inl e_), some (.inl 0), some (.inl x5_)], [], S_)) rfl ?_
            refine sm_T_inc (a := 5) (z := 1) (v := x5_) (w := x5_ + 1) rfl rfl (by omega) (by omega) (by omega) ?_ -- pc_ 61
            refine sm_T_go 1 (c1 := (6, [some (.inr (.inr (some (13, 0)))), some (.inl c_), some (.inl n_), some (.inl e_), some (.inl 0), some (.inl (x5_ + 1))], [], S_)) rfl ?_
            refine ih_ 0 (x5_ + 1) S_ hI_ hF_ ⟨?_, ?_, ?_, trivial⟩ ?_
            · omega
            · omega
            · first | rfl | exact hS_
            · omega
          · have cx7_ : ¬ ((S_.2.2.1 274 0 (40 * c_ + x5_).toNat) ≠ e_) := of_decide_eq_false cx7_
            refine sm_T_go 3 (c1 := (61, [some (.inr (.inr (some (13, 0)))), some (.inl c_), some (.inl n_), some (.inl e_), some (.inl 1), some (.inl x5_)], [], S_)) rfl ?_
            refine sm_T_inc (a := 5) (z := 1) (v := x5_) (w := x5_ + 1) rfl rfl (by omega) (by omega) (by omega) ?_ -- pc_ 61
            refine sm_T_go 1 (c1 := (6, [some (.inr (.inr (some (13, 0)))), some (.inl c_), some (.inl n_), some (.inl e_), some (.inl 1), some (.inl (x5_ + 1))], [], S_)) rfl ?_
            refine ih_ 1 (x5_ + 1) S_ hI_ hF_ ⟨?_, ?_, ?_, trivial⟩ ?_
            · omega
            · omega
            · first | rfl | exact hS_
            · omega
set_option maxHeartbeats 400000 in
set_option maxRecDepth 20000 in
theorem vc_499 {sc_ : Nat × (Nat → Int)} (c_ : Int) (n_ : Int) (e_ : Int) (S0_ : sm_S) (hI_ : gi S0_) (hc_ : 0 ≤ c_ ∧ c_ ≤ 3) (hn_ : 0 ≤ n_ ∧ n_ ≤ 17) (he_ : (-2147483647) ≤ e_ ∧ e_ ≤ 2147483647) : sm_T (mt_P sc_) 0 499 (0, [some (.inr (.inr (some (13, 0)))), some (.inl c_), some (.inl n_), some (.inl e_), none, none], [], S0_) (fun ro9_ => ∃ u_ S1_, ro9_ = (.inl u_, S1_, 0) ∧ vq_499 c_ n_ e_ S0_ u_ S1_) := by
  have hF_ : ai_fr (sx_W vw_499) S0_ S0_ := ai_fr_rf
  refine sm_T_go 4 (c1 := (6, [some (.inr (.inr (some (13, 0)))), some (.inl c_), some (.inl n_), some (.inl e_), some (.inl 0), some (.inl 0)], [], S0_)) rfl ?_
  refine (vl_499 c_ n_ e_ S0_ hc_ hn_ he_ _) 0 0 S0_ hI_ hF_ ⟨?_, ?_, ?_, trivial⟩ (Nat.lt_succ_self _)
  · omega
  · omega
  · first | rfl | exact hS_
/-! M_.falsify -/
def vw_500 : sx_Wl := ([(13, 0)], [272, 273, 274], [])
def vq_500 (a1_ : Int) (a2_ : Int) (a3_ : Int) (S0_ : sm_S) (u_ : Option sm_V) (S1_ : sm_S) : Prop := ∃ v_ : Int, u_ = some (.inl v_) ∧ gi S1_ ∧ ai_fr (sx_W vw_500) S0_ S1_ ∧ (((-2147483648) ≤ v_ ∧ v_ ≤ 2147483647) ∧ (jR S1_))
set_option maxHeartbeats 400000 in
set_option maxRecDepth 20000 in
theorem vc_500 {sc_ : Nat × (Nat → Int)} (a1_ : Int) (a2_ : Int) (a3_ : Int) (S0_ : sm_S) (hI_ : gi S0_) (ha1_ : (-2147483648) ≤ a1_ ∧ a1_ ≤ 2147483647) (ha2_ : (-2147483648) ≤ a2_ ∧ a2_ ≤ 2147483647) (ha3_ : (-2147483648) ≤ a3_ ∧ a3_ ≤ 2147483647) (hJ_ : jR S0_) : sm_T (mt_P sc_) 1 500 (0, [some (.inr (.inr (some (13, 0)))), some (.inl a1_), some (.inl a2_), some (.inl a3_)], [], S0_) (fun ro9_ => ∃ u_ S1_, ro9_ = (.inl u_, S1_, 0) ∧ vq_500 a1_ a2_ a3_ S0_ u_ S1_) := by
  have hF_ : ai_fr (sx_W vw_500) S0_ S0_ := ai_fr_rf
  refine sm_T_go 3 (c1 := (3, [some (.inr (.inr (some (13, 0)))), some (.inl a1_), some (.inl a2_), some (.inl a3_)], [.inl a1_, .inr (.inr (some (13, 0))), .inr (.inr (some (13, 0)))], S0_)) rfl ?_
  refine sm_T_cal (d1 := 0) (Q1 := vq_371 a1_ S0_) rfl rfl (by decide) (vc_371 a1_ S0_ hI_ (by omega)) (fun u_ Sx1_ px4_ => ?_)
  obtain ⟨rfl, vx6_, rfl, px4_⟩ := px4_
  have d3_ := px4_
  refine sm_T_b0 (a := 0) (z := 33) rfl (fun cx7_ => ?_) (fun cx7_ => ?_)
  · have cx7_ : vx6_ = 0 := of_decide_eq_true cx7_
    have hIx8_ : gi (sm_pI S0_ 13 0 0 1) := gi_pI hI_ (show 0 ≤ 1 ∧ 1 ≤ 4 from ⟨by omega, by omega⟩)
    have hFx9_ : ai_fr (sx_W vw_500) S0_ (sm_pI S0_ 13 0 0 1) := ai_fr_tr hF_ (ai_fr_pI rfl)
    refine sm_T_go 7 (c1 := (65, [some (.inr (.inr (some (13, 0)))), some (.inl a1_), some (.inl a2_), some (.inl a3_)], [.inl 0], sm_pI S0_ 13 0 0 1)) rfl ?_
    refine sm_T_rz rfl (by omega) ⟨_, _, rfl, _, rfl, hIx8_, hFx9_, ?_⟩
    refine ⟨⟨by omega, by omega⟩, jR_fr hJ_ hIx8_ hFx9_⟩
  · have cx7_ : ¬ (vx6_ = 0) := of_decide_eq_false cx7_
    refine sm_T_go 1 (c1 := (10, [some (.inr (.inr (some (13, 0)))), some (.inl a1_), some (.inl a2_), some (.inl a3_)], [.inl a2_, .inr (.inr (some (13, 0)))], S0_)) rfl ?_
    refine sm_T_b0 (a := 2) (z := 29) rfl (fun cx10_ => ?_) (fun cx10_ => ?_)
    · have cx10_ : a2_ < 0 := of_decide_eq_true cx10_
      have hIx11_ : gi (sm_pI S0_ 13 0 0 1) := gi_pI hI_ (show 0 ≤ 1 ∧ 1 ≤ 4 from ⟨by omega, by omega⟩)
      have hFx12_ : ai_fr (sx_W vw_500) S0_ (sm_pI S0_ 13 0 0 1) := ai_fr_tr hF_ (ai_fr_pI rfl)
      refine sm_T_go 7 (c1 := (65, [some (.inr (.inr (some (13, 0)))), some (.inl a1_), some (.inl a2_), some (.inl a3_)], [.inl 0], sm_pI S0_ 13 0 0 1)) rfl ?_
      refine sm_T_rz rfl (by omega) ⟨_, _, rfl, _, rfl, hIx11_, hFx12_, ?_⟩
      refine ⟨⟨by omega, by omega⟩, jR_fr hJ_ hIx11_ hFx12_⟩
    · have cx10_ : ¬ (a2_ < 0) := of_decide_eq_false cx10_
      refine sm_T_go 4 (c1 := (19, [some (.inr (.inr (some (13, 0)))), some (.inl a1_), some (.inl a2_), some (.inl a3_)], [.inl a1_, .inr (.inr (some (223, 0))), .inl a2_, .inr (.inr (some (13, 0)))], S0_)) rfl ?_
      refine sm_T_iald (n := 4) rfl rfl (by omega) (by omega) ?_
      have bx13_ : 0 ≤ S0_.2.2.1 223 0 a1_.toNat ∧ S0_.2.2.1 223 0 a1_.toNat ≤ 12 := hI_.2 223 0 _
      refine sm_T_go 3 (c1 := (25, [some (.inr (.inr (some (13, 0)))), some (.inl a1_), some (.inl a2_), some (.inl a3_)], [.inl a1_, .inr (.inr (some (224, 0))), .inl (S0_.2.2.1 223 0 a1_.toNat), .inl a2_, .inr (.inr (some (13, 0)))], S0_)) rfl ?_
      refine sm_T_iald (n := 4) rfl rfl (by omega) (by omega) ?_
      have bx14_ : 0 ≤ S0_.2.2.1 224 0 a1_.toNat ∧ S0_.2.2.1 224 0 a1_.toNat ≤ 6 := hI_.2 224 0 _
      refine sm_T_bin (w := (S0_.2.2.1 223 0 a1_.toNat) + (S0_.2.2.1 224 0 a1_.toNat)) rfl (bi_add (by omega) (by omega) (by omega)) ?_ -- pc_ 26
      refine sm_T_br (a := 3) (z := 12) rfl (fun cx15_ => ?_) (fun cx15_ => ?_)
      · have cx15_ : (S0_.2.2.1 223 0 a1_.toNat) + (S0_.2.2.1 224 0 a1_.toNat) ≤ a2_ := of_decide_eq_true cx15_
        have hIx16_ : gi (sm_pI S0_ 13 0 0 1) := gi_pI hI_ (show 0 ≤ 1 ∧ 1 ≤ 4 from ⟨by omega, by omega⟩)
        have hFx17_ : ai_fr (sx_W vw_500) S0_ (sm_pI S0_ 13 0 0 1) := ai_fr_tr hF_ (ai_fr_pI rfl)
        refine sm_T_go 7 (c1 := (65, [some (.inr (.inr (some (13, 0)))), some (.inl a1_), some (.inl a2_), some (.inl a3_)], [.inl 0], sm_pI S0_ 13 0 0 1)) rfl ?_
        refine sm_T_rz rfl (by omega) ⟨_, _, rfl, _, rfl, hIx16_, hFx17_, ?_⟩
        refine ⟨⟨by omega, by omega⟩, jR_fr hJ_ hIx16_ hFx17_⟩
      · have cx15_ : ¬ ((S0_.2.2.1 223 0 a1_.toNat) + (S0_.2.2.1 224 0 a1_.toNat) ≤ a2_) := of_decide_eq_false cx15_
        have K9_ : cRk a1_ S0_ := hJ_.2 a1_ (by omega) (by omega) (by omega)
        obtain ⟨K1_, K2_, K3_, K4_, K5_, K6_, K7_⟩ := K9_
        have cA_ : 0 ≤ S0_.2.2.1 223 0 a1_.toNat ∧ S0_.2.2.1 223 0 a1_.toNat ≤ 12 := hI_.2 223 0 _
        have cB_ : 0 ≤ S0_.2.2.1 224 0 a1_.toNat ∧ S0_.2.2.1 224 0 a1_.toNat ≤ 6 := hI_.2 224 0 _
        have cO_ : 0 ≤ S0_.2.2.1 225 0 a1_.toNat ∧ S0_.2.2.1 225 0 a1_.toNat ≤ 16 := hI_.2 225 0 _
        refine sm_T_go 3 (c1 := (33, [some (.inr (.inr (some (13, 0)))), some (.inl a1_), some (.inl a2_), some (.inl a3_)], [.inl a3_, .inl a1_, .inr (.inr (some (13, 0))), .inr (.inr (some (13, 0)))], S0_)) rfl ?_
        refine sm_T_cal (d1 := 0) (Q1 := vq_498 a1_ a3_ S0_) rfl rfl (by decide) (vc_498 a1_ a3_ S0_ hI_ (by omega) (by exact K5_)) (fun u_ Sx18_ px21_ => ?_)
        obtain ⟨rfl, vx23_, rfl, px21_⟩ := px21_
        have e33_ := px21_
        refine sm_T_b0 (a := 3) (z := 7) rfl (fun cx24_ => ?_) (fun cx24_ => ?_)
        · have cx24_ : 0 ≤ vx23_ := of_decide_eq_true cx24_
          have hIx25_ : gi (sm_pI S0_ 13 0 0 0) := gi_pI hI_ (show 0 ≤ 0 ∧ 0 ≤ 4 from ⟨by omega, by omega⟩)
          have hFx26_ : ai_fr (sx_W vw_500) S0_ (sm_pI S0_ 13 0 0 0) := ai_fr_tr hF_ (ai_fr_pI rfl)
          refine sm_T_go 9 (c1 := (58, [some (.inr (.inr (some (13, 0)))), some (.inl a1_), some (.inl a2_), some (.inl a3_)], [.inl a3_, .inl a2_, .inl a1_, .inr (.inr (some (13, 0)))], sm_pI S0_ 13 0 0 0)) rfl ?_
          refine sm_T_cal (d1 := 0) (Q1 := vq_499 a1_ a2_ a3_ (sm_pI S0_ 13 0 0 0)) rfl rfl (by decide) (vc_499 a1_ a2_ a3_ (sm_pI S0_ 13 0 0 0) hIx25_ (by omega) (by omega) (by omega)) (fun u_ Sx27_ px30_ => ?_)
          obtain ⟨rfl, vx32_, rfl, px30_⟩ := px30_
          refine sm_T_b0 (a := 0) (z := 5) rfl (fun cx33_ => ?_) (fun cx33_ => ?_)
          · have cx33_ : vx32_ = 0 := of_decide_eq_true cx33_
            refine sm_T_go 3 (c1 := (71, [some (.inr (.inr (some (13, 0)))), some (.inl a1_), some (.inl a2_), some (.inl a3_)], [.inl a1_, .inr (.inr (some (272, 0)))], sm_pI S0_ 13 0 0 0)) rfl ?_
            refine sm_T_iald (n := 4) rfl rfl (by omega) (by omega) ?_
            have bx34_ : 0 ≤ S0_.2.2.1 272 0 a1_.toNat ∧ S0_.2.2.1 272 0 a1_.toNat ≤ 40 := hI_.2 272 0 _
            refine sm_T_go 1 (c1 := (74, [some (.inr (.inr (some (13, 0)))), some (.inl a1_), some (.inl a2_), some (.inl a3_)], [.inl 40, .inl (S0_.2.2.1 272 0 a1_.toNat)], sm_pI S0_ 13 0 0 0)) rfl ?_
            refine sm_T_br (a := 1) (z := 10) rfl (fun cx35_ => ?_) (fun cx35_ => ?_)
            · have cx35_ : (S0_.2.2.1 272 0 a1_.toNat) ≠ 40 := of_decide_eq_true cx35_
              refine sm_T_go 4 (c1 := (91, [some (.inr (.inr (some (13, 0)))), some (.inl a1_), some (.inl a2_), some (.inl a3_)], [.inl a1_, .inl 40, .inr (.inr (some (273, 0)))], sm_pI S0_ 13 0 0 0)) rfl ?_
              refine sm_T_bin (w := 40 * a1_) rfl (bi_mul (by omega) (by omega) (by omega)) ?_ -- pc_ 91
              refine sm_T_go 3 (c1 := (97, [some (.inr (.inr (some (13, 0)))), some (.inl a1_), some (.inl a2_), some (.inl a3_)], [.inl a1_, .inr (.inr (some (272, 0))), .inl (40 * a1_), .inr (.inr (some (273, 0)))], sm_pI S0_ 13 0 0 0)) rfl ?_
              refine sm_T_iald (n := 4) rfl rfl (by omega) (by omega) ?_
              refine sm_T_go 0 (c1 := (98, [some (.inr (.inr (some (13, 0)))), some (.inl a1_), some (.inl a2_), some (.inl a3_)], [.inl (S0_.2.2.1 272 0 a1_.toNat), .inl (40 * a1_), .inr (.inr (some (273, 0)))], sm_pI S0_ 13 0 0 0)) rfl ?_
              refine sm_T_bin (w := 40 * a1_ + (S0_.2.2.1 272 0 a1_.toNat)) rfl (bi_add (by omega) (by omega) (by omega)) ?_ -- pc_ 98
              refine sm_T_go 1 (c1 := (100, [some (.inr (.inr (some (13, 0)))), some (.inl a1_), some (.inl a2_), some (.inl a3_)], [.inl a2_, .inl (40 * a1_ + (S0_.2.2.1 272 0 a1_.toNat)), .inr (.inr (some (273, 0)))], sm_pI S0_ 13 0 0 0)) rfl ?_
              refine sm_T_iast (n := 160) rfl rfl (by omega) (by omega) ?_
              have hIx36_ : gi (sm_aI (sm_pI S0_ 13 0 0 0) 273 0 (40 * a1_ + (S0_.2.2.1 272 0 a1_.toNat)).toNat a2_) := gi_aI hIx25_ (show 0 ≤ a2_ ∧ a2_ ≤ 161 from ⟨by omega, by omega⟩)
              have hFx37_ : ai_fr (sx_W vw_500) S0_ (sm_aI (sm_pI S0_ 13 0 0 0) 273 0 (40 * a1_ + (S0_.2.2.1 272 0 a1_.toNat)).toNat a2_) := ai_fr_tr hFx26_ (ai_fr_aI rfl)
              refine sm_T_go 4 (c1 := (108, [some (.inr (.inr (some (13, 0)))), some (.inl a1_), some (.inl a2_), some (.inl a3_)], [.inl a1_, .inl 40, .inr (.inr (some (274, 0)))], sm_aI (sm_pI S0_ 13 0 0 0) 273 0 (40 * a1_ + (S0_.2.2.1 272 0 a1_.toNat)).toNat a2_)) rfl ?_
              refine sm_T_bin (w := 40 * a1_) rfl (bi_mul (by omega) (by omega) (by omega)) ?_ -- pc_ 108
              refine sm_T_go 3 (c1 := (114, [some (.inr (.inr (some (13, 0)))), some (.inl a1_), some (.inl a2_), some (.inl a3_)], [.inl a1_, .inr (.inr (some (272, 0))), .inl (40 * a1_), .inr (.inr (some (274, 0)))], sm_aI (sm_pI S0_ 13 0 0 0) 273 0 (40 * a1_ + (S0_.2.2.1 272 0 a1_.toNat)).toNat a2_)) rfl ?_
              refine sm_T_iald (n := 4) rfl rfl (by omega) (by omega) ?_
              refine sm_T_go 0 (c1 := (115, [some (.inr (.inr (some (13, 0)))), some (.inl a1_), some (.inl a2_), some (.inl a3_)], [.inl (S0_.2.2.1 272 0 a1_.toNat), .inl (40 * a1_), .inr (.inr (some (274, 0)))], sm_aI (sm_pI S0_ 13 0 0 0) 273 0 (40 * a1_ + (S0_.2.2.1 272 0 a1_.toNat)).toNat a2_)) rfl ?_
              refine sm_T_bin (w := 40 * a1_ + (S0_.2.2.1 272 0 a1_.toNat)) rfl (bi_add (by omega) (by omega) (by omega)) ?_ -- pc_ 115
              refine sm_T_go 1 (c1 := (117, [some (.inr (.inr (some (13, 0)))), some (.inl a1_), some (.inl a2_), some (.inl a3_)], [.inl a3_, .inl (40 * a1_ + (S0_.2.2.1 272 0 a1_.toNat)), .inr (.inr (some (274, 0)))], sm_aI (sm_pI S0_ 13 0 0 0) 273 0 (40 * a1_ + (S0_.2.2.1 272 0 a1_.toNat)).toNat a2_)) rfl ?_
              refine sm_T_iast (n := 160) rfl rfl (by omega) (by omega) ?_
              have hIx38_ : gi (sm_aI (sm_aI (sm_pI S0_ 13 0 0 0) 273 0 (40 * a1_ + (S0_.2.2.1 272 0 a1_.toNat)).toNat a2_) 274 0 (40 * a1_ + (S0_.2.2.1 272 0 a1_.toNat)).toNat a3_) := gi_aI hIx36_ (show 0 ≤ a3_ ∧ a3_ ≤ 22 from ⟨by omega, by omega⟩)
              have hFx39_ : ai_fr (sx_W vw_500) S0_ (sm_aI (sm_aI (sm_pI S0_ 13 0 0 0) 273 0 (40 * a1_ + (S0_.2.2.1 272 0 a1_.toNat)).toNat a2_) 274 0 (40 * a1_ + (S0_.2.2.1 272 0 a1_.toNat)).toNat a3_) := ai_fr_tr hFx37_ (ai_fr_aI rfl)
              refine sm_T_go 4 (c1 := (124, [some (.inr (.inr (some (13, 0)))), some (.inl a1_), some (.inl a2_), some (.inl a3_)], [.inl a1_, .inr (.inr (some (272, 0))), .inl a1_, .inr (.inr (some (272, 0)))], sm_aI (sm_aI (sm_pI S0_ 13 0 0 0) 273 0 (40 * a1_ + (S0_.2.2.1 272 0 a1_.toNat)).toNat a2_) 274 0 (40 * a1_ + (S0_.2.2.1 272 0 a1_.toNat)).toNat a3_)) rfl ?_
              refine sm_T_iald (n := 4) rfl rfl (by omega) (by omega) ?_
              refine sm_T_go 1 (c1 := (126, [some (.inr (.inr (some (13, 0)))), some (.inl a1_), some (.inl a2_), some (.inl a3_)], [.inl 1, .inl (S0_.2.2.1 272 0 a1_.toNat), .inl a1_, .inr (.inr (some (272, 0)))], sm_aI (sm_aI (sm_pI S0_ 13 0 0 0) 273 0 (40 * a1_ + (S0_.2.2.1 272 0 a1_.toNat)).toNat a2_) 274 0 (40 * a1_ + (S0_.2.2.1 272 0 a1_.toNat)).toNat a3_)) rfl ?_
              refine sm_T_bin (w := (S0_.2.2.1 272 0 a1_.toNat) + 1) rfl (bi_add (by omega) (by omega) (by omega)) ?_ -- pc_ 126
              refine sm_T_iast (n := 4) rfl rfl (by omega) (by omega) ?_
              have hIx40_ : gi (sm_aI (sm_aI (sm_aI (sm_pI S0_ 13 0 0 0) 273 0 (40 * a1_ + (S0_.2.2.1 272 0 a1_.toNat)).toNat a2_) 274 0 (40 * a1_ + (S0_.2.2.1 272 0 a1_.toNat)).toNat a3_) 272 0 a1_.toNat ((S0_.2.2.1 272 0 a1_.toNat) + 1)) := gi_aI hIx38_ (show 0 ≤ (S0_.2.2.1 272 0 a1_.toNat) + 1 ∧ (S0_.2.2.1 272 0 a1_.toNat) + 1 ≤ 40 from ⟨by omega, by omega⟩)
              have hFx41_ : ai_fr (sx_W vw_500) S0_ (sm_aI (sm_aI (sm_aI (sm_pI S0_ 13 0 0 0) 273 0 (40 * a1_ + (S0_.2.2.1 272 0 a1_.toNat)).toNat a2_) 274 0 (40 * a1_ + (S0_.2.2.1 272 0 a1_.toNat)).toNat a3_) 272 0 a1_.toNat ((S0_.2.2.1 272 0 a1_.toNat) + 1)) := ai_fr_tr hFx39_ (ai_fr_aI rfl)
              refine sm_T_go 1 (c1 := (129, [some (.inr (.inr (some (13, 0)))), some (.inl a1_), some (.inl a2_), some (.inl a3_)], [.inl 1], sm_aI (sm_aI (sm_aI (sm_pI S0_ 13 0 0 0) 273 0 (40 * a1_ + (S0_.2.2.1 272 0 a1_.toNat)).toNat a2_) 274 0 (40 * a1_ + (S0_.2.2.1 272 0 a1_.toNat)).toNat a3_) 272 0 a1_.toNat ((S0_.2.2.1 272 0 a1_.toNat) + 1))) rfl ?_
              refine sm_T_rz rfl (by omega) ⟨_, _, rfl, _, rfl, hIx40_, hFx41_, ?_⟩
              refine ⟨⟨by omega, by omega⟩, jR_fr hJ_ hIx40_ hFx41_⟩
            · have cx35_ : ¬ ((S0_.2.2.1 272 0 a1_.toNat) ≠ 40) := of_decide_eq_false cx35_
              have hIx42_ : gi (sm_pI (sm_pI S0_ 13 0 0 0) 13 0 0 2) := gi_pI hIx25_ (show 0 ≤ 2 ∧ 2 ≤ 4 from ⟨by omega, by omega⟩)
              have hFx43_ : ai_fr (sx_W vw_500) S0_ (sm_pI (sm_pI S0_ 13 0 0 0) 13 0 0 2) := ai_fr_tr hFx26_ (ai_fr_pI rfl)
              refine sm_T_go 4 (c1 := (83, [some (.inr (.inr (some (13, 0)))), some (.inl a1_), some (.inl a2_), some (.inl a3_)], [.inl 0], sm_pI (sm_pI S0_ 13 0 0 0) 13 0 0 2)) rfl ?_
              refine sm_T_rz rfl (by omega) ⟨_, _, rfl, _, rfl, hIx42_, hFx43_, ?_⟩
              refine ⟨⟨by omega, by omega⟩, jR_fr hJ_ hIx42_ hFx43_⟩
          · have cx33_ : ¬ (vx32_ = 0) := of_decide_eq_false cx33_
            refine sm_T_go 1 (c1 := (65, [some (.inr (.inr (some (13, 0)))), some (.inl a1_), some (.inl a2_), some (.inl a3_)], [.inl 0], sm_pI S0_ 13 0 0 0)) rfl ?_
            refine sm_T_rz rfl (by omega) ⟨_, _, rfl, _, rfl, hIx25_, hFx26_, ?_⟩
            refine ⟨⟨by omega, by omega⟩, jR_fr hJ_ hIx25_ hFx26_⟩
        · have cx24_ : ¬ (0 ≤ vx23_) := of_decide_eq_false cx24_
          have hIx44_ : gi (sm_pI S0_ 13 0 0 1) := gi_pI hI_ (show 0 ≤ 1 ∧ 1 ≤ 4 from ⟨by omega, by omega⟩)
          have hFx45_ : ai_fr (sx_W vw_500) S0_ (sm_pI S0_ 13 0 0 1) := ai_fr_tr hF_ (ai_fr_pI rfl)
          refine sm_T_go 7 (c1 := (65, [some (.inr (.inr (some (13, 0)))), some (.inl a1_), some (.inl a2_), some (.inl a3_)], [.inl 0], sm_pI S0_ 13 0 0 1)) rfl ?_
          refine sm_T_rz rfl (by omega) ⟨_, _, rfl, _, rfl, hIx44_, hFx45_, ?_⟩
          refine ⟨⟨by omega, by omega⟩, jR_fr hJ_ hIx44_ hFx45_⟩
/-! M_.leads -/
def vw_501 : sx_Wl := ([], [], [])
def vq_501 (c_ : Int) (n_ : Int) (g_ : Int) (S0_ : sm_S) (u_ : Option sm_V) (S1_ : sm_S) : Prop := S0_ = S1_ ∧ ∃ v_ : Int, u_ = some (.inl v_) ∧ (((-2147483648) ≤ v_ ∧ v_ ≤ 2147483647) ∧ (v_ = 0 ∨ v_ = 1))
set_option maxHeartbeats 400000 in
set_option maxRecDepth 20000 in
theorem vl_501 {sc_ : Nat × (Nat → Int)} (c_ : Int) (n_ : Int) (g_ : Int) (S0_ : sm_S) (hc_ : 0 ≤ c_ ∧ c_ ≤ 3) (hn_ : 0 ≤ n_ ∧ n_ ≤ 166) (hg_ : 0 ≤ g_ ∧ g_ ≤ 149) : ∀ nn_ : Nat, (∀ (x4_ : Int) (x5_ : Int) (S_ : sm_S), gi S_ → ai_fr (sx_W vw_501) S0_ S_ → ((0 ≤ c_ ∧ c_ ≤ 3 ∧ 0 ≤ n_ ∧ n_ ≤ 166 ∧ 0 ≤ g_ ∧ g_ ≤ 167 ∧ 0 ≤ x4_ ∧ x4_ ≤ 1 ∧ 0 ≤ x5_ ∧ x5_ ≤ 3) ∧ (0 ≤ x5_ - x4_) ∧ (S_ = S0_) ∧ True) → ((172 * 38 + 43 * (-x5_ + 3) + 38 : Int).toNat) < nn_ → sm_T (mt_P sc_) 1 501 (6, [some (.inr (.inr (some (13, 0)))), some (.inl c_), some (.inl n_), some (.inl g_), some (.inl x4_), some (.inl x5_)], [], S_) (fun ro9_ => ∃ u_ S1_, ro9_ = (.inl u_, S1_, 0) ∧ vq_501 c_ n_ g_ S0_ u_ S1_)) := by
  intro nn_
  induction nn_ with
  | zero => exact fun _ _ _ _ _ _ h_ => absurd h_ (Nat.not_lt_zero _)
  | succ nn_ ih_ =>
    rintro x4_ x5_ S_ hI_ hF_ ⟨b0_, b1_, hS_, -⟩ hm_
    refine sm_T_go 6 (c1 := (15, [some (.inr (.inr (some (13, 0)))), some (.inl c_), some (.inl n_), some (.inl g_), some (.inl x4_), some (.inl x5_)], [.inl g_, .inl c_, .inr (.inr (some (13, 0))), .inr (.inr (some (234, 0))), .inl x5_], S_)) rfl ?_
    refine sm_T_cal (d1 := 0) (Q1 := vq_421 c_ g_ S_) rfl rfl (by decide) (vc_421 c_ g_ S_ hI_ (by omega) (by omega)) (fun u_ Sx1_ px4_ => ?_)
    obtain ⟨rfl, vx6_, rfl, px4_⟩ := px4_
    refine sm_T_iald (n := 48) rfl rfl (by omega) (by omega) ?_
    have bx7_ : 0 ≤ S_.2.2.1 234 0 vx6_.toNat ∧ S_.2.2.1 234 0 vx6_.toNat ≤ 3 := hI_.2 234 0 _
    refine sm_T_br (a := 3) (z := 42) rfl (fun cx8_ => ?_) (fun cx8_ => ?_)
    · have cx8_ : (S_.2.2.1 234 0 vx6_.toNat) ≤ x5_ := of_decide_eq_true cx8_
      refine sm_T_go 1 (c1 := (63, [some (.inr (.inr (some (13, 0)))), some (.inl c_), some (.inl n_), some (.inl g_), some (.inl x4_), some (.inl x5_)], [.inl x4_], S_)) rfl ?_
      refine sm_T_rz rfl (by omega) ⟨_, _, rfl, (by first | rfl | exact hS_.symm), _, rfl, ?_⟩
      omega
    · have cx8_ : ¬ ((S_.2.2.1 234 0 vx6_.toNat) ≤ x5_) := of_decide_eq_false cx8_
      refine sm_T_go 1 (c1 := (24, [some (.inr (.inr (some (13, 0)))), some (.inl c_), some (.inl n_), some (.inl g_), some (.inl x4_), some (.inl x5_)], [.inl x4_], S_)) rfl ?_
      refine sm_T_b0 (a := 1) (z := 24) rfl (fun cx9_ => ?_) (fun cx9_ => ?_)
      · have cx9_ : x4_ ≠ 0 := of_decide_eq_true cx9_
        refine sm_T_go 3 (c1 := (55, [some (.inr (.inr (some (13, 0)))), some (.inl c_), some (.inl n_), some (.inl g_), some (.inl 1), some (.inl x5_)], [], S_)) rfl ?_
        refine sm_T_inc (a := 5) (z := 1) (v := x5_) (w := x5_ + 1) rfl rfl (by omega) (by omega) (by omega) ?_ -- pc_ 55
        refine sm_T_go 1 (c1 := (6, [some (.inr (.inr (some (13, 0)))), some (.inl c_), some (.inl n_), some (.inl g_), some (.inl 1), some (.inl (x5_ + 1))], [], S_)) rfl ?_
        refine ih_ 1 (x5_ + 1) S_ hI_ hF_ ⟨?_, ?_, ?_, trivial⟩ ?_
        · omega
        · omega
        · first | rfl | exact hS_
        · omega
      · have cx9_ : ¬ (x4_ ≠ 0) := of_decide_eq_false cx9_
        refine sm_T_go 5 (c1 := (36, [some (.inr (.inr (some (13, 0)))), some (.inl c_), some (.inl n_), some (.inl g_), some (.inl x4_), some (.inl x5_)], [.inl c_, .inl 150, .inl 3, .inr (.inr (some (230, 0)))], S_)) rfl ?_
        refine sm_T_bin (w := 150 * c_) rfl (bi_mul (by omega) (by omega) (by omega)) ?_ -- pc_ 36
        refine sm_T_go 1 (c1 := (38, [some (.inr (.inr (some (13, 0)))), some (.inl c_), some (.inl n_), some (.inl g_), some (.inl x4_), some (.inl x5_)], [.inl g_, .inl (150 * c_), .inl 3, .inr (.inr (some (230, 0)))], S_)) rfl ?_
        refine sm_T_bin (w := 150 * c_ + g_) rfl (bi_add (by omega) (by omega) (by omega)) ?_ -- pc_ 38
        refine sm_T_bin (w := 450 * c_ + 3 * g_) rfl (bi_mul (by omega) (by omega) (by omega)) ?_ -- pc_ 39
        refine sm_T_go 1 (c1 := (42, [some (.inr (.inr (some (13, 0)))), some (.inl c_), some (.inl n_), some (.inl g_), some (.inl x4_), some (.inl x5_)], [.inl x5_, .inl (450 * c_ + 3 * g_), .inr (.inr (some (230, 0)))], S_)) rfl ?_
        refine sm_T_bin (w := 450 * c_ + 3 * g_ + x5_) rfl (bi_add (by omega) (by omega) (by omega)) ?_ -- pc_ 42
        refine sm_T_iald (n := 1800) rfl rfl (by omega) (by omega) ?_
        have bx10_ : (-1) ≤ S_.2.2.1 230 0 (450 * c_ + 3 * g_ + x5_).toNat ∧ S_.2.2.1 230 0 (450 * c_ + 3 * g_ + x5_).toNat ≤ 161 := hI_.2 230 0 _
        refine sm_T_go 1 (c1 := (45, [some (.inr (.inr (some (13, 0)))), some (.inl c_), some (.inl n_), some (.inl g_), some (.inl x4_), some (.inl x5_)], [.inl n_, .inl (S_.2.2.1 230 0 (450 * c_ + 3 * g_ + x5_).toNat)], S_)) rfl ?_
        refine sm_T_br (a := 1) (z := 7) rfl (fun cx11_ => ?_) (fun cx11_ => ?_)
        · have cx11_ : (S_.2.2.1 230 0 (450 * c_ + 3 * g_ + x5_).toNat) ≠ n_ := of_decide_eq_true cx11_
          refine sm_T_go 2 (c1 := (55, [some (.inr (.inr (some (13, 0)))), some (.inl c_), some (.inl n_), some (.inl g_), some (.inl 0), some (.inl x5_)], [], S_)) rfl ?_
          refine sm_T_inc (a := 5) (z := 1) (v := x5_) (w := x5_ + 1) rfl rfl (by omega) (by omega) (by omega) ?_ -- pc_ 55
          refine sm_T_go 1 (c1 := (6, [some (.inr (.inr (some (13, 0)))), some (.inl c_), some (.inl n_), some (.inl g_), some (.inl 0), some (.inl (x5_ + 1))], [], S_)) rfl ?_
          refine ih_ 0 (x5_ + 1) S_ hI_ hF_ ⟨?_, ?_, ?_, trivial⟩ ?_
          · omega
          · omega
          · first | rfl | exact hS_
          · omega
        · have cx11_ : ¬ ((S_.2.2.1 230 0 (450 * c_ + 3 * g_ + x5_).toNat) ≠ n_) := of_decide_eq_false cx11_
          refine sm_T_go 3 (c1 := (55, [some (.inr (.inr (some (13, 0)))), some (.inl c_), some (.inl n_), some (.inl g_), some (.inl 1), some (.inl x5_)], [], S_)) rfl ?_
          refine sm_T_inc (a := 5) (z := 1) (v := x5_) (w := x5_ + 1) rfl rfl (by omega) (by omega) (by omega) ?_ -- pc_ 55
          refine sm_T_go 1 (c1 := (6, [some (.inr (.inr (some (13, 0)))), some (.inl c_), some (.inl n_), some (.inl g_), some (.inl 1), some (.inl (x5_ + 1))], [], S_)) rfl ?_
          refine ih_ 1 (x5_ + 1) S_ hI_ hF_ ⟨?_, ?_, ?_, trivial⟩ ?_
          · omega
          · omega
          · first | rfl | exact hS_
          · omega
set_option maxHeartbeats 400000 in
set_option maxRecDepth 20000 in
theorem vc_501 {sc_ : Nat × (Nat → Int)} (c_ : Int) (n_ : Int) (g_ : Int) (S0_ : sm_S) (hI_ : gi S0_) (hc_ : 0 ≤ c_ ∧ c_ ≤ 3) (hn_ : 0 ≤ n_ ∧ n_ ≤ 166) (hg_ : 0 ≤ g_ ∧ g_ ≤ 149) : sm_T (mt_P sc_) 1 501 (0, [some (.inr (.inr (some (13, 0)))), some (.inl c_), some (.inl n_), some (.inl g_), none, none], [], S0_) (fun ro9_ => ∃ u_ S1_, ro9_ = (.inl u_, S1_, 0) ∧ vq_501 c_ n_ g_ S0_ u_ S1_) := by
  have hF_ : ai_fr (sx_W vw_501) S0_ S0_ := ai_fr_rf
  refine sm_T_go 4 (c1 := (6, [some (.inr (.inr (some (13, 0)))), some (.inl c_), some (.inl n_), some (.inl g_), some (.inl 0), some (.inl 0)], [], S0_)) rfl ?_
  refine (vl_501 c_ n_ g_ S0_ hc_ hn_ hg_ _) 0 0 S0_ hI_ hF_ ⟨?_, ?_, ?_, trivial⟩ (Nat.lt_succ_self _)
  · omega
  · omega
  · first | rfl | exact hS_
/-! M_.lengthOf -/
def vw_503 : sx_Wl := ([], [], [])
def vq_503 (s_ : Int) (e_ : Int) (i_ : Int) (S0_ : sm_S) (u_ : Option sm_V) (S1_ : sm_S) : Prop := S0_ = S1_ ∧ ∃ v_ : Int, u_ = some (.inl v_) ∧ (((-2147483648) ≤ v_ ∧ v_ ≤ 2147483647))
set_option maxHeartbeats 400000 in
set_option maxRecDepth 20000 in
theorem vc_503 {sc_ : Nat × (Nat → Int)} (s_ : Int) (e_ : Int) (i_ : Int) (S0_ : sm_S) (hI_ : gi S0_) (hs_ : 0 ≤ s_ ∧ s_ ≤ 167) (he_ : 0 ≤ e_ ∧ e_ ≤ 21) (hi_ : 0 ≤ i_ ∧ i_ ≤ 39) : sm_T (mt_P sc_) 0 503 (0, [some (.inr (.inr (some (13, 0)))), some (.inl s_), some (.inl e_), some (.inl i_)], [], S0_) (fun ro9_ => ∃ u_ S1_, ro9_ = (.inl u_, S1_, 0) ∧ vq_503 s_ e_ i_ S0_ u_ S1_) := by
  have hF_ : ai_fr (sx_W vw_503) S0_ S0_ := ai_fr_rf
  refine sm_T_go 3 (c1 := (5, [some (.inr (.inr (some (13, 0)))), some (.inl s_), some (.inl e_), some (.inl i_)], [.inl s_, .inr (.inr (some (270, 0)))], S0_)) rfl ?_
  refine sm_T_iald (n := 256) rfl rfl (by omega) (by omega) ?_
  have bx1_ : (-2147483648) ≤ S0_.2.2.1 270 0 s_.toNat ∧ S0_.2.2.1 270 0 s_.toNat ≤ 2147483647 := hI_.2 270 0 _
  refine sm_T_go 5 (c1 := (16, [some (.inr (.inr (some (13, 0)))), some (.inl s_), some (.inl e_), some (.inl i_)], [.inl e_, .inl 256, .inl 40, .inr (.inr (some (276, 0))), .inl (S0_.2.2.1 270 0 s_.toNat)], S0_)) rfl ?_
  refine sm_T_bin (w := 256 * e_) rfl (bi_mul (by omega) (by omega) (by omega)) ?_ -- pc_ 16
  refine sm_T_go 1 (c1 := (18, [some (.inr (.inr (some (13, 0)))), some (.inl s_), some (.inl e_), some (.inl i_)], [.inl s_, .inl (256 * e_), .inl 40, .inr (.inr (some (276, 0))), .inl (S0_.2.2.1 270 0 s_.toNat)], S0_)) rfl ?_
  refine sm_T_bin (w := 256 * e_ + s_) rfl (bi_add (by omega) (by omega) (by omega)) ?_ -- pc_ 18
  refine sm_T_bin (w := 10240 * e_ + 40 * s_) rfl (bi_mul (by omega) (by omega) (by omega)) ?_ -- pc_ 19
  refine sm_T_go 1 (c1 := (21, [some (.inr (.inr (some (13, 0)))), some (.inl s_), some (.inl e_), some (.inl i_)], [.inl i_, .inl (10240 * e_ + 40 * s_), .inr (.inr (some (276, 0))), .inl (S0_.2.2.1 270 0 s_.toNat)], S0_)) rfl ?_
  refine sm_T_bin (w := 10240 * e_ + 40 * s_ + i_) rfl (bi_add (by omega) (by omega) (by omega)) ?_ -- pc_ 21
  refine sm_T_iald (n := 225280) rfl rfl (by omega) (by omega) ?_
  have bx2_ : (-2147483648) ≤ S0_.2.2.1 276 0 (10240 * e_ + 40 * s_ + i_).toNat ∧ S0_.2.2.1 276 0 (10240 * e_ + 40 * s_ + i_).toNat ≤ 2147483647 := hI_.2 276 0 _
  refine sm_T_bin (w := (i_add (S0_.2.2.1 270 0 s_.toNat) (S0_.2.2.1 276 0 (10240 * e_ + 40 * s_ + i_).toNat))) rfl rfl ?_ -- pc_ 23
  have bx3_ := i_add_r (S0_.2.2.1 270 0 s_.toNat) (S0_.2.2.1 276 0 (10240 * e_ + 40 * s_ + i_).toNat)
  refine sm_T_ri rfl ⟨_, _, rfl, rfl, _, rfl, ?_⟩
  refine ⟨by omega, by omega⟩
/-! M_.findTails -/
def vw_502 : sx_Wl := ([], [275, 276, 277, 278, 279], [])
def vq_502 (c_ : Int) (e_ : Int) (net_ : Int) (S0_ : sm_S) (u_ : Option sm_V) (S1_ : sm_S) : Prop := u_ = none ∧ gi S1_ ∧ ai_fr (sx_W vw_502) S0_ S1_ ∧ (tok (S0_.2.2.1 223 0 c_.toNat + S0_.2.2.1 224 0 c_.toNat + S0_.2.2.1 228 0 c_.toNat) S1_ e_ net_ ∧ tfr (256 * e_ + net_) S0_ S1_)
set_option maxHeartbeats 4000000 in
set_option maxRecDepth 20000 in
theorem vl_502 {sc_ : Nat × (Nat → Int)} (c_ : Int) (e_ : Int) (net_ : Int) (S0_ : sm_S) (hc_ : 0 ≤ c_ ∧ c_ ≤ 3) (hx_ : S0_.2.2.1 223 0 c_.toNat + S0_.2.2.1 224 0 c_.toNat ≤ 12) (ho_ : con c_ S0_) (he_ : 0 ≤ e_ ∧ e_ ≤ 21) (hn_ : 0 ≤ net_ ∧ net_ < (S0_.2.2.1 223 0 c_.toNat + S0_.2.2.1 224 0 c_.toNat + S0_.2.2.1 228 0 c_.toNat)) (ht_ : ∀ n9_ : Int, net_ < n9_ → n9_ < (S0_.2.2.1 223 0 c_.toNat + S0_.2.2.1 224 0 c_.toNat + S0_.2.2.1 228 0 c_.toNat) → tok (S0_.2.2.1 223 0 c_.toNat + S0_.2.2.1 224 0 c_.toNat + S0_.2.2.1 228 0 c_.toNat) S0_ e_ n9_) : ∀ nn_ : Nat, (∀ (fi_ : Int) (ow_ : Int) (en_ : Int) (n_ : Int) (w_ : Int) (S_ : sm_S), gi S_ → ai_fr (sx_W vw_502) S0_ S_ → ((fi_ = S0_.2.2.1 223 0 c_.toNat + S0_.2.2.1 224 0 c_.toNat ∧ ow_ = 256 * e_ + net_ ∧ (en_ = 0 ∨ en_ = 1) ∧ n_ = 0 ∧ fi_ ≤ w_ ∧ w_ ≤ (S0_.2.2.1 223 0 c_.toNat + S0_.2.2.1 224 0 c_.toNat + S0_.2.2.1 228 0 c_.toNat)) ∧ (∀ x9_ : Int, fi_ ≤ x9_ → x9_ < w_ → 40 ≤ S_.2.2.1 279 0 x9_.toNat ∨ net_ < x9_) ∧ (tfr ow_ S0_ S_) ∧ (S_.2.2.1 275 0 = S0_.2.2.1 275 0) ∧ True) → ((900000 - w_).toNat) < nn_ → sm_T (mt_P sc_) 2 502 (48, [some (.inr (.inr (some (13, 0)))), some (.inl c_), some (.inl e_), some (.inl net_), some (.inl fi_), some (.inl ow_), some (.inl en_), some (.inl n_), some (.inl w_), none, none, none, none, none], [], S_) (fun ro9_ => ∃ u_ S1_, ro9_ = (.inl u_, S1_, 0) ∧ vq_502 c_ e_ net_ S0_ u_ S1_)) ∧ (∀ (fi_ : Int) (ow_ : Int) (en_ : Int) (n_ : Int) (mo_ : Int) (S_ : sm_S), gi S_ → ai_fr (sx_W vw_502) S0_ S_ → ((fi_ = S0_.2.2.1 223 0 c_.toNat + S0_.2.2.1 224 0 c_.toNat ∧ ow_ = 256 * e_ + net_ ∧ (en_ = 0 ∨ en_ = 1) ∧ 0 ≤ n_ ∧ n_ ≤ 40 ∧ (mo_ = 0 ∨ mo_ = 1)) ∧ (∀ x9_ : Int, fi_ ≤ x9_ → x9_ < (S0_.2.2.1 223 0 c_.toNat + S0_.2.2.1 224 0 c_.toNat + S0_.2.2.1 228 0 c_.toNat) → 40 ≤ S_.2.2.1 279 0 x9_.toNat ∨ net_ < x9_) ∧ (tfr ow_ S0_ S_) ∧ (∀ i9_ : Int, 0 ≤ i9_ → i9_ < n_ → tne (S0_.2.2.1 223 0 c_.toNat + S0_.2.2.1 224 0 c_.toNat + S0_.2.2.1 228 0 c_.toNat) net_ (S_.2.2.1 277 0 (10240 * e_ + 40 * net_ + i9_).toNat) (S_.2.2.1 278 0 (10240 * e_ + 40 * net_ + i9_).toNat) (fun x9_ => S0_.2.2.1 275 0 (256 * e_ + x9_).toNat)) ∧ (S_.2.2.1 275 0 = S0_.2.2.1 275 0) ∧ True) → ((2000 * (50 - n_) + 1000 * mo_).toNat) < nn_ → sm_T (mt_P sc_) 2 502 (100, [some (.inr (.inr (some (13, 0)))), some (.inl c_), some (.inl e_), some (.inl net_), some (.inl fi_), some (.inl ow_), some (.inl en_), some (.inl n_), some (.inl mo_), none, none, none, none, none], [], S_) (fun ro9_ => ∃ u_ S1_, ro9_ = (.inl u_, S1_, 0) ∧ vq_502 c_ e_ net_ S0_ u_ S1_)) ∧ (∀ (fi_ : Int) (ow_ : Int) (en_ : Int) (n_ : Int) (bs_ : Int) (b_ : Int) (w_ : Int) (S_ : sm_S), gi S_ → ai_fr (sx_W vw_502) S0_ S_ → ((fi_ = S0_.2.2.1 223 0 c_.toNat + S0_.2.2.1 224 0 c_.toNat ∧ ow_ = 256 * e_ + net_ ∧ (en_ = 0 ∨ en_ = 1) ∧ 0 ≤ n_ ∧ n_ < 40 ∧ fi_ - 1 ≤ w_ ∧ w_ < (S0_.2.2.1 223 0 c_.toNat + S0_.2.2.1 224 0 c_.toNat + S0_.2.2.1 228 0 c_.toNat) ∧ -2147483648 ≤ bs_ ∧ bs_ ≤ 2147483647) ∧ (∀ x9_ : Int, fi_ ≤ x9_ → x9_ < (S0_.2.2.1 223 0 c_.toNat + S0_.2.2.1 224 0 c_.toNat + S0_.2.2.1 228 0 c_.toNat) → 40 ≤ S_.2.2.1 279 0 x9_.toNat ∨ net_ < x9_) ∧ (tfr ow_ S0_ S_) ∧ (∀ i9_ : Int, 0 ≤ i9_ → i9_ < n_ → tne (S0_.2.2.1 223 0 c_.toNat + S0_.2.2.1 224 0 c_.toNat + S0_.2.2.1 228 0 c_.toNat) net_ (S_.2.2.1 277 0 (10240 * e_ + 40 * net_ + i9_).toNat) (S_.2.2.1 278 0 (10240 * e_ + 40 * net_ + i9_).toNat) (fun x9_ => S0_.2.2.1 275 0 (256 * e_ + x9_).toNat)) ∧ (b_ = -1 ∨ b_ = 10000 + e_ ∨ (net_ < b_ ∧ fi_ ≤ b_ ∧ b_ < (S0_.2.2.1 223 0 c_.toNat + S0_.2.2.1 224 0 c_.toNat + S0_.2.2.1 228 0 c_.toNat) ∧ S_.2.2.1 279 0 b_.toNat < 40 ∧ S_.2.2.1 279 0 b_.toNat < S_.2.2.1 275 0 (256 * e_ + b_).toNat)) ∧ (S_.2.2.1 275 0 = S0_.2.2.1 275 0) ∧ True) → ((2000 * (50 - n_) + w_ + 10).toNat) < nn_ → sm_T (mt_P sc_) 2 502 (163, [some (.inr (.inr (some (13, 0)))), some (.inl c_), some (.inl e_), some (.inl net_), some (.inl fi_), some (.inl ow_), some (.inl en_), some (.inl n_), none, some (.inl bs_), some (.inl b_), some (.inl w_), none, none], [], S_) (fun ro9_ => ∃ u_ S1_, ro9_ = (.inl u_, S1_, 0) ∧ vq_502 c_ e_ net_ S0_ u_ S1_)) := by
  intro nn_
  induction nn_ with
  | zero => exact ⟨fun _ _ _ _ _ _ _ _ _ h_ => absurd h_ (Nat.not_lt_zero _), fun _ _ _ _ _ _ _ _ _ h_ => absurd h_ (Nat.not_lt_zero _), fun _ _ _ _ _ _ _ _ _ _ _ h_ => absurd h_ (Nat.not_lt_zero _)⟩
  | succ nn_ ih_ =>
    refine ⟨?_, ?_, ?_⟩
    · rintro fi_ ow_ en_ n_ w_ S_ hI_ hF_ ⟨h0_, hp_, hf_, h4_, -⟩ hm_
      have f223_ : S_.2.2.1 223 0 = S0_.2.2.1 223 0 := fr_arr hF_ rfl
      have f224_ : S_.2.2.1 224 0 = S0_.2.2.1 224 0 := fr_arr hF_ rfl
      have f225_ : S_.2.2.1 225 0 = S0_.2.2.1 225 0 := fr_arr hF_ rfl
      have f228_ : S_.2.2.1 228 0 = S0_.2.2.1 228 0 := fr_arr hF_ rfl
      have x223_ : S_.2.2.1 223 0 c_.toNat = S0_.2.2.1 223 0 c_.toNat := congrFun f223_ _
      have x224_ : S_.2.2.1 224 0 c_.toNat = S0_.2.2.1 224 0 c_.toNat := congrFun f224_ _
      have x225_ : S_.2.2.1 225 0 c_.toNat = S0_.2.2.1 225 0 c_.toNat := congrFun f225_ _
      have x228_ : S_.2.2.1 228 0 c_.toNat = S0_.2.2.1 228 0 c_.toNat := congrFun f228_ _
      have cA_ : 0 ≤ S_.2.2.1 223 0 c_.toNat ∧ S_.2.2.1 223 0 c_.toNat ≤ 12 := hI_.2 223 0 _
      have cB_ : 0 ≤ S_.2.2.1 224 0 c_.toNat ∧ S_.2.2.1 224 0 c_.toNat ≤ 6 := hI_.2 224 0 _
      have cG_ : 0 ≤ S_.2.2.1 228 0 c_.toNat ∧ S_.2.2.1 228 0 c_.toNat ≤ 150 := hI_.2 228 0 _
      have cO_ : 0 ≤ S_.2.2.1 225 0 c_.toNat ∧ S_.2.2.1 225 0 c_.toNat ≤ 16 := hI_.2 225 0 _
      refine sm_T_go 3 (c1 := (52, [some (.inr (.inr (some (13, 0)))), some (.inl c_), some (.inl e_), some (.inl net_), some (.inl fi_), some (.inl ow_), some (.inl en_), some (.inl n_), some (.inl w_), none, none, none, none, none], [.inl c_, .inr (.inr (some (13, 0))), .inl w_], S_)) rfl ?_
      refine sm_T_cal (d1 := 0) (Q1 := vq_422 c_ S_) rfl rfl (by decide) (vc_422 c_ S_ hI_ (by omega)) (fun u_ Sx1_ px4_ => ?_)
      obtain ⟨rfl, vx6_, rfl, px4_⟩ := px4_
      refine sm_T_br (a := 3) (z := 42) rfl (fun cx7_ => ?_) (fun cx7_ => ?_)
      · have cx7_ : vx6_ ≤ w_ := of_decide_eq_true cx7_
        refine sm_T_go 2 (c1 := (100, [some (.inr (.inr (some (13, 0)))), some (.inl c_), some (.inl e_), some (.inl net_), some (.inl fi_), some (.inl ow_), some (.inl en_), some (.inl n_), some (.inl 1), none, none, none, none, none], [], S_)) rfl ?_
        refine ih_.2.1 fi_ ow_ en_ n_ 1 S_ hI_ hF_ ⟨?_, ?_, ?_, ?_, ?_, trivial⟩ ?_
        · omega
        · (intro x9_ u0_ u1_; exact hp_ x9_ u0_ (by omega))
        · exact hf_
        · (intro i9_ u0_ u1_; exfalso; omega)
        · first | exact h4_ | (funext j9_; have y9_ := congrFun h4_ j9_; (try simp only [rd_eq, rd_ne, rf_eq, rf_nk, rf_nt, rd_fa, rd_af, rd_fl, rd_al, rd_lf, rd_la, rd_leq, rd_lne, rd_fr, rd_ar, ne_eq, Nat.reduceEqDiff, not_false_eq_true]); exact y9_)
        · omega
      · have cx7_ : ¬ (vx6_ ≤ w_) := of_decide_eq_false cx7_
        refine sm_T_go 5 (c1 := (67, [some (.inr (.inr (some (13, 0)))), some (.inl c_), some (.inl e_), some (.inl net_), some (.inl fi_), some (.inl ow_), some (.inl en_), some (.inl n_), some (.inl w_), none, none, none, none, none], [.inl net_, .inl w_, .inl w_, .inr (.inr (some (279, 0)))], S_)) rfl ?_
        refine sm_T_br (a := 5) (z := 21) rfl (fun cx8_ => ?_) (fun cx8_ => ?_)
        · have cx8_ : w_ ≤ net_ := of_decide_eq_true cx8_
          refine sm_T_go 1 (c1 := (90, [some (.inr (.inr (some (13, 0)))), some (.inl c_), some (.inl e_), some (.inl net_), some (.inl fi_), some (.inl ow_), some (.inl en_), some (.inl n_), some (.inl w_), none, none, none, none, none], [.inl 40, .inl w_, .inr (.inr (some (279, 0)))], S_)) rfl ?_
          refine sm_T_iast (n := 256) rfl rfl (by omega) (by omega) ?_
          have hIx9_ : gi (sm_aI S_ 279 0 w_.toNat 40) := gi_aI hI_ (show 0 ≤ 40 ∧ 40 ≤ 42 from ⟨by omega, by omega⟩)
          have hFx10_ : ai_fr (sx_W vw_502) S0_ (sm_aI S_ 279 0 w_.toNat 40) := ai_fr_tr hF_ (ai_fr_aI rfl)
          refine sm_T_inc (a := 8) (z := 1) (v := w_) (w := w_ + 1) rfl rfl (by omega) (by omega) (by omega) ?_ -- pc_ 91
          refine sm_T_go 1 (c1 := (48, [some (.inr (.inr (some (13, 0)))), some (.inl c_), some (.inl e_), some (.inl net_), some (.inl fi_), some (.inl ow_), some (.inl en_), some (.inl n_), some (.inl (w_ + 1)), none, none, none, none, none], [], sm_aI S_ 279 0 w_.toNat 40)) rfl ?_
          refine ih_.1 fi_ ow_ en_ n_ (w_ + 1) (sm_aI S_ 279 0 w_.toNat 40) hIx9_ hFx10_ ⟨?_, ?_, ?_, ?_, trivial⟩ ?_
          · omega
          · intro x9_ u0_ u1_
            rw [rd_eq]
            by_cases z9_ : x9_.toNat = w_.toNat
            · rw [if_pos z9_]; first | exact Or.inl (by decide) | exact Or.inr (by omega)
            · rw [if_neg z9_]; exact hp_ x9_ u0_ (by omega)
          · exact tfr_tr hf_ (tfr_fr (w_ := ([], [279], [])) (ai_fr_aI rfl))
          · first | exact h4_ | (funext j9_; have y9_ := congrFun h4_ j9_; (try simp only [rd_eq, rd_ne, rf_eq, rf_nk, rf_nt, rd_fa, rd_af, rd_fl, rd_al, rd_lf, rd_la, rd_leq, rd_lne, rd_fr, rd_ar, ne_eq, Nat.reduceEqDiff, not_false_eq_true]); exact y9_)
          · omega
        · have cx8_ : ¬ (w_ ≤ net_) := of_decide_eq_false cx8_
          refine sm_T_go 5 (c1 := (77, [some (.inr (.inr (some (13, 0)))), some (.inl c_), some (.inl e_), some (.inl net_), some (.inl fi_), some (.inl ow_), some (.inl en_), some (.inl n_), some (.inl w_), none, none, none, none, none], [.inl fi_, .inl w_, .inl net_, .inl c_, .inr (.inr (some (13, 0))), .inl w_, .inr (.inr (some (279, 0)))], S_)) rfl ?_
          refine sm_T_bin (w := w_ - fi_) rfl (bi_sub (by omega) (by omega) (by omega)) ?_ -- pc_ 77
          refine sm_T_cal (d1 := 1) (Q1 := vq_501 c_ net_ (w_ - fi_) S_) rfl rfl (by decide) (vc_501 c_ net_ (w_ - fi_) S_ hI_ (by omega) (by omega) (by omega)) (fun u_ Sx11_ px14_ => ?_)
          obtain ⟨rfl, vx16_, rfl, px14_⟩ := px14_
          refine sm_T_b0 (a := 0) (z := 7) rfl (fun cx17_ => ?_) (fun cx17_ => ?_)
          · have cx17_ : vx16_ = 0 := of_decide_eq_true cx17_
            refine sm_T_go 1 (c1 := (90, [some (.inr (.inr (some (13, 0)))), some (.inl c_), some (.inl e_), some (.inl net_), some (.inl fi_), some (.inl ow_), some (.inl en_), some (.inl n_), some (.inl w_), none, none, none, none, none], [.inl 40, .inl w_, .inr (.inr (some (279, 0)))], S_)) rfl ?_
            refine sm_T_iast (n := 256) rfl rfl (by omega) (by omega) ?_
            have hIx18_ : gi (sm_aI S_ 279 0 w_.toNat 40) := gi_aI hI_ (show 0 ≤ 40 ∧ 40 ≤ 42 from ⟨by omega, by omega⟩)
            have hFx19_ : ai_fr (sx_W vw_502) S0_ (sm_aI S_ 279 0 w_.toNat 40) := ai_fr_tr hF_ (ai_fr_aI rfl)
            refine sm_T_inc (a := 8) (z := 1) (v := w_) (w := w_ + 1) rfl rfl (by omega) (by omega) (by omega) ?_ -- pc_ 91
            refine sm_T_go 1 (c1 := (48, [some (.inr (.inr (some (13, 0)))), some (.inl c_), some (.inl e_), some (.inl net_), some (.inl fi_), some (.inl ow_), some (.inl en_), some (.inl n_), some (.inl (w_ + 1)), none, none, none, none, none], [], sm_aI S_ 279 0 w_.toNat 40)) rfl ?_
            refine ih_.1 fi_ ow_ en_ n_ (w_ + 1) (sm_aI S_ 279 0 w_.toNat 40) hIx18_ hFx19_ ⟨?_, ?_, ?_, ?_, trivial⟩ ?_
            · omega
            · intro x9_ u0_ u1_
              rw [rd_eq]
              by_cases z9_ : x9_.toNat = w_.toNat
              · rw [if_pos z9_]; first | exact Or.inl (by decide) | exact Or.inr (by omega)
              · rw [if_neg z9_]; exact hp_ x9_ u0_ (by omega)
            · exact tfr_tr hf_ (tfr_fr (w_ := ([], [279], [])) (ai_fr_aI rfl))
            · first | exact h4_ | (funext j9_; have y9_ := congrFun h4_ j9_; (try simp only [rd_eq, rd_ne, rf_eq, rf_nk, rf_nt, rd_fa, rd_af, rd_fl, rd_al, rd_lf, rd_la, rd_leq, rd_lne, rd_fr, rd_ar, ne_eq, Nat.reduceEqDiff, not_false_eq_true]); exact y9_)
            · omega
          · have cx17_ : ¬ (vx16_ = 0) := of_decide_eq_false cx17_
            refine sm_T_go 2 (c1 := (90, [some (.inr (.inr (some (13, 0)))), some (.inl c_), some (.inl e_), some (.inl net_), some (.inl fi_), some (.inl ow_), some (.inl en_), some (.inl n_), some (.inl w_), none, none, none, none, none], [.inl 0, .inl w_, .inr (.inr (some (279, 0)))], S_)) rfl ?_
            refine sm_T_iast (n := 256) rfl rfl (by omega) (by omega) ?_
            have hIx20_ : gi (sm_aI S_ 279 0 w_.toNat 0) := gi_aI hI_ (show 0 ≤ 0 ∧ 0 ≤ 42 from ⟨by omega, by omega⟩)
            have hFx21_ : ai_fr (sx_W vw_502) S0_ (sm_aI S_ 279 0 w_.toNat 0) := ai_fr_tr hF_ (ai_fr_aI rfl)
            refine sm_T_inc (a := 8) (z := 1) (v := w_) (w := w_ + 1) rfl rfl (by omega) (by omega) (by omega) ?_ -- pc_ 91
            refine sm_T_go 1 (c1 := (48, [some (.inr (.inr (some (13, 0)))), some (.inl c_), some (.inl e_), some (.inl net_), some (.inl fi_), some (.inl ow_), some (.inl en_), some (.inl n_), some (.inl (w_ + 1)), none, none, none, none, none], [], sm_aI S_ 279 0 w_.toNat 0)) rfl ?_
            refine ih_.1 fi_ ow_ en_ n_ (w_ + 1) (sm_aI S_ 279 0 w_.toNat 0) hIx20_ hFx21_ ⟨?_, ?_, ?_, ?_, trivial⟩ ?_
            · omega
            · intro x9_ u0_ u1_
              rw [rd_eq]
              by_cases z9_ : x9_.toNat = w_.toNat
              · rw [if_pos z9_]; first | exact Or.inl (by decide) | exact Or.inr (by omega)
              · rw [if_neg z9_]; exact hp_ x9_ u0_ (by omega)
            · exact tfr_tr hf_ (tfr_fr (w_ := ([], [279], [])) (ai_fr_aI rfl))
            · first | exact h4_ | (funext j9_; have y9_ := congrFun h4_ j9_; (try simp only [rd_eq, rd_ne, rf_eq, rf_nk, rf_nt, rd_fa, rd_af, rd_fl, rd_al, rd_lf, rd_la, rd_leq, rd_lne, rd_fr, rd_ar, ne_eq, Nat.reduceEqDiff, not_false_eq_true]); exact y9_)
            · omega
    · rintro fi_ ow_ en_ n_ mo_ S_ hI_ hF_ ⟨h0_, hp_, hf_, hz_, h4_, -⟩ hm_
      have f223_ : S_.2.2.1 223 0 = S0_.2.2.1 223 0 := fr_arr hF_ rfl
      have f224_ : S_.2.2.1 224 0 = S0_.2.2.1 224 0 := fr_arr hF_ rfl
      have f225_ : S_.2.2.1 225 0 = S0_.2.2.1 225 0 := fr_arr hF_ rfl
      have f228_ : S_.2.2.1 228 0 = S0_.2.2.1 228 0 := fr_arr hF_ rfl
      have x223_ : S_.2.2.1 223 0 c_.toNat = S0_.2.2.1 223 0 c_.toNat := congrFun f223_ _
      have x224_ : S_.2.2.1 224 0 c_.toNat = S0_.2.2.1 224 0 c_.toNat := congrFun f224_ _
      have x225_ : S_.2.2.1 225 0 c_.toNat = S0_.2.2.1 225 0 c_.toNat := congrFun f225_ _
      have x228_ : S_.2.2.1 228 0 c_.toNat = S0_.2.2.1 228 0 c_.toNat := congrFun f228_ _
      have cA_ : 0 ≤ S_.2.2.1 223 0 c_.toNat ∧ S_.2.2.1 223 0 c_.toNat ≤ 12 := hI_.2 223 0 _
      have cB_ : 0 ≤ S_.2.2.1 224 0 c_.toNat ∧ S_.2.2.1 224 0 c_.toNat ≤ 6 := hI_.2 224 0 _
      have cG_ : 0 ≤ S_.2.2.1 228 0 c_.toNat ∧ S_.2.2.1 228 0 c_.toNat ≤ 150 := hI_.2 228 0 _
      have cO_ : 0 ≤ S_.2.2.1 225 0 c_.toNat ∧ S_.2.2.1 225 0 c_.toNat ≤ 16 := hI_.2 225 0 _
      refine sm_T_go 2 (c1 := (104, [some (.inr (.inr (some (13, 0)))), some (.inl c_), some (.inl e_), some (.inl net_), some (.inl fi_), some (.inl ow_), some (.inl en_), some (.inl n_), some (.inl mo_), none, none, none, none, none], [.inl 40, .inl n_], S_)) rfl ?_
      refine sm_T_br (a := 3) (z := 296) rfl (fun cx1_ => ?_) (fun cx1_ => ?_)
      · have cx1_ : 40 ≤ n_ := of_decide_eq_true cx1_
        refine sm_T_go 4 (c1 := (408, [some (.inr (.inr (some (13, 0)))), some (.inl c_), some (.inl e_), some (.inl net_), some (.inl fi_), some (.inl ow_), some (.inl en_), some (.inl n_), some (.inl mo_), none, none, none, none, none], [.inl n_, .inl ow_, .inr (.inr (some (275, 0)))], S_)) rfl ?_
        refine sm_T_iast (n := 5632) rfl rfl (by omega) (by omega) ?_
        have hIx2_ : gi (sm_aI S_ 275 0 ow_.toNat n_) := gi_aI hI_ (show 0 ≤ n_ ∧ n_ ≤ 40 from ⟨by omega, by omega⟩)
        have hFx3_ : ai_fr (sx_W vw_502) S0_ (sm_aI S_ 275 0 ow_.toNat n_) := ai_fr_tr hF_ (ai_fr_aI rfl)
        refine sm_T_rv rfl ⟨_, _, rfl, rfl, hIx2_, hFx3_, ?_⟩
        constructor
        · intro i9_ u0_ u1_
          rw [rd_eq, if_pos (by omega)] at u1_
          obtain ⟨w1_, w2_⟩ := hz_ i9_ u0_ u1_
          rw [rd_ne (by decide), rd_ne (by decide)]
          refine ⟨w1_, ?_⟩
          rcases w2_ with w2_ | w2_
          · exact Or.inl w2_
          · right
            refine ⟨w2_.1, ?_⟩
            show _ < (sm_aI S_ 275 0 ow_.toNat n_).2.2.1 275 0 _
            rw [rd_eq, if_neg (by omega), h4_]
            exact w2_.2
        · rw [show 256 * e_ + net_ = ow_ by omega]
          exact tfr_tr hf_ ⟨fun j9_ h9_ => by rw [rd_eq, if_neg h9_], fun j9_ _ => ⟨rd_ne (by decide), rd_ne (by decide)⟩⟩
      · have cx1_ : ¬ (40 ≤ n_) := of_decide_eq_false cx1_
        refine sm_T_go 1 (c1 := (109, [some (.inr (.inr (some (13, 0)))), some (.inl c_), some (.inl e_), some (.inl net_), some (.inl fi_), some (.inl ow_), some (.inl en_), some (.inl n_), some (.inl mo_), none, none, none, none, none], [.inl mo_], S_)) rfl ?_
        refine sm_T_b0 (a := 0) (z := 291) rfl (fun cx4_ => ?_) (fun cx4_ => ?_)
        · have cx4_ : mo_ = 0 := of_decide_eq_true cx4_
          refine sm_T_go 4 (c1 := (408, [some (.inr (.inr (some (13, 0)))), some (.inl c_), some (.inl e_), some (.inl net_), some (.inl fi_), some (.inl ow_), some (.inl en_), some (.inl n_), some (.inl mo_), none, none, none, none, none], [.inl n_, .inl ow_, .inr (.inr (some (275, 0)))], S_)) rfl ?_
          refine sm_T_iast (n := 5632) rfl rfl (by omega) (by omega) ?_
          have hIx5_ : gi (sm_aI S_ 275 0 ow_.toNat n_) := gi_aI hI_ (show 0 ≤ n_ ∧ n_ ≤ 40 from ⟨by omega, by omega⟩)
          have hFx6_ : ai_fr (sx_W vw_502) S0_ (sm_aI S_ 275 0 ow_.toNat n_) := ai_fr_tr hF_ (ai_fr_aI rfl)
          refine sm_T_rv rfl ⟨_, _, rfl, rfl, hIx5_, hFx6_, ?_⟩
          constructor
          · intro i9_ u0_ u1_
            rw [rd_eq, if_pos (by omega)] at u1_
            obtain ⟨w1_, w2_⟩ := hz_ i9_ u0_ u1_
            rw [rd_ne (by decide), rd_ne (by decide)]
            refine ⟨w1_, ?_⟩
            rcases w2_ with w2_ | w2_
            · exact Or.inl w2_
            · right
              refine ⟨w2_.1, ?_⟩
              show _ < (sm_aI S_ 275 0 ow_.toNat n_).2.2.1 275 0 _
              rw [rd_eq, if_neg (by omega), h4_]
              exact w2_.2
          · rw [show 256 * e_ + net_ = ow_ by omega]
            exact tfr_tr hf_ ⟨fun j9_ h9_ => by rw [rd_eq, if_neg h9_], fun j9_ _ => ⟨rd_ne (by decide), rd_ne (by decide)⟩⟩
        · have cx4_ : ¬ (mo_ = 0) := of_decide_eq_false cx4_
          refine sm_T_go 1 (c1 := (114, [some (.inr (.inr (some (13, 0)))), some (.inl c_), some (.inl e_), some (.inl net_), some (.inl fi_), some (.inl ow_), some (.inl en_), some (.inl n_), some (.inl mo_), none, none, none, none, none], [.inl en_], S_)) rfl ?_
          refine sm_T_b0 (a := 0) (z := 21) rfl (fun cx7_ => ?_) (fun cx7_ => ?_)
          · have cx7_ : en_ = 0 := of_decide_eq_true cx7_
            refine sm_T_go 3 (c1 := (140, [some (.inr (.inr (some (13, 0)))), some (.inl c_), some (.inl e_), some (.inl net_), some (.inl fi_), some (.inl ow_), some (.inl en_), some (.inl n_), some (.inl mo_), some (.inl (-1)), none, none, none, none], [.inl en_], S_)) rfl ?_
            refine sm_T_b0 (a := 0) (z := 11) rfl (fun cx8_ => ?_) (fun cx8_ => ?_)
            · have cx8_ : en_ = 0 := of_decide_eq_true cx8_
              refine sm_T_go 4 (c1 := (156, [some (.inr (.inr (some (13, 0)))), some (.inl c_), some (.inl e_), some (.inl net_), some (.inl fi_), some (.inl ow_), some (.inl en_), some (.inl n_), some (.inl mo_), some (.inl (-1)), some (.inl (-1)), none, none, none], [.inl c_, .inr (.inr (some (13, 0)))], S_)) rfl ?_
              refine sm_T_cal (d1 := 0) (Q1 := vq_422 c_ S_) rfl rfl (by decide) (vc_422 c_ S_ hI_ (by omega)) (fun u_ Sx9_ px12_ => ?_)
              obtain ⟨rfl, vx14_, rfl, px12_⟩ := px12_
              refine sm_T_go 1 (c1 := (160, [some (.inr (.inr (some (13, 0)))), some (.inl c_), some (.inl e_), some (.inl net_), some (.inl fi_), some (.inl ow_), some (.inl en_), some (.inl n_), some (.inl mo_), some (.inl (-1)), some (.inl (-1)), none, none, none], [.inl 1, .inl vx14_], S_)) rfl ?_
              refine sm_T_bin (w := vx14_ - 1) rfl (bi_sub (by omega) (by omega) (by omega)) ?_ -- pc_ 160
              refine sm_T_go 1 (c1 := (163, [some (.inr (.inr (some (13, 0)))), some (.inl c_), some (.inl e_), some (.inl net_), some (.inl fi_), some (.inl ow_), some (.inl en_), some (.inl n_), some (.inl mo_), some (.inl (-1)), some (.inl (-1)), some (.inl (vx14_ - 1)), none, none], [], S_)) rfl ?_
              refine sm_T_wk [some (.inr (.inr (some (13, 0)))), some (.inl c_), some (.inl e_), some (.inl net_), some (.inl fi_), some (.inl ow_), some (.inl en_), some (.inl n_), none, some (.inl (-1)), some (.inl (-1)), some (.inl (vx14_ - 1)), none, none] (by exact ⟨rfl, rfl, rfl, rfl, rfl, rfl, rfl, rfl, rfl, rfl, rfl, trivial⟩) ?_
              refine ih_.2.2 fi_ ow_ en_ n_ (-1) (-1) (vx14_ - 1) S_ hI_ hF_ ⟨?_, ?_, ?_, ?_, ?_, ?_, trivial⟩ ?_
              · omega
              · exact hp_
              · exact hf_
              · exact hz_
              · omega
              · first | exact h4_ | (funext j9_; have y9_ := congrFun h4_ j9_; (try simp only [rd_eq, rd_ne, rf_eq, rf_nk, rf_nt, rd_fa, rd_af, rd_fl, rd_al, rd_lf, rd_la, rd_leq, rd_lne, rd_fr, rd_ar, ne_eq, Nat.reduceEqDiff, not_false_eq_true]); exact y9_)
              · omega
            · have cx8_ : ¬ (en_ = 0) := of_decide_eq_false cx8_
              exfalso; omega
          · have cx7_ : ¬ (en_ = 0) := of_decide_eq_false cx7_
            refine sm_T_go 4 (c1 := (123, [some (.inr (.inr (some (13, 0)))), some (.inl c_), some (.inl e_), some (.inl net_), some (.inl fi_), some (.inl ow_), some (.inl en_), some (.inl n_), some (.inl mo_), none, none, none, none, none], [.inl c_, .inr (.inr (some (225, 0))), .inl e_], S_)) rfl ?_
            refine sm_T_iald (n := 4) rfl rfl (by omega) (by omega) ?_
            have bx15_ : 0 ≤ S_.2.2.1 225 0 c_.toNat ∧ S_.2.2.1 225 0 c_.toNat ≤ 16 := hI_.2 225 0 _
            refine sm_T_br (a := 3) (z := 7) rfl (fun cx16_ => ?_) (fun cx16_ => ?_)
            · have cx16_ : (S_.2.2.1 225 0 c_.toNat) ≤ e_ := of_decide_eq_true cx16_
              refine sm_T_go 4 (c1 := (140, [some (.inr (.inr (some (13, 0)))), some (.inl c_), some (.inl e_), some (.inl net_), some (.inl fi_), some (.inl ow_), some (.inl en_), some (.inl n_), some (.inl mo_), some (.inl 2), none, none, none, none], [.inl en_], S_)) rfl ?_
              refine sm_T_b0 (a := 0) (z := 11) rfl (fun cx17_ => ?_) (fun cx17_ => ?_)
              · have cx17_ : en_ = 0 := of_decide_eq_true cx17_
                refine sm_T_go 4 (c1 := (156, [some (.inr (.inr (some (13, 0)))), some (.inl c_), some (.inl e_), some (.inl net_), some (.inl fi_), some (.inl ow_), some (.inl en_), some (.inl n_), some (.inl mo_), some (.inl 2), some (.inl (-1)), none, none, none], [.inl c_, .inr (.inr (some (13, 0)))], S_)) rfl ?_
                refine sm_T_cal (d1 := 0) (Q1 := vq_422 c_ S_) rfl rfl (by decide) (vc_422 c_ S_ hI_ (by omega)) (fun u_ Sx18_ px21_ => ?_)
                obtain ⟨rfl, vx23_, rfl, px21_⟩ := px21_
                refine sm_T_go 1 (c1 := (160, [some (.inr (.inr (some (13, 0)))), some (.inl c_), some (.inl e_), some (.inl net_), some (.inl fi_), some (.inl ow_), some (.inl en_), some (.inl n_), some (.inl mo_), some (.inl 2), some (.inl (-1)), none, none, none], [.inl 1, .inl vx23_], S_)) rfl ?_
                refine sm_T_bin (w := vx23_ - 1) rfl (bi_sub (by omega) (by omega) (by omega)) ?_ -- pc_ 160
                refine sm_T_go 1 (c1 := (163, [some (.inr (.inr (some (13, 0)))), some (.inl c_), some (.inl e_), some (.inl net_), some (.inl fi_), some (.inl ow_), some (.inl en_), some (.inl n_), some (.inl mo_), some (.inl 2), some (.inl (-1)), some (.inl (vx23_ - 1)), none, none], [], S_)) rfl ?_
                refine sm_T_wk [some (.inr (.inr (some (13, 0)))), some (.inl c_), some (.inl e_), some (.inl net_), some (.inl fi_), some (.inl ow_), some (.inl en_), some (.inl n_), none, some (.inl 2), some (.inl (-1)), some (.inl (vx23_ - 1)), none, none] (by exact ⟨rfl, rfl, rfl, rfl, rfl, rfl, rfl, rfl, rfl, rfl, rfl, trivial⟩) ?_
                refine ih_.2.2 fi_ ow_ en_ n_ 2 (-1) (vx23_ - 1) S_ hI_ hF_ ⟨?_, ?_, ?_, ?_, ?_, ?_, trivial⟩ ?_
                · omega
                · exact hp_
                · exact hf_
                · exact hz_
                · omega
                · first | exact h4_ | (funext j9_; have y9_ := congrFun h4_ j9_; (try simp only [rd_eq, rd_ne, rf_eq, rf_nk, rf_nt, rd_fa, rd_af, rd_fl, rd_al, rd_lf, rd_la, rd_leq, rd_lne, rd_fr, rd_ar, ne_eq, Nat.reduceEqDiff, not_false_eq_true]); exact y9_)
                · omega
              · have cx17_ : ¬ (en_ = 0) := of_decide_eq_false cx17_
                refine sm_T_go 2 (c1 := (147, [some (.inr (.inr (some (13, 0)))), some (.inl c_), some (.inl e_), some (.inl net_), some (.inl fi_), some (.inl ow_), some (.inl en_), some (.inl n_), some (.inl mo_), some (.inl 2), none, none, none, none], [.inl e_, .inl 10000], S_)) rfl ?_
                refine sm_T_bin (w := e_ + 10000) rfl (bi_add (by omega) (by omega) (by omega)) ?_ -- pc_ 147
                refine sm_T_go 4 (c1 := (156, [some (.inr (.inr (some (13, 0)))), some (.inl c_), some (.inl e_), some (.inl net_), some (.inl fi_), some (.inl ow_), some (.inl en_), some (.inl n_), some (.inl mo_), some (.inl 2), some (.inl (e_ + 10000)), none, none, none], [.inl c_, .inr (.inr (some (13, 0)))], S_)) rfl ?_
                refine sm_T_cal (d1 := 0) (Q1 := vq_422 c_ S_) rfl rfl (by decide) (vc_422 c_ S_ hI_ (by omega)) (fun u_ Sx24_ px27_ => ?_)
                obtain ⟨rfl, vx29_, rfl, px27_⟩ := px27_
                refine sm_T_go 1 (c1 := (160, [some (.inr (.inr (some (13, 0)))), some (.inl c_), some (.inl e_), some (.inl net_), some (.inl fi_), some (.inl ow_), some (.inl en_), some (.inl n_), some (.inl mo_), some (.inl 2), some (.inl (e_ + 10000)), none, none, none], [.inl 1, .inl vx29_], S_)) rfl ?_
                refine sm_T_bin (w := vx29_ - 1) rfl (bi_sub (by omega) (by omega) (by omega)) ?_ -- pc_ 160
                refine sm_T_go 1 (c1 := (163, [some (.inr (.inr (some (13, 0)))), some (.inl c_), some (.inl e_), some (.inl net_), some (.inl fi_), some (.inl ow_), some (.inl en_), some (.inl n_), some (.inl mo_), some (.inl 2), some (.inl (e_ + 10000)), some (.inl (vx29_ - 1)), none, none], [], S_)) rfl ?_
                refine sm_T_wk [some (.inr (.inr (some (13, 0)))), some (.inl c_), some (.inl e_), some (.inl net_), some (.inl fi_), some (.inl ow_), some (.inl en_), some (.inl n_), none, some (.inl 2), some (.inl (e_ + 10000)), some (.inl (vx29_ - 1)), none, none] (by exact ⟨rfl, rfl, rfl, rfl, rfl, rfl, rfl, rfl, rfl, rfl, rfl, trivial⟩) ?_
                refine ih_.2.2 fi_ ow_ en_ n_ 2 (e_ + 10000) (vx29_ - 1) S_ hI_ hF_ ⟨?_, ?_, ?_, ?_, ?_, ?_, trivial⟩ ?_
                · omega
                · exact hp_
                · exact hf_
                · exact hz_
                · omega
                · first | exact h4_ | (funext j9_; have y9_ := congrFun h4_ j9_; (try simp only [rd_eq, rd_ne, rf_eq, rf_nk, rf_nt, rd_fa, rd_af, rd_fl, rd_al, rd_lf, rd_la, rd_leq, rd_lne, rd_fr, rd_ar, ne_eq, Nat.reduceEqDiff, not_false_eq_true]); exact y9_)
                · omega
            · have cx16_ : ¬ ((S_.2.2.1 225 0 c_.toNat) ≤ e_) := of_decide_eq_false cx16_
              refine sm_T_go 4 (c1 := (140, [some (.inr (.inr (some (13, 0)))), some (.inl c_), some (.inl e_), some (.inl net_), some (.inl fi_), some (.inl ow_), some (.inl en_), some (.inl n_), some (.inl mo_), some (.inl 0), none, none, none, none], [.inl en_], S_)) rfl ?_
              refine sm_T_b0 (a := 0) (z := 11) rfl (fun cx30_ => ?_) (fun cx30_ => ?_)
              · have cx30_ : en_ = 0 := of_decide_eq_true cx30_
                refine sm_T_go 4 (c1 := (156, [some (.inr (.inr (some (13, 0)))), some (.inl c_), some (.inl e_), some (.inl net_), some (.inl fi_), some (.inl ow_), some (.inl en_), some (.inl n_), some (.inl mo_), some (.inl 0), some (.inl (-1)), none, none, none], [.inl c_, .inr (.inr (some (13, 0)))], S_)) rfl ?_
                refine sm_T_cal (d1 := 0) (Q1 := vq_422 c_ S_) rfl rfl (by decide) (vc_422 c_ S_ hI_ (by omega)) (fun u_ Sx31_ px34_ => ?_)
                obtain ⟨rfl, vx36_, rfl, px34_⟩ := px34_
                refine sm_T_go 1 (c1 := (160, [some (.inr (.inr (some (13, 0)))), some (.inl c_), some (.inl e_), some (.inl net_), some (.inl fi_), some (.inl ow_), some (.inl en_), some (.inl n_), some (.inl mo_), some (.inl 0), some (.inl (-1)), none, none, none], [.inl 1, .inl vx36_], S_)) rfl ?_
                refine sm_T_bin (w := vx36_ - 1) rfl (bi_sub (by omega) (by omega) (by omega)) ?_ -- pc_ 160
                refine sm_T_go 1 (c1 := (163, [some (.inr (.inr (some (13, 0)))), some (.inl c_), some (.inl e_), some (.inl net_), some (.inl fi_), some (.inl ow_), some (.inl en_), some (.inl n_), some (.inl mo_), some (.inl 0), some (.inl (-1)), some (.inl (vx36_ - 1)), none, none], [], S_)) rfl ?_
                refine sm_T_wk [some (.inr (.inr (some (13, 0)))), some (.inl c_), some (.inl e_), some (.inl net_), some (.inl fi_), some (.inl ow_), some (.inl en_), some (.inl n_), none, some (.inl 0), some (.inl (-1)), some (.inl (vx36_ - 1)), none, none] (by exact ⟨rfl, rfl, rfl, rfl, rfl, rfl, rfl, rfl, rfl, rfl, rfl, trivial⟩) ?_
                refine ih_.2.2 fi_ ow_ en_ n_ 0 (-1) (vx36_ - 1) S_ hI_ hF_ ⟨?_, ?_, ?_, ?_, ?_, ?_, trivial⟩ ?_
                · omega
                · exact hp_
                · exact hf_
                · exact hz_
                · omega
                · first | exact h4_ | (funext j9_; have y9_ := congrFun h4_ j9_; (try simp only [rd_eq, rd_ne, rf_eq, rf_nk, rf_nt, rd_fa, rd_af, rd_fl, rd_al, rd_lf, rd_la, rd_leq, rd_lne, rd_fr, rd_ar, ne_eq, Nat.reduceEqDiff, not_false_eq_true]); exact y9_)
                · omega
              · have cx30_ : ¬ (en_ = 0) := of_decide_eq_false cx30_
                refine sm_T_go 2 (c1 := (147, [some (.inr (.inr (some (13, 0)))), some (.inl c_), some (.inl e_), some (.inl net_), some (.inl fi_), some (.inl ow_), some (.inl en_), some (.inl n_), some (.inl mo_), some (.inl 0), none, none, none, none], [.inl e_, .inl 10000], S_)) rfl ?_
                refine sm_T_bin (w := e_ + 10000) rfl (bi_add (by omega) (by omega) (by omega)) ?_ -- pc_ 147
                refine sm_T_go 4 (c1 := (156, [some (.inr (.inr (some (13, 0)))), some (.inl c_), some (.inl e_), some (.inl net_), some (.inl fi_), some (.inl ow_), some (.inl en_), some (.inl n_), some (.inl mo_), some (.inl 0), some (.inl (e_ + 10000)), none, none, none], [.inl c_, .inr (.inr (some (13, 0)))], S_)) rfl ?_
                refine sm_T_cal (d1 := 0) (Q1 := vq_422 c_ S_) rfl rfl (by decide) (vc_422 c_ S_ hI_ (by omega)) (fun u_ Sx37_ px40_ => ?_)
                obtain ⟨rfl, vx42_, rfl, px40_⟩ := px40_
                refine sm_T_go 1 (c1 := (160, [some (.inr (.inr (some (13, 0)))), some (.inl c_), some (.inl e_), some (.inl net_), some (.inl fi_), some (.inl ow_), some (.inl en_), some (.inl n_), some (.inl mo_), some (.inl 0), some (.inl (e_ + 10000)), none, none, none], [.inl 1, .inl vx42_], S_)) rfl ?_
                refine sm_T_bin (w := vx42_ - 1) rfl (bi_sub (by omega) (by omega) (by omega)) ?_ -- pc_ 160
                refine sm_T_go 1 (c1 := (163, [some (.inr (.inr (some (13, 0)))), some (.inl c_), some (.inl e_), some (.inl net_), some (.inl fi_), some (.inl ow_), some (.inl en_), some (.inl n_), some (.inl mo_), some (.inl 0), some (.inl (e_ + 10000)), some (.inl (vx42_ - 1)), none, none], [], S_)) rfl ?_
                refine sm_T_wk [some (.inr (.inr (some (13, 0)))), some (.inl c_), some (.inl e_), some (.inl net_), some (.inl fi_), some (.inl ow_), some (.inl en_), some (.inl n_), none, some (.inl 0), some (.inl (e_ + 10000)), some (.inl (vx42_ - 1)), none, none] (by exact ⟨rfl, rfl, rfl, rfl, rfl, rfl, rfl, rfl, rfl, rfl, rfl, trivial⟩) ?_
                refine ih_.2.2 fi_ ow_ en_ n_ 0 (e_ + 10000) (vx42_ - 1) S_ hI_ hF_ ⟨?_, ?_, ?_, ?_, ?_, ?_, trivial⟩ ?_
                · omega
                · exact hp_
                · exact hf_
                · exact hz_
                · omega
                · first | exact h4_ | (funext j9_; have y9_ := congrFun h4_ j9_; (try simp only [rd_eq, rd_ne, rf_eq, rf_nk, rf_nt, rd_fa, rd_af, rd_fl, rd_al, rd_lf, rd_la, rd_leq, rd_lne, rd_fr, rd_ar, ne_eq, Nat.reduceEqDiff, not_false_eq_true]); exact y9_)
                · omega
    · rintro fi_ ow_ en_ n_ bs_ b_ w_ S_ hI_ hF_ ⟨h0_, hp_, hf_, hz_, hb_, h4_, -⟩ hm_
      have f223_ : S_.2.2.1 223 0 = S0_.2.2.1 223 0 := fr_arr hF_ rfl
      have f224_ : S_.2.2.1 224 0 = S0_.2.2.1 224 0 := fr_arr hF_ rfl
      have f225_ : S_.2.2.1 225 0 = S0_.2.2.1 225 0 := fr_arr hF_ rfl
      have f228_ : S_.2.2.1 228 0 = S0_.2.2.1 228 0 := fr_arr hF_ rfl
      have x223_ : S_.2.2.1 223 0 c_.toNat = S0_.2.2.1 223 0 c_.toNat := congrFun f223_ _
      have x224_ : S_.2.2.1 224 0 c_.toNat = S0_.2.2.1 224 0 c_.toNat := congrFun f224_ _
      have x225_ : S_.2.2.1 225 0 c_.toNat = S0_.2.2.1 225 0 c_.toNat := congrFun f225_ _
      have x228_ : S_.2.2.1 228 0 c_.toNat = S0_.2.2.1 228 0 c_.toNat := congrFun f228_ _
      have cA_ : 0 ≤ S_.2.2.1 223 0 c_.toNat ∧ S_.2.2.1 223 0 c_.toNat ≤ 12 := hI_.2 223 0 _
      have cB_ : 0 ≤ S_.2.2.1 224 0 c_.toNat ∧ S_.2.2.1 224 0 c_.toNat ≤ 6 := hI_.2 224 0 _
      have cG_ : 0 ≤ S_.2.2.1 228 0 c_.toNat ∧ S_.2.2.1 228 0 c_.toNat ≤ 150 := hI_.2 228 0 _
      have cO_ : 0 ≤ S_.2.2.1 225 0 c_.toNat ∧ S_.2.2.1 225 0 c_.toNat ≤ 16 := hI_.2 225 0 _
      have x275_ : ∀ j9_, S_.2.2.1 275 0 j9_ = S0_.2.2.1 275 0 j9_ := fun j9_ => congrFun h4_ j9_
      refine sm_T_go 2 (c1 := (167, [some (.inr (.inr (some (13, 0)))), some (.inl c_), some (.inl e_), some (.inl net_), some (.inl fi_), some (.inl ow_), some (.inl en_), some (.inl n_), none, some (.inl bs_), some (.inl b_), some (.inl w_), none, none], [.inl fi_, .inl w_], S_)) rfl ?_
      refine sm_T_br (a := 2) (z := 108) rfl (fun cx1_ => ?_) (fun cx1_ => ?_)
      · have cx1_ : w_ < fi_ := of_decide_eq_true cx1_
        refine sm_T_go 2 (c1 := (278, [some (.inr (.inr (some (13, 0)))), some (.inl c_), some (.inl e_), some (.inl net_), some (.inl fi_), some (.inl ow_), some (.inl en_), some (.inl n_), none, some (.inl bs_), some (.inl b_), some (.inl w_), none, none], [.inl (-1), .inl b_], S_)) rfl ?_
        refine sm_T_br (a := 0) (z := 7) rfl (fun cx2_ => ?_) (fun cx2_ => ?_)
        · have cx2_ : b_ = (-1) := of_decide_eq_true cx2_
          refine sm_T_go 5 (c1 := (100, [some (.inr (.inr (some (13, 0)))), some (.inl c_), some (.inl e_), some (.inl net_), some (.inl fi_), some (.inl ow_), some (.inl en_), some (.inl n_), some (.inl 0), some (.inl bs_), some (.inl b_), some (.inl w_), none, none], [], S_)) rfl ?_
          refine sm_T_wk [some (.inr (.inr (some (13, 0)))), some (.inl c_), some (.inl e_), some (.inl net_), some (.inl fi_), some (.inl ow_), some (.inl en_), some (.inl n_), some (.inl 0), none, none, none, none, none] (by exact ⟨rfl, rfl, rfl, rfl, rfl, rfl, rfl, rfl, rfl, trivial⟩) ?_
          refine ih_.2.1 fi_ ow_ en_ n_ 0 S_ hI_ hF_ ⟨?_, ?_, ?_, ?_, ?_, trivial⟩ ?_
          · omega
          · exact hp_
          · exact hf_
          · exact hz_
          · first | exact h4_ | (funext j9_; have y9_ := congrFun h4_ j9_; (try simp only [rd_eq, rd_ne, rf_eq, rf_nk, rf_nt, rd_fa, rd_af, rd_fl, rd_al, rd_lf, rd_la, rd_leq, rd_lne, rd_fr, rd_ar, ne_eq, Nat.reduceEqDiff, not_false_eq_true]); exact y9_)
          · omega
        · have cx2_ : ¬ (b_ = (-1)) := of_decide_eq_false cx2_
          refine sm_T_go 9 (c1 := (301, [some (.inr (.inr (some (13, 0)))), some (.inl c_), some (.inl e_), some (.inl net_), some (.inl fi_), some (.inl ow_), some (.inl en_), some (.inl n_), some (.inl 1), some (.inl bs_), some (.inl b_), some (.inl w_), none, none], [.inl ow_, .inl 40, .inr (.inr (some (276, 0)))], S_)) rfl ?_
          refine sm_T_bin (w := 40 * ow_) rfl (bi_mul (by omega) (by omega) (by omega)) ?_ -- pc_ 301
          refine sm_T_go 1 (c1 := (304, [some (.inr (.inr (some (13, 0)))), some (.inl c_), some (.inl e_), some (.inl net_), some (.inl fi_), some (.inl ow_), some (.inl en_), some (.inl n_), some (.inl 1), some (.inl bs_), some (.inl b_), some (.inl w_), none, none], [.inl n_, .inl (40 * ow_), .inr (.inr (some (276, 0)))], S_)) rfl ?_
          refine sm_T_bin (w := 40 * ow_ + n_) rfl (bi_add (by omega) (by omega) (by omega)) ?_ -- pc_ 304
          refine sm_T_go 1 (c1 := (307, [some (.inr (.inr (some (13, 0)))), some (.inl c_), some (.inl e_), some (.inl net_), some (.inl fi_), some (.inl ow_), some (.inl en_), some (.inl n_), some (.inl 1), some (.inl bs_), some (.inl b_), some (.inl w_), none, none], [.inl bs_, .inl (40 * ow_ + n_), .inr (.inr (some (276, 0)))], S_)) rfl ?_
          refine sm_T_iast (n := 225280) rfl rfl (by omega) (by omega) ?_
          have hIx3_ : gi (sm_aI S_ 276 0 (40 * ow_ + n_).toNat bs_) := gi_aI hI_ (show (-2147483648) ≤ bs_ ∧ bs_ ≤ 2147483647 from ⟨by omega, by omega⟩)
          have hFx4_ : ai_fr (sx_W vw_502) S0_ (sm_aI S_ 276 0 (40 * ow_ + n_).toNat bs_) := ai_fr_tr hF_ (ai_fr_aI rfl)
          refine sm_T_go 4 (c1 := (316, [some (.inr (.inr (some (13, 0)))), some (.inl c_), some (.inl e_), some (.inl net_), some (.inl fi_), some (.inl ow_), some (.inl en_), some (.inl n_), some (.inl 1), some (.inl bs_), some (.inl b_), some (.inl w_), none, none], [.inl ow_, .inl 40, .inr (.inr (some (277, 0)))], sm_aI S_ 276 0 (40 * ow_ + n_).toNat bs_)) rfl ?_
          refine sm_T_bin (w := 40 * ow_) rfl (bi_mul (by omega) (by omega) (by omega)) ?_ -- pc_ 316
          refine sm_T_go 1 (c1 := (319, [some (.inr (.inr (some (13, 0)))), some (.inl c_), some (.inl e_), some (.inl net_), some (.inl fi_), some (.inl ow_), some (.inl en_), some (.inl n_), some (.inl 1), some (.inl bs_), some (.inl b_), some (.inl w_), none, none], [.inl n_, .inl (40 * ow_), .inr (.inr (some (277, 0)))], sm_aI S_ 276 0 (40 * ow_ + n_).toNat bs_)) rfl ?_
          refine sm_T_bin (w := 40 * ow_ + n_) rfl (bi_add (by omega) (by omega) (by omega)) ?_ -- pc_ 319
          refine sm_T_go 1 (c1 := (322, [some (.inr (.inr (some (13, 0)))), some (.inl c_), some (.inl e_), some (.inl net_), some (.inl fi_), some (.inl ow_), some (.inl en_), some (.inl n_), some (.inl 1), some (.inl bs_), some (.inl b_), some (.inl w_), none, none], [.inl b_, .inl (40 * ow_ + n_), .inr (.inr (some (277, 0)))], sm_aI S_ 276 0 (40 * ow_ + n_).toNat bs_)) rfl ?_
          refine sm_T_iast (n := 225280) rfl rfl (by omega) (by omega) ?_
          have hIx5_ : gi (sm_aI (sm_aI S_ 276 0 (40 * ow_ + n_).toNat bs_) 277 0 (40 * ow_ + n_).toNat b_) := gi_aI hIx3_ (show 0 ≤ b_ ∧ b_ ≤ 10200 from ⟨by omega, by omega⟩)
          have hFx6_ : ai_fr (sx_W vw_502) S0_ (sm_aI (sm_aI S_ 276 0 (40 * ow_ + n_).toNat bs_) 277 0 (40 * ow_ + n_).toNat b_) := ai_fr_tr hFx4_ (ai_fr_aI rfl)
          refine sm_T_go 4 (c1 := (331, [some (.inr (.inr (some (13, 0)))), some (.inl c_), some (.inl e_), some (.inl net_), some (.inl fi_), some (.inl ow_), some (.inl en_), some (.inl n_), some (.inl 1), some (.inl bs_), some (.inl b_), some (.inl w_), none, none], [.inl ow_, .inl 40, .inr (.inr (some (278, 0)))], sm_aI (sm_aI S_ 276 0 (40 * ow_ + n_).toNat bs_) 277 0 (40 * ow_ + n_).toNat b_)) rfl ?_
          refine sm_T_bin (w := 40 * ow_) rfl (bi_mul (by omega) (by omega) (by omega)) ?_ -- pc_ 331
          refine sm_T_go 1 (c1 := (334, [some (.inr (.inr (some (13, 0)))), some (.inl c_), some (.inl e_), some (.inl net_), some (.inl fi_), some (.inl ow_), some (.inl en_), some (.inl n_), some (.inl 1), some (.inl bs_), some (.inl b_), some (.inl w_), none, none], [.inl n_, .inl (40 * ow_), .inr (.inr (some (278, 0)))], sm_aI (sm_aI S_ 276 0 (40 * ow_ + n_).toNat bs_) 277 0 (40 * ow_ + n_).toNat b_)) rfl ?_
          refine sm_T_bin (w := 40 * ow_ + n_) rfl (bi_add (by omega) (by omega) (by omega)) ?_ -- pc_ 334
          refine sm_T_go 2 (c1 := (340, [some (.inr (.inr (some (13, 0)))), some (.inl c_), some (.inl e_), some (.inl net_), some (.inl fi_), some (.inl ow_), some (.inl en_), some (.inl n_), some (.inl 1), some (.inl bs_), some (.inl b_), some (.inl w_), none, none], [.inl 10000, .inl b_, .inl (40 * ow_ + n_), .inr (.inr (some (278, 0)))], sm_aI (sm_aI S_ 276 0 (40 * ow_ + n_).toNat bs_) 277 0 (40 * ow_ + n_).toNat b_)) rfl ?_
          refine sm_T_br (a := 3) (z := 13) rfl (fun cx7_ => ?_) (fun cx7_ => ?_)
          · have cx7_ : 10000 ≤ b_ := of_decide_eq_true cx7_
            refine sm_T_go 1 (c1 := (354, [some (.inr (.inr (some (13, 0)))), some (.inl c_), some (.inl e_), some (.inl net_), some (.inl fi_), some (.inl ow_), some (.inl en_), some (.inl n_), some (.inl 1), some (.inl bs_), some (.inl b_), some (.inl w_), none, none], [.inl 0, .inl (40 * ow_ + n_), .inr (.inr (some (278, 0)))], sm_aI (sm_aI S_ 276 0 (40 * ow_ + n_).toNat bs_) 277 0 (40 * ow_ + n_).toNat b_)) rfl ?_
            refine sm_T_iast (n := 225280) rfl rfl (by omega) (by omega) ?_
            have hIx8_ : gi (sm_aI (sm_aI (sm_aI S_ 276 0 (40 * ow_ + n_).toNat bs_) 277 0 (40 * ow_ + n_).toNat b_) 278 0 (40 * ow_ + n_).toNat 0) := gi_aI hIx5_ (show 0 ≤ 0 ∧ 0 ≤ 39 from ⟨by omega, by omega⟩)
            have hFx9_ : ai_fr (sx_W vw_502) S0_ (sm_aI (sm_aI (sm_aI S_ 276 0 (40 * ow_ + n_).toNat bs_) 277 0 (40 * ow_ + n_).toNat b_) 278 0 (40 * ow_ + n_).toNat 0) := ai_fr_tr hFx6_ (ai_fr_aI rfl)
            refine sm_T_inc (a := 7) (z := 1) (v := n_) (w := n_ + 1) rfl rfl (by omega) (by omega) (by omega) ?_ -- pc_ 355
            refine sm_T_go 1 (c1 := (360, [some (.inr (.inr (some (13, 0)))), some (.inl c_), some (.inl e_), some (.inl net_), some (.inl fi_), some (.inl ow_), some (.inl en_), some (.inl (n_ + 1)), some (.inl 1), some (.inl bs_), some (.inl b_), some (.inl w_), none, none], [.inl en_], sm_aI (sm_aI (sm_aI S_ 276 0 (40 * ow_ + n_).toNat bs_) 277 0 (40 * ow_ + n_).toNat b_) 278 0 (40 * ow_ + n_).toNat 0)) rfl ?_
            refine sm_T_b0 (a := 0) (z := 15) rfl (fun cx10_ => ?_) (fun cx10_ => ?_)
            · have cx10_ : en_ = 0 := of_decide_eq_true cx10_
              refine sm_T_go 4 (c1 := (383, [some (.inr (.inr (some (13, 0)))), some (.inl c_), some (.inl e_), some (.inl net_), some (.inl fi_), some (.inl ow_), some (.inl 0), some (.inl (n_ + 1)), some (.inl 1), some (.inl bs_), some (.inl b_), some (.inl w_), none, none], [.inl 10000, .inl b_], sm_aI (sm_aI (sm_aI S_ 276 0 (40 * ow_ + n_).toNat bs_) 277 0 (40 * ow_ + n_).toNat b_) 278 0 (40 * ow_ + n_).toNat 0)) rfl ?_
              refine sm_T_br (a := 3) (z := 14) rfl (fun cx11_ => ?_) (fun cx11_ => ?_)
              · have cx11_ : 10000 ≤ b_ := of_decide_eq_true cx11_
                refine sm_T_go 1 (c1 := (100, [some (.inr (.inr (some (13, 0)))), some (.inl c_), some (.inl e_), some (.inl net_), some (.inl fi_), some (.inl ow_), some (.inl 0), some (.inl (n_ + 1)), some (.inl 1), some (.inl bs_), some (.inl b_), some (.inl w_), none, none], [], sm_aI (sm_aI (sm_aI S_ 276 0 (40 * ow_ + n_).toNat bs_) 277 0 (40 * ow_ + n_).toNat b_) 278 0 (40 * ow_ + n_).toNat 0)) rfl ?_
                refine sm_T_wk [some (.inr (.inr (some (13, 0)))), some (.inl c_), some (.inl e_), some (.inl net_), some (.inl fi_), some (.inl ow_), some (.inl 0), some (.inl (n_ + 1)), some (.inl 1), none, none, none, none, none] (by exact ⟨rfl, rfl, rfl, rfl, rfl, rfl, rfl, rfl, rfl, trivial⟩) ?_
                refine ih_.2.1 fi_ ow_ 0 (n_ + 1) 1 (sm_aI (sm_aI (sm_aI S_ 276 0 (40 * ow_ + n_).toNat bs_) 277 0 (40 * ow_ + n_).toNat b_) 278 0 (40 * ow_ + n_).toNat 0) hIx8_ hFx9_ ⟨?_, ?_, ?_, ?_, ?_, trivial⟩ ?_
                · omega
                · (intro x9_ u0_ u1_; (try simp only [rd_eq, rd_ne, rf_eq, rf_nk, rf_nt, rd_fa, rd_af, rd_fl, rd_al, rd_lf, rd_la, rd_leq, rd_lne, rd_fr, rd_ar, ne_eq, Nat.reduceEqDiff, not_false_eq_true]); exact hp_ x9_ u0_ u1_)
                · refine tfr_tr hf_ ⟨fun j9_ h9_ => by (try simp only [rd_eq, rd_ne, rf_eq, rf_nk, rf_nt, rd_fa, rd_af, rd_fl, rd_al, rd_lf, rd_la, rd_leq, rd_lne, rd_fr, rd_ar, ne_eq, Nat.reduceEqDiff, not_false_eq_true]), fun j9_ h9_ => ⟨by ((try simp only [rd_eq, rd_ne, rf_eq, rf_nk, rf_nt, rd_fa, rd_af, rd_fl, rd_al, rd_lf, rd_la, rd_leq, rd_lne, rd_fr, rd_ar, ne_eq, Nat.reduceEqDiff, not_false_eq_true]); rw [if_neg (by omega)]), by ((try simp only [rd_eq, rd_ne, rf_eq, rf_nk, rf_nt, rd_fa, rd_af, rd_fl, rd_al, rd_lf, rd_la, rd_leq, rd_lne, rd_fr, rd_ar, ne_eq, Nat.reduceEqDiff, not_false_eq_true]); rw [if_neg (by omega)])⟩⟩
                · have r7_ : ∀ j9_, ((sm_aI (sm_aI (sm_aI S_ 276 0 (40 * ow_ + n_).toNat bs_) 277 0 (40 * ow_ + n_).toNat b_) 278 0 (40 * ow_ + n_).toNat 0)).2.2.1 277 0 j9_ = if j9_ = (40 * ow_ + n_).toNat then b_ else S_.2.2.1 277 0 j9_ := fun j9_ => by (try simp only [rd_eq, rd_ne, rf_eq, rf_nk, rf_nt, rd_fa, rd_af, rd_fl, rd_al, rd_lf, rd_la, rd_leq, rd_lne, rd_fr, rd_ar, ne_eq, Nat.reduceEqDiff, not_false_eq_true])
                  have r8_ : ∀ j9_, ((sm_aI (sm_aI (sm_aI S_ 276 0 (40 * ow_ + n_).toNat bs_) 277 0 (40 * ow_ + n_).toNat b_) 278 0 (40 * ow_ + n_).toNat 0)).2.2.1 278 0 j9_ = if j9_ = (40 * ow_ + n_).toNat then 0 else S_.2.2.1 278 0 j9_ := fun j9_ => by (try simp only [rd_eq, rd_ne, rf_eq, rf_nk, rf_nt, rd_fa, rd_af, rd_fl, rd_al, rd_lf, rd_la, rd_leq, rd_lne, rd_fr, rd_ar, ne_eq, Nat.reduceEqDiff, not_false_eq_true])
                  intro i9_ u0_ u1_
                  rw [r7_, r8_]
                  by_cases z9_ : i9_ = n_
                  · rw [if_pos (by omega), if_pos (by omega)]; exact ⟨by omega, by first | exact Or.inl (by omega) | exact Or.inr ⟨by omega, by (show _ < S0_.2.2.1 275 0 (256 * e_ + b_).toNat; rw [← x275_]; omega)⟩⟩
                  · rw [if_neg (by omega), if_neg (by omega)]; exact hz_ i9_ u0_ (by omega)
                · first | exact h4_ | (funext j9_; have y9_ := congrFun h4_ j9_; (try simp only [rd_eq, rd_ne, rf_eq, rf_nk, rf_nt, rd_fa, rd_af, rd_fl, rd_al, rd_lf, rd_la, rd_leq, rd_lne, rd_fr, rd_ar, ne_eq, Nat.reduceEqDiff, not_false_eq_true]); exact y9_)
                · omega
              · have cx11_ : ¬ (10000 ≤ b_) := of_decide_eq_false cx11_
                exfalso; omega
            · have cx10_ : ¬ (en_ = 0) := of_decide_eq_false cx10_
              refine sm_T_go 2 (c1 := (368, [some (.inr (.inr (some (13, 0)))), some (.inl c_), some (.inl e_), some (.inl net_), some (.inl fi_), some (.inl ow_), some (.inl en_), some (.inl (n_ + 1)), some (.inl 1), some (.inl bs_), some (.inl b_), some (.inl w_), none, none], [.inl 10000, .inl b_], sm_aI (sm_aI (sm_aI S_ 276 0 (40 * ow_ + n_).toNat bs_) 277 0 (40 * ow_ + n_).toNat b_) 278 0 (40 * ow_ + n_).toNat 0)) rfl ?_
              refine sm_T_br (a := 3) (z := 7) rfl (fun cx12_ => ?_) (fun cx12_ => ?_)
              · have cx12_ : 10000 ≤ b_ := of_decide_eq_true cx12_
                refine sm_T_go 4 (c1 := (383, [some (.inr (.inr (some (13, 0)))), some (.inl c_), some (.inl e_), some (.inl net_), some (.inl fi_), some (.inl ow_), some (.inl 0), some (.inl (n_ + 1)), some (.inl 1), some (.inl bs_), some (.inl b_), some (.inl w_), none, none], [.inl 10000, .inl b_], sm_aI (sm_aI (sm_aI S_ 276 0 (40 * ow_ + n_).toNat bs_) 277 0 (40 * ow_ + n_).toNat b_) 278 0 (40 * ow_ + n_).toNat 0)) rfl ?_
                refine sm_T_br (a := 3) (z := 14) rfl (fun cx13_ => ?_) (fun cx13_ => ?_)
                · have cx13_ : 10000 ≤ b_ := of_decide_eq_true cx13_
                  refine sm_T_go 1 (c1 := (100, [some (.inr (.inr (some (13, 0)))), some (.inl c_), some (.inl e_), some (.inl net_), some (.inl fi_), some (.inl ow_), some (.inl 0), some (.inl (n_ + 1)), some (.inl 1), some (.inl bs_), some (.inl b_), some (.inl w_), none, none], [], sm_aI (sm_aI (sm_aI S_ 276 0 (40 * ow_ + n_).toNat bs_) 277 0 (40 * ow_ + n_).toNat b_) 278 0 (40 * ow_ + n_).toNat 0)) rfl ?_
                  refine sm_T_wk [some (.inr (.inr (some (13, 0)))), some (.inl c_), some (.inl e_), some (.inl net_), some (.inl fi_), some (.inl ow_), some (.inl 0), some (.inl (n_ + 1)), some (.inl 1), none, none, none, none, none] (by exact ⟨rfl, rfl, rfl, rfl, rfl, rfl, rfl, rfl, rfl, trivial⟩) ?_
                  refine ih_.2.1 fi_ ow_ 0 (n_ + 1) 1 (sm_aI (sm_aI (sm_aI S_ 276 0 (40 * ow_ + n_).toNat bs_) 277 0 (40 * ow_ + n_).toNat b_) 278 0 (40 * ow_ + n_).toNat 0) hIx8_ hFx9_ ⟨?_, ?_, ?_, ?_, ?_, trivial⟩ ?_
                  · omega
                  · (intro x9_ u0_ u1_; (try simp only [rd_eq, rd_ne, rf_eq, rf_nk, rf_nt, rd_fa, rd_af, rd_fl, rd_al, rd_lf, rd_la, rd_leq, rd_lne, rd_fr, rd_ar, ne_eq, Nat.reduceEqDiff, not_false_eq_true]); exact hp_ x9_ u0_ u1_)
                  · refine tfr_tr hf_ ⟨fun j9_ h9_ => by (try simp only [rd_eq, rd_ne, rf_eq, rf_nk, rf_nt, rd_fa, rd_af, rd_fl, rd_al, rd_lf, rd_la, rd_leq, rd_lne, rd_fr, rd_ar, ne_eq, Nat.reduceEqDiff, not_false_eq_true]), fun j9_ h9_ => ⟨by ((try simp only [rd_eq, rd_ne, rf_eq, rf_nk, rf_nt, rd_fa, rd_af, rd_fl, rd_al, rd_lf, rd_la, rd_leq, rd_lne, rd_fr, rd_ar, ne_eq, Nat.reduceEqDiff, not_false_eq_true]); rw [if_neg (by omega)]), by ((try simp only [rd_eq, rd_ne, rf_eq, rf_nk, rf_nt, rd_fa, rd_af, rd_fl, rd_al, rd_lf, rd_la, rd_leq, rd_lne, rd_fr, rd_ar, ne_eq, Nat.reduceEqDiff, not_false_eq_true]); rw [if_neg (by omega)])⟩⟩
                  · have r7_ : ∀ j9_, ((sm_aI (sm_aI (sm_aI S_ 276 0 (40 * ow_ + n_).toNat bs_) 277 0 (40 * ow_ + n_).toNat b_) 278 0 (40 * ow_ + n_).toNat 0)).2.2.1 277 0 j9_ = if j9_ = (40 * ow_ + n_).toNat then b_ else S_.2.2.1 277 0 j9_ := fun j9_ => by (try simp only [rd_eq, rd_ne, rf_eq, rf_nk, rf_nt, rd_fa, rd_af, rd_fl, rd_al, rd_lf, rd_la, rd_leq, rd_lne, rd_fr, rd_ar, ne_eq, Nat.reduceEqDiff, not_false_eq_true])
                    have r8_ : ∀ j9_, ((sm_aI (sm_aI (sm_aI S_ 276 0 (40 * ow_ + n_).toNat bs_) 277 0 (40 * ow_ + n_).toNat b_) 278 0 (40 * ow_ + n_).toNat 0)).2.2.1 278 0 j9_ = if j9_ = (40 * ow_ + n_).toNat then 0 else S_.2.2.1 278 0 j9_ := fun j9_ => by (try simp only [rd_eq, rd_ne, rf_eq, rf_nk, rf_nt, rd_fa, rd_af, rd_fl, rd_al, rd_lf, rd_la, rd_leq, rd_lne, rd_fr, rd_ar, ne_eq, Nat.reduceEqDiff, not_false_eq_true])
                    intro i9_ u0_ u1_
                    rw [r7_, r8_]
                    by_cases z9_ : i9_ = n_
                    · rw [if_pos (by omega), if_pos (by omega)]; exact ⟨by omega, by first | exact Or.inl (by omega) | exact Or.inr ⟨by omega, by (show _ < S0_.2.2.1 275 0 (256 * e_ + b_).toNat; rw [← x275_]; omega)⟩⟩
                    · rw [if_neg (by omega), if_neg (by omega)]; exact hz_ i9_ u0_ (by omega)
                  · first | exact h4_ | (funext j9_; have y9_ := congrFun h4_ j9_; (try simp only [rd_eq, rd_ne, rf_eq, rf_nk, rf_nt, rd_fa, rd_af, rd_fl, rd_al, rd_lf, rd_la, rd_leq, rd_lne, rd_fr, rd_ar, ne_eq, Nat.reduceEqDiff, not_false_eq_true]); exact y9_)
                  · omega
                · have cx13_ : ¬ (10000 ≤ b_) := of_decide_eq_false cx13_
                  exfalso; omega
              · have cx12_ : ¬ (10000 ≤ b_) := of_decide_eq_false cx12_
                exfalso; omega
          · have cx7_ : ¬ (10000 ≤ b_) := of_decide_eq_false cx7_
            refine sm_T_go 3 (c1 := (349, [some (.inr (.inr (some (13, 0)))), some (.inl c_), some (.inl e_), some (.inl net_), some (.inl fi_), some (.inl ow_), some (.inl en_), some (.inl n_), some (.inl 1), some (.inl bs_), some (.inl b_), some (.inl w_), none, none], [.inl b_, .inr (.inr (some (279, 0))), .inl (40 * ow_ + n_), .inr (.inr (some (278, 0)))], sm_aI (sm_aI S_ 276 0 (40 * ow_ + n_).toNat bs_) 277 0 (40 * ow_ + n_).toNat b_)) rfl ?_
            refine sm_T_iald (n := 256) rfl rfl (by omega) (by omega) ?_
            have bx14_ : 0 ≤ S_.2.2.1 279 0 b_.toNat ∧ S_.2.2.1 279 0 b_.toNat ≤ 42 := hI_.2 279 0 _
            refine sm_T_go 1 (c1 := (354, [some (.inr (.inr (some (13, 0)))), some (.inl c_), some (.inl e_), some (.inl net_), some (.inl fi_), some (.inl ow_), some (.inl en_), some (.inl n_), some (.inl 1), some (.inl bs_), some (.inl b_), some (.inl w_), none, none], [.inl (S_.2.2.1 279 0 b_.toNat), .inl (40 * ow_ + n_), .inr (.inr (some (278, 0)))], sm_aI (sm_aI S_ 276 0 (40 * ow_ + n_).toNat bs_) 277 0 (40 * ow_ + n_).toNat b_)) rfl ?_
            refine sm_T_iast (n := 225280) rfl rfl (by omega) (by omega) ?_
            have hIx15_ : gi (sm_aI (sm_aI (sm_aI S_ 276 0 (40 * ow_ + n_).toNat bs_) 277 0 (40 * ow_ + n_).toNat b_) 278 0 (40 * ow_ + n_).toNat (S_.2.2.1 279 0 b_.toNat)) := gi_aI hIx5_ (show 0 ≤ (S_.2.2.1 279 0 b_.toNat) ∧ (S_.2.2.1 279 0 b_.toNat) ≤ 39 from ⟨by omega, by omega⟩)
            have hFx16_ : ai_fr (sx_W vw_502) S0_ (sm_aI (sm_aI (sm_aI S_ 276 0 (40 * ow_ + n_).toNat bs_) 277 0 (40 * ow_ + n_).toNat b_) 278 0 (40 * ow_ + n_).toNat (S_.2.2.1 279 0 b_.toNat)) := ai_fr_tr hFx6_ (ai_fr_aI rfl)
            refine sm_T_inc (a := 7) (z := 1) (v := n_) (w := n_ + 1) rfl rfl (by omega) (by omega) (by omega) ?_ -- pc_ 355
            refine sm_T_go 1 (c1 := (360, [some (.inr (.inr (some (13, 0)))), some (.inl c_), some (.inl e_), some (.inl net_), some (.inl fi_), some (.inl ow_), some (.inl en_), some (.inl (n_ + 1)), some (.inl 1), some (.inl bs_), some (.inl b_), some (.inl w_), none, none], [.inl en_], sm_aI (sm_aI (sm_aI S_ 276 0 (40 * ow_ + n_).toNat bs_) 277 0 (40 * ow_ + n_).toNat b_) 278 0 (40 * ow_ + n_).toNat (S_.2.2.1 279 0 b_.toNat))) rfl ?_
            refine sm_T_b0 (a := 0) (z := 15) rfl (fun cx17_ => ?_) (fun cx17_ => ?_)
            · have cx17_ : en_ = 0 := of_decide_eq_true cx17_
              refine sm_T_go 4 (c1 := (383, [some (.inr (.inr (some (13, 0)))), some (.inl c_), some (.inl e_), some (.inl net_), some (.inl fi_), some (.inl ow_), some (.inl 0), some (.inl (n_ + 1)), some (.inl 1), some (.inl bs_), some (.inl b_), some (.inl w_), none, none], [.inl 10000, .inl b_], sm_aI (sm_aI (sm_aI S_ 276 0 (40 * ow_ + n_).toNat bs_) 277 0 (40 * ow_ + n_).toNat b_) 278 0 (40 * ow_ + n_).toNat (S_.2.2.1 279 0 b_.toNat))) rfl ?_
              refine sm_T_br (a := 3) (z := 14) rfl (fun cx18_ => ?_) (fun cx18_ => ?_)
              · have cx18_ : 10000 ≤ b_ := of_decide_eq_true cx18_
                exfalso; omega
              · have cx18_ : ¬ (10000 ≤ b_) := of_decide_eq_false cx18_
                refine sm_T_go 4 (c1 := (393, [some (.inr (.inr (some (13, 0)))), some (.inl c_), some (.inl e_), some (.inl net_), some (.inl fi_), some (.inl ow_), some (.inl 0), some (.inl (n_ + 1)), some (.inl 1), some (.inl bs_), some (.inl b_), some (.inl w_), none, none], [.inl b_, .inr (.inr (some (279, 0))), .inl b_, .inr (.inr (some (279, 0)))], sm_aI (sm_aI (sm_aI S_ 276 0 (40 * ow_ + n_).toNat bs_) 277 0 (40 * ow_ + n_).toNat b_) 278 0 (40 * ow_ + n_).toNat (S_.2.2.1 279 0 b_.toNat))) rfl ?_
                refine sm_T_iald (n := 256) rfl rfl (by omega) (by omega) ?_
                refine sm_T_go 1 (c1 := (395, [some (.inr (.inr (some (13, 0)))), some (.inl c_), some (.inl e_), some (.inl net_), some (.inl fi_), some (.inl ow_), some (.inl 0), some (.inl (n_ + 1)), some (.inl 1), some (.inl bs_), some (.inl b_), some (.inl w_), none, none], [.inl 1, .inl (S_.2.2.1 279 0 b_.toNat), .inl b_, .inr (.inr (some (279, 0)))], sm_aI (sm_aI (sm_aI S_ 276 0 (40 * ow_ + n_).toNat bs_) 277 0 (40 * ow_ + n_).toNat b_) 278 0 (40 * ow_ + n_).toNat (S_.2.2.1 279 0 b_.toNat))) rfl ?_
                refine sm_T_bin (w := (S_.2.2.1 279 0 b_.toNat) + 1) rfl (bi_add (by omega) (by omega) (by omega)) ?_ -- pc_ 395
                refine sm_T_iast (n := 256) rfl rfl (by omega) (by omega) ?_
                have hIx19_ : gi (sm_aI (sm_aI (sm_aI (sm_aI S_ 276 0 (40 * ow_ + n_).toNat bs_) 277 0 (40 * ow_ + n_).toNat b_) 278 0 (40 * ow_ + n_).toNat (S_.2.2.1 279 0 b_.toNat)) 279 0 b_.toNat ((S_.2.2.1 279 0 b_.toNat) + 1)) := gi_aI hIx15_ (show 0 ≤ (S_.2.2.1 279 0 b_.toNat) + 1 ∧ (S_.2.2.1 279 0 b_.toNat) + 1 ≤ 42 from ⟨by omega, by omega⟩)
                have hFx20_ : ai_fr (sx_W vw_502) S0_ (sm_aI (sm_aI (sm_aI (sm_aI S_ 276 0 (40 * ow_ + n_).toNat bs_) 277 0 (40 * ow_ + n_).toNat b_) 278 0 (40 * ow_ + n_).toNat (S_.2.2.1 279 0 b_.toNat)) 279 0 b_.toNat ((S_.2.2.1 279 0 b_.toNat) + 1)) := ai_fr_tr hFx16_ (ai_fr_aI rfl)
                refine sm_T_go 1 (c1 := (100, [some (.inr (.inr (some (13, 0)))), some (.inl c_), some (.inl e_), some (.inl net_), some (.inl fi_), some (.inl ow_), some (.inl 0), some (.inl (n_ + 1)), some (.inl 1), some (.inl bs_), some (.inl b_), some (.inl w_), none, none], [], sm_aI (sm_aI (sm_aI (sm_aI S_ 276 0 (40 * ow_ + n_).toNat bs_) 277 0 (40 * ow_ + n_).toNat b_) 278 0 (40 * ow_ + n_).toNat (S_.2.2.1 279 0 b_.toNat)) 279 0 b_.toNat ((S_.2.2.1 279 0 b_.toNat) + 1))) rfl ?_
                refine sm_T_wk [some (.inr (.inr (some (13, 0)))), some (.inl c_), some (.inl e_), some (.inl net_), some (.inl fi_), some (.inl ow_), some (.inl 0), some (.inl (n_ + 1)), some (.inl 1), none, none, none, none, none] (by exact ⟨rfl, rfl, rfl, rfl, rfl, rfl, rfl, rfl, rfl, trivial⟩) ?_
                refine ih_.2.1 fi_ ow_ 0 (n_ + 1) 1 (sm_aI (sm_aI (sm_aI (sm_aI S_ 276 0 (40 * ow_ + n_).toNat bs_) 277 0 (40 * ow_ + n_).toNat b_) 278 0 (40 * ow_ + n_).toNat (S_.2.2.1 279 0 b_.toNat)) 279 0 b_.toNat ((S_.2.2.1 279 0 b_.toNat) + 1)) hIx19_ hFx20_ ⟨?_, ?_, ?_, ?_, ?_, trivial⟩ ?_
                · omega
                · intro x9_ u0_ u1_
                  (try simp only [rd_eq, rd_ne, rf_eq, rf_nk, rf_nt, rd_fa, rd_af, rd_fl, rd_al, rd_lf, rd_la, rd_leq, rd_lne, rd_fr, rd_ar, ne_eq, Nat.reduceEqDiff, not_false_eq_true])
                  by_cases z9_ : x9_.toNat = b_.toNat
                  · right; omega
                  · rw [if_neg z9_]; exact hp_ x9_ u0_ u1_
                · refine tfr_tr hf_ ⟨fun j9_ h9_ => by (try simp only [rd_eq, rd_ne, rf_eq, rf_nk, rf_nt, rd_fa, rd_af, rd_fl, rd_al, rd_lf, rd_la, rd_leq, rd_lne, rd_fr, rd_ar, ne_eq, Nat.reduceEqDiff, not_false_eq_true]), fun j9_ h9_ => ⟨by ((try simp only [rd_eq, rd_ne, rf_eq, rf_nk, rf_nt, rd_fa, rd_af, rd_fl, rd_al, rd_lf, rd_la, rd_leq, rd_lne, rd_fr, rd_ar, ne_eq, Nat.reduceEqDiff, not_false_eq_true]); rw [if_neg (by omega)]), by ((try simp only [rd_eq, rd_ne, rf_eq, rf_nk, rf_nt, rd_fa, rd_af, rd_fl, rd_al, rd_lf, rd_la, rd_leq, rd_lne, rd_fr, rd_ar, ne_eq, Nat.reduceEqDiff, not_false_eq_true]); rw [if_neg (by omega)])⟩⟩
                · have r7_ : ∀ j9_, ((sm_aI (sm_aI (sm_aI (sm_aI S_ 276 0 (40 * ow_ + n_).toNat bs_) 277 0 (40 * ow_ + n_).toNat b_) 278 0 (40 * ow_ + n_).toNat (S_.2.2.1 279 0 b_.toNat)) 279 0 b_.toNat ((S_.2.2.1 279 0 b_.toNat) + 1))).2.2.1 277 0 j9_ = if j9_ = (40 * ow_ + n_).toNat then b_ else S_.2.2.1 277 0 j9_ := fun j9_ => by (try simp only [rd_eq, rd_ne, rf_eq, rf_nk, rf_nt, rd_fa, rd_af, rd_fl, rd_al, rd_lf, rd_la, rd_leq, rd_lne, rd_fr, rd_ar, ne_eq, Nat.reduceEqDiff, not_false_eq_true])
                  have r8_ : ∀ j9_, ((sm_aI (sm_aI (sm_aI (sm_aI S_ 276 0 (40 * ow_ + n_).toNat bs_) 277 0 (40 * ow_ + n_).toNat b_) 278 0 (40 * ow_ + n_).toNat (S_.2.2.1 279 0 b_.toNat)) 279 0 b_.toNat ((S_.2.2.1 279 0 b_.toNat) + 1))).2.2.1 278 0 j9_ = if j9_ = (40 * ow_ + n_).toNat then S_.2.2.1 279 0 b_.toNat else S_.2.2.1 278 0 j9_ := fun j9_ => by (try simp only [rd_eq, rd_ne, rf_eq, rf_nk, rf_nt, rd_fa, rd_af, rd_fl, rd_al, rd_lf, rd_la, rd_leq, rd_lne, rd_fr, rd_ar, ne_eq, Nat.reduceEqDiff, not_false_eq_true])
                  intro i9_ u0_ u1_
                  rw [r7_, r8_]
                  by_cases z9_ : i9_ = n_
                  · rw [if_pos (by omega), if_pos (by omega)]; exact ⟨by omega, by first | exact Or.inl (by omega) | exact Or.inr ⟨by omega, by (show _ < S0_.2.2.1 275 0 (256 * e_ + b_).toNat; rw [← x275_]; omega)⟩⟩
                  · rw [if_neg (by omega), if_neg (by omega)]; exact hz_ i9_ u0_ (by omega)
                · first | exact h4_ | (funext j9_; have y9_ := congrFun h4_ j9_; (try simp only [rd_eq, rd_ne, rf_eq, rf_nk, rf_nt, rd_fa, rd_af, rd_fl, rd_al, rd_lf, rd_la, rd_leq, rd_lne, rd_fr, rd_ar, ne_eq, Nat.reduceEqDiff, not_false_eq_true]); exact y9_)
                · omega
            · have cx17_ : ¬ (en_ = 0) := of_decide_eq_false cx17_
              refine sm_T_go 2 (c1 := (368, [some (.inr (.inr (some (13, 0)))), some (.inl c_), some (.inl e_), some (.inl net_), some (.inl fi_), some (.inl ow_), some (.inl en_), some (.inl (n_ + 1)), some (.inl 1), some (.inl bs_), some (.inl b_), some (.inl w_), none, none], [.inl 10000, .inl b_], sm_aI (sm_aI (sm_aI S_ 276 0 (40 * ow_ + n_).toNat bs_) 277 0 (40 * ow_ + n_).toNat b_) 278 0 (40 * ow_ + n_).toNat (S_.2.2.1 279 0 b_.toNat))) rfl ?_
              refine sm_T_br (a := 3) (z := 7) rfl (fun cx21_ => ?_) (fun cx21_ => ?_)
              · have cx21_ : 10000 ≤ b_ := of_decide_eq_true cx21_
                exfalso; omega
              · have cx21_ : ¬ (10000 ≤ b_) := of_decide_eq_false cx21_
                refine sm_T_go 5 (c1 := (383, [some (.inr (.inr (some (13, 0)))), some (.inl c_), some (.inl e_), some (.inl net_), some (.inl fi_), some (.inl ow_), some (.inl 1), some (.inl (n_ + 1)), some (.inl 1), some (.inl bs_), some (.inl b_), some (.inl w_), none, none], [.inl 10000, .inl b_], sm_aI (sm_aI (sm_aI S_ 276 0 (40 * ow_ + n_).toNat bs_) 277 0 (40 * ow_ + n_).toNat b_) 278 0 (40 * ow_ + n_).toNat (S_.2.2.1 279 0 b_.toNat))) rfl ?_
                refine sm_T_br (a := 3) (z := 14) rfl (fun cx22_ => ?_) (fun cx22_ => ?_)
                · have cx22_ : 10000 ≤ b_ := of_decide_eq_true cx22_
                  exfalso; omega
                · have cx22_ : ¬ (10000 ≤ b_) := of_decide_eq_false cx22_
                  refine sm_T_go 4 (c1 := (393, [some (.inr (.inr (some (13, 0)))), some (.inl c_), some (.inl e_), some (.inl net_), some (.inl fi_), some (.inl ow_), some (.inl 1), some (.inl (n_ + 1)), some (.inl 1), some (.inl bs_), some (.inl b_), some (.inl w_), none, none], [.inl b_, .inr (.inr (some (279, 0))), .inl b_, .inr (.inr (some (279, 0)))], sm_aI (sm_aI (sm_aI S_ 276 0 (40 * ow_ + n_).toNat bs_) 277 0 (40 * ow_ + n_).toNat b_) 278 0 (40 * ow_ + n_).toNat (S_.2.2.1 279 0 b_.toNat))) rfl ?_
                  refine sm_T_iald (n := 256) rfl rfl (by omega) (by omega) ?_
                  refine sm_T_go 1 (c1 := (395, [some (.inr (.inr (some (13, 0)))), some (.inl c_), some (.inl e_), some (.inl net_), some (.inl fi_), some (.inl ow_), some (.inl 1), some (.inl (n_ + 1)), some (.inl 1), some (.inl bs_), some (.inl b_), some (.inl w_), none, none], [.inl 1, .inl (S_.2.2.1 279 0 b_.toNat), .inl b_, .inr (.inr (some (279, 0)))], sm_aI (sm_aI (sm_aI S_ 276 0 (40 * ow_ + n_).toNat bs_) 277 0 (40 * ow_ + n_).toNat b_) 278 0 (40 * ow_ + n_).toNat (S_.2.2.1 279 0 b_.toNat))) rfl ?_
                  refine sm_T_bin (w := (S_.2.2.1 279 0 b_.toNat) + 1) rfl (bi_add (by omega) (by omega) (by omega)) ?_ -- pc_ 395
                  refine sm_T_iast (n := 256) rfl rfl (by omega) (by omega) ?_
                  have hIx23_ : gi (sm_aI (sm_aI (sm_aI (sm_aI S_ 276 0 (40 * ow_ + n_).toNat bs_) 277 0 (40 * ow_ + n_).toNat b_) 278 0 (40 * ow_ + n_).toNat (S_.2.2.1 279 0 b_.toNat)) 279 0 b_.toNat ((S_.2.2.1 279 0 b_.toNat) + 1)) := gi_aI hIx15_ (show 0 ≤ (S_.2.2.1 279 0 b_.toNat) + 1 ∧ (S_.2.2.1 279 0 b_.toNat) + 1 ≤ 42 from ⟨by omega, by omega⟩)
                  have hFx24_ : ai_fr (sx_W vw_502) S0_ (sm_aI (sm_aI (sm_aI (sm_aI S_ 276 0 (40 * ow_ + n_).toNat bs_) 277 0 (40 * ow_ + n_).toNat b_) 278 0 (40 * ow_ + n_).toNat (S_.2.2.1 279 0 b_.toNat)) 279 0 b_.toNat ((S_.2.2.1 279 0 b_.toNat) + 1)) := ai_fr_tr hFx16_ (ai_fr_aI rfl)
                  refine sm_T_go 1 (c1 := (100, [some (.inr (.inr (some (13, 0)))), some (.inl c_), some (.inl e_), some (.inl net_), some (.inl fi_), some (.inl ow_), some (.inl 1), some (.inl (n_ + 1)), some (.inl 1), some (.inl bs_), some (.inl b_), some (.inl w_), none, none], [], sm_aI (sm_aI (sm_aI (sm_aI S_ 276 0 (40 * ow_ + n_).toNat bs_) 277 0 (40 * ow_ + n_).toNat b_) 278 0 (40 * ow_ + n_).toNat (S_.2.2.1 279 0 b_.toNat)) 279 0 b_.toNat ((S_.2.2.1 279 0 b_.toNat) + 1))) rfl ?_
                  refine sm_T_wk [some (.inr (.inr (some (13, 0)))), some (.inl c_), some (.inl e_), some (.inl net_), some (.inl fi_), some (.inl ow_), some (.inl 1), some (.inl (n_ + 1)), some (.inl 1), none, none, none, none, none] (by exact ⟨rfl, rfl, rfl, rfl, rfl, rfl, rfl, rfl, rfl, trivial⟩) ?_
                  refine ih_.2.1 fi_ ow_ 1 (n_ + 1) 1 (sm_aI (sm_aI (sm_aI (sm_aI S_ 276 0 (40 * ow_ + n_).toNat bs_) 277 0 (40 * ow_ + n_).toNat b_) 278 0 (40 * ow_ + n_).toNat (S_.2.2.1 279 0 b_.toNat)) 279 0 b_.toNat ((S_.2.2.1 279 0 b_.toNat) + 1)) hIx23_ hFx24_ ⟨?_, ?_, ?_, ?_, ?_, trivial⟩ ?_
                  · omega
                  · intro x9_ u0_ u1_
                    (try simp only [rd_eq, rd_ne, rf_eq, rf_nk, rf_nt, rd_fa, rd_af, rd_fl, rd_al, rd_lf, rd_la, rd_leq, rd_lne, rd_fr, rd_ar, ne_eq, Nat.reduceEqDiff, not_false_eq_true])
                    by_cases z9_ : x9_.toNat = b_.toNat
                    · right; omega
                    · rw [if_neg z9_]; exact hp_ x9_ u0_ u1_
                  · refine tfr_tr hf_ ⟨fun j9_ h9_ => by (try simp only [rd_eq, rd_ne, rf_eq, rf_nk, rf_nt, rd_fa, rd_af, rd_fl, rd_al, rd_lf, rd_la, rd_leq, rd_lne, rd_fr, rd_ar, ne_eq, Nat.reduceEqDiff, not_false_eq_true]), fun j9_ h9_ => ⟨by ((try simp only [rd_eq, rd_ne, rf_eq, rf_nk, rf_nt, rd_fa, rd_af, rd_fl, rd_al, rd_lf, rd_la, rd_leq, rd_lne, rd_fr, rd_ar, ne_eq, Nat.reduceEqDiff, not_false_eq_true]); rw [if_neg (by omega)]), by ((try simp only [rd_eq, rd_ne, rf_eq, rf_nk, rf_nt, rd_fa, rd_af, rd_fl, rd_al, rd_lf, rd_la, rd_leq, rd_lne, rd_fr, rd_ar, ne_eq, Nat.reduceEqDiff, not_false_eq_true]); rw [if_neg (by omega)])⟩⟩
                  · have r7_ : ∀ j9_, ((sm_aI (sm_aI (sm_aI (sm_aI S_ 276 0 (40 * ow_ + n_).toNat bs_) 277 0 (40 * ow_ + n_).toNat b_) 278 0 (40 * ow_ + n_).toNat (S_.2.2.1 279 0 b_.toNat)) 279 0 b_.toNat ((S_.2.2.1 279 0 b_.toNat) + 1))).2.2.1 277 0 j9_ = if j9_ = (40 * ow_ + n_).toNat then b_ else S_.2.2.1 277 0 j9_ := fun j9_ => by (try simp only [rd_eq, rd_ne, rf_eq, rf_nk, rf_nt, rd_fa, rd_af, rd_fl, rd_al, rd_lf, rd_la, rd_leq, rd_lne, rd_fr, rd_ar, ne_eq, Nat.reduceEqDiff, not_false_eq_true])
                    have r8_ : ∀ j9_, ((sm_aI (sm_aI (sm_aI (sm_aI S_ 276 0 (40 * ow_ + n_).toNat bs_) 277 0 (40 * ow_ + n_).toNat b_) 278 0 (40 * ow_ + n_).toNat (S_.2.2.1 279 0 b_.toNat)) 279 0 b_.toNat ((S_.2.2.1 279 0 b_.toNat) + 1))).2.2.1 278 0 j9_ = if j9_ = (40 * ow_ + n_).toNat then S_.2.2.1 279 0 b_.toNat else S_.2.2.1 278 0 j9_ := fun j9_ => by (try simp only [rd_eq, rd_ne, rf_eq, rf_nk, rf_nt, rd_fa, rd_af, rd_fl, rd_al, rd_lf, rd_la, rd_leq, rd_lne, rd_fr, rd_ar, ne_eq, Nat.reduceEqDiff, not_false_eq_true])
                    intro i9_ u0_ u1_
                    rw [r7_, r8_]
                    by_cases z9_ : i9_ = n_
                    · rw [if_pos (by omega), if_pos (by omega)]; exact ⟨by omega, by first | exact Or.inl (by omega) | exact Or.inr ⟨by omega, by (show _ < S0_.2.2.1 275 0 (256 * e_ + b_).toNat; rw [← x275_]; omega)⟩⟩
                    · rw [if_neg (by omega), if_neg (by omega)]; exact hz_ i9_ u0_ (by omega)
                  · first | exact h4_ | (funext j9_; have y9_ := congrFun h4_ j9_; (try simp only [rd_eq, rd_ne, rf_eq, rf_nk, rf_nt, rd_fa, rd_af, rd_fl, rd_al, rd_lf, rd_la, rd_leq, rd_lne, rd_fr, rd_ar, ne_eq, Nat.reduceEqDiff, not_false_eq_true]); exact y9_)
                  · omega
      · have cx1_ : ¬ (w_ < fi_) := of_decide_eq_false cx1_
        refine sm_T_go 2 (c1 := (174, [some (.inr (.inr (some (13, 0)))), some (.inl c_), some (.inl e_), some (.inl net_), some (.inl fi_), some (.inl ow_), some (.inl en_), some (.inl n_), none, some (.inl bs_), some (.inl b_), some (.inl w_), none, none], [.inl e_, .inl 256], S_)) rfl ?_
        refine sm_T_bin (w := 256 * e_) rfl (bi_mul (by omega) (by omega) (by omega)) ?_ -- pc_ 174
        refine sm_T_go 1 (c1 := (177, [some (.inr (.inr (some (13, 0)))), some (.inl c_), some (.inl e_), some (.inl net_), some (.inl fi_), some (.inl ow_), some (.inl en_), some (.inl n_), none, some (.inl bs_), some (.inl b_), some (.inl w_), none, none], [.inl w_, .inl (256 * e_)], S_)) rfl ?_
        refine sm_T_bin (w := 256 * e_ + w_) rfl (bi_add (by omega) (by omega) (by omega)) ?_ -- pc_ 177
        refine sm_T_go 4 (c1 := (186, [some (.inr (.inr (some (13, 0)))), some (.inl c_), some (.inl e_), some (.inl net_), some (.inl fi_), some (.inl ow_), some (.inl en_), some (.inl n_), none, some (.inl bs_), some (.inl b_), some (.inl w_), some (.inl (256 * e_ + w_)), none], [.inl w_, .inr (.inr (some (279, 0)))], S_)) rfl ?_
        refine sm_T_iald (n := 256) rfl rfl (by omega) (by omega) ?_
        have bx25_ : 0 ≤ S_.2.2.1 279 0 w_.toNat ∧ S_.2.2.1 279 0 w_.toNat ≤ 42 := hI_.2 279 0 _
        refine sm_T_go 3 (c1 := (193, [some (.inr (.inr (some (13, 0)))), some (.inl c_), some (.inl e_), some (.inl net_), some (.inl fi_), some (.inl ow_), some (.inl en_), some (.inl n_), none, some (.inl bs_), some (.inl b_), some (.inl w_), some (.inl (256 * e_ + w_)), none], [.inl (256 * e_ + w_), .inr (.inr (some (275, 0))), .inl (S_.2.2.1 279 0 w_.toNat)], S_)) rfl ?_
        refine sm_T_iald (n := 5632) rfl rfl (by omega) (by omega) ?_
        have bx26_ : 0 ≤ S_.2.2.1 275 0 (256 * e_ + w_).toNat ∧ S_.2.2.1 275 0 (256 * e_ + w_).toNat ≤ 40 := hI_.2 275 0 _
        refine sm_T_br (a := 3) (z := 75) rfl (fun cx27_ => ?_) (fun cx27_ => ?_)
        · have cx27_ : (S_.2.2.1 275 0 (256 * e_ + w_).toNat) ≤ (S_.2.2.1 279 0 w_.toNat) := of_decide_eq_true cx27_
          refine sm_T_inc (a := 11) (z := (-1)) (v := w_) (w := w_ - 1) rfl rfl (by omega) (by omega) (by omega) ?_ -- pc_ 269
          refine sm_T_go 1 (c1 := (163, [some (.inr (.inr (some (13, 0)))), some (.inl c_), some (.inl e_), some (.inl net_), some (.inl fi_), some (.inl ow_), some (.inl en_), some (.inl n_), none, some (.inl bs_), some (.inl b_), some (.inl (w_ - 1)), some (.inl (256 * e_ + w_)), none], [], S_)) rfl ?_
          refine sm_T_wk [some (.inr (.inr (some (13, 0)))), some (.inl c_), some (.inl e_), some (.inl net_), some (.inl fi_), some (.inl ow_), some (.inl en_), some (.inl n_), none, some (.inl bs_), some (.inl b_), some (.inl (w_ - 1)), none, none] (by exact ⟨rfl, rfl, rfl, rfl, rfl, rfl, rfl, rfl, rfl, rfl, rfl, trivial⟩) ?_
          refine ih_.2.2 fi_ ow_ en_ n_ bs_ b_ (w_ - 1) S_ hI_ hF_ ⟨?_, ?_, ?_, ?_, ?_, ?_, trivial⟩ ?_
          · omega
          · exact hp_
          · exact hf_
          · exact hz_
          · omega
          · first | exact h4_ | (funext j9_; have y9_ := congrFun h4_ j9_; (try simp only [rd_eq, rd_ne, rf_eq, rf_nk, rf_nt, rd_fa, rd_af, rd_fl, rd_al, rd_lf, rd_la, rd_leq, rd_lne, rd_fr, rd_ar, ne_eq, Nat.reduceEqDiff, not_false_eq_true]); exact y9_)
          · omega
        · have cx27_ : ¬ ((S_.2.2.1 275 0 (256 * e_ + w_).toNat) ≤ (S_.2.2.1 279 0 w_.toNat)) := of_decide_eq_false cx27_
          have p9_ := hp_ w_ (by omega) (by omega)
          refine sm_T_go 3 (c1 := (203, [some (.inr (.inr (some (13, 0)))), some (.inl c_), some (.inl e_), some (.inl net_), some (.inl fi_), some (.inl ow_), some (.inl en_), some (.inl n_), none, some (.inl bs_), some (.inl b_), some (.inl w_), some (.inl (256 * e_ + w_)), none], [.inl w_, .inr (.inr (some (279, 0)))], S_)) rfl ?_
          refine sm_T_iald (n := 256) rfl rfl (by omega) (by omega) ?_
          refine sm_T_go 1 (c1 := (206, [some (.inr (.inr (some (13, 0)))), some (.inl c_), some (.inl e_), some (.inl net_), some (.inl fi_), some (.inl ow_), some (.inl en_), some (.inl n_), none, some (.inl bs_), some (.inl b_), some (.inl w_), some (.inl (256 * e_ + w_)), none], [.inl 40, .inl (S_.2.2.1 279 0 w_.toNat)], S_)) rfl ?_
          refine sm_T_br (a := 3) (z := 63) rfl (fun cx28_ => ?_) (fun cx28_ => ?_)
          · have cx28_ : 40 ≤ (S_.2.2.1 279 0 w_.toNat) := of_decide_eq_true cx28_
            refine sm_T_inc (a := 11) (z := (-1)) (v := w_) (w := w_ - 1) rfl rfl (by omega) (by omega) (by omega) ?_ -- pc_ 269
            refine sm_T_go 1 (c1 := (163, [some (.inr (.inr (some (13, 0)))), some (.inl c_), some (.inl e_), some (.inl net_), some (.inl fi_), some (.inl ow_), some (.inl en_), some (.inl n_), none, some (.inl bs_), some (.inl b_), some (.inl (w_ - 1)), some (.inl (256 * e_ + w_)), none], [], S_)) rfl ?_
            refine sm_T_wk [some (.inr (.inr (some (13, 0)))), some (.inl c_), some (.inl e_), some (.inl net_), some (.inl fi_), some (.inl ow_), some (.inl en_), some (.inl n_), none, some (.inl bs_), some (.inl b_), some (.inl (w_ - 1)), none, none] (by exact ⟨rfl, rfl, rfl, rfl, rfl, rfl, rfl, rfl, rfl, rfl, rfl, trivial⟩) ?_
            refine ih_.2.2 fi_ ow_ en_ n_ bs_ b_ (w_ - 1) S_ hI_ hF_ ⟨?_, ?_, ?_, ?_, ?_, ?_, trivial⟩ ?_
            · omega
            · exact hp_
            · exact hf_
            · exact hz_
            · omega
            · first | exact h4_ | (funext j9_; have y9_ := congrFun h4_ j9_; (try simp only [rd_eq, rd_ne, rf_eq, rf_nk, rf_nt, rd_fa, rd_af, rd_fl, rd_al, rd_lf, rd_la, rd_leq, rd_lne, rd_fr, rd_ar, ne_eq, Nat.reduceEqDiff, not_false_eq_true]); exact y9_)
            · omega
          · have cx28_ : ¬ (40 ≤ (S_.2.2.1 279 0 w_.toNat)) := of_decide_eq_false cx28_
            refine sm_T_go 4 (c1 := (217, [some (.inr (.inr (some (13, 0)))), some (.inl c_), some (.inl e_), some (.inl net_), some (.inl fi_), some (.inl ow_), some (.inl en_), some (.inl n_), none, some (.inl bs_), some (.inl b_), some (.inl w_), some (.inl (256 * e_ + w_)), none], [.inl (256 * e_ + w_), .inl 40, .inr (.inr (some (276, 0)))], S_)) rfl ?_
            refine sm_T_bin (w := 10240 * e_ + 40 * w_) rfl (bi_mul (by omega) (by omega) (by omega)) ?_ -- pc_ 217
            refine sm_T_go 3 (c1 := (224, [some (.inr (.inr (some (13, 0)))), some (.inl c_), some (.inl e_), some (.inl net_), some (.inl fi_), some (.inl ow_), some (.inl en_), some (.inl n_), none, some (.inl bs_), some (.inl b_), some (.inl w_), some (.inl (256 * e_ + w_)), none], [.inl w_, .inr (.inr (some (279, 0))), .inl (10240 * e_ + 40 * w_), .inr (.inr (some (276, 0)))], S_)) rfl ?_
            refine sm_T_iald (n := 256) rfl rfl (by omega) (by omega) ?_
            refine sm_T_bin (w := 10240 * e_ + 40 * w_ + (S_.2.2.1 279 0 w_.toNat)) rfl (bi_add (by omega) (by omega) (by omega)) ?_ -- pc_ 225
            refine sm_T_iald (n := 225280) rfl rfl (by omega) (by omega) ?_
            have bx29_ : (-2147483648) ≤ S_.2.2.1 276 0 (10240 * e_ + 40 * w_ + (S_.2.2.1 279 0 w_.toNat)).toNat ∧ S_.2.2.1 276 0 (10240 * e_ + 40 * w_ + (S_.2.2.1 279 0 w_.toNat)).toNat ≤ 2147483647 := hI_.2 276 0 _
            refine sm_T_go 3 (c1 := (233, [some (.inr (.inr (some (13, 0)))), some (.inl c_), some (.inl e_), some (.inl net_), some (.inl fi_), some (.inl ow_), some (.inl en_), some (.inl n_), none, some (.inl bs_), some (.inl b_), some (.inl w_), some (.inl (256 * e_ + w_)), none], [.inl w_, .inr (.inr (some (270, 0))), .inl (S_.2.2.1 276 0 (10240 * e_ + 40 * w_ + (S_.2.2.1 279 0 w_.toNat)).toNat)], S_)) rfl ?_
            refine sm_T_iald (n := 256) rfl rfl (by omega) (by omega) ?_
            have bx30_ : (-2147483648) ≤ S_.2.2.1 270 0 w_.toNat ∧ S_.2.2.1 270 0 w_.toNat ≤ 2147483647 := hI_.2 270 0 _
            refine sm_T_bin (w := (i_add (S_.2.2.1 276 0 (10240 * e_ + 40 * w_ + (S_.2.2.1 279 0 w_.toNat)).toNat) (S_.2.2.1 270 0 w_.toNat))) rfl rfl ?_ -- pc_ 234
            have bx31_ := i_add_r (S_.2.2.1 276 0 (10240 * e_ + 40 * w_ + (S_.2.2.1 279 0 w_.toNat)).toNat) (S_.2.2.1 270 0 w_.toNat)
            refine sm_T_go 3 (c1 := (241, [some (.inr (.inr (some (13, 0)))), some (.inl c_), some (.inl e_), some (.inl net_), some (.inl fi_), some (.inl ow_), some (.inl en_), some (.inl n_), none, some (.inl bs_), some (.inl b_), some (.inl w_), some (.inl (256 * e_ + w_)), some (.inl (i_add (S_.2.2.1 276 0 (10240 * e_ + 40 * w_ + (S_.2.2.1 279 0 w_.toNat)).toNat) (S_.2.2.1 270 0 w_.toNat)))], [.inl bs_, .inl (i_add (S_.2.2.1 276 0 (10240 * e_ + 40 * w_ + (S_.2.2.1 279 0 w_.toNat)).toNat) (S_.2.2.1 270 0 w_.toNat))], S_)) rfl ?_
            refine sm_T_br (a := 2) (z := 8) rfl (fun cx32_ => ?_) (fun cx32_ => ?_)
            · have cx32_ : (i_add (S_.2.2.1 276 0 (10240 * e_ + 40 * w_ + (S_.2.2.1 279 0 w_.toNat)).toNat) (S_.2.2.1 270 0 w_.toNat)) < bs_ := of_decide_eq_true cx32_
              refine sm_T_go 4 (c1 := (257, [some (.inr (.inr (some (13, 0)))), some (.inl c_), some (.inl e_), some (.inl net_), some (.inl fi_), some (.inl ow_), some (.inl en_), some (.inl n_), none, some (.inl bs_), some (.inl b_), some (.inl w_), some (.inl (256 * e_ + w_)), some (.inl (i_add (S_.2.2.1 276 0 (10240 * e_ + 40 * w_ + (S_.2.2.1 279 0 w_.toNat)).toNat) (S_.2.2.1 270 0 w_.toNat)))], [.inl bs_, .inl (i_add (S_.2.2.1 276 0 (10240 * e_ + 40 * w_ + (S_.2.2.1 279 0 w_.toNat)).toNat) (S_.2.2.1 270 0 w_.toNat))], S_)) rfl ?_
              refine sm_T_br (a := 2) (z := 8) rfl (fun cx33_ => ?_) (fun cx33_ => ?_)
              · have cx33_ : (i_add (S_.2.2.1 276 0 (10240 * e_ + 40 * w_ + (S_.2.2.1 279 0 w_.toNat)).toNat) (S_.2.2.1 270 0 w_.toNat)) < bs_ := of_decide_eq_true cx33_
                refine sm_T_go 2 (c1 := (269, [some (.inr (.inr (some (13, 0)))), some (.inl c_), some (.inl e_), some (.inl net_), some (.inl fi_), some (.inl ow_), some (.inl en_), some (.inl n_), none, some (.inl bs_), some (.inl b_), some (.inl w_), some (.inl (256 * e_ + w_)), some (.inl (i_add (S_.2.2.1 276 0 (10240 * e_ + 40 * w_ + (S_.2.2.1 279 0 w_.toNat)).toNat) (S_.2.2.1 270 0 w_.toNat)))], [], S_)) rfl ?_
                refine sm_T_inc (a := 11) (z := (-1)) (v := w_) (w := w_ - 1) rfl rfl (by omega) (by omega) (by omega) ?_ -- pc_ 269
                refine sm_T_go 1 (c1 := (163, [some (.inr (.inr (some (13, 0)))), some (.inl c_), some (.inl e_), some (.inl net_), some (.inl fi_), some (.inl ow_), some (.inl en_), some (.inl n_), none, some (.inl bs_), some (.inl b_), some (.inl (w_ - 1)), some (.inl (256 * e_ + w_)), some (.inl (i_add (S_.2.2.1 276 0 (10240 * e_ + 40 * w_ + (S_.2.2.1 279 0 w_.toNat)).toNat) (S_.2.2.1 270 0 w_.toNat)))], [], S_)) rfl ?_
                refine sm_T_wk [some (.inr (.inr (some (13, 0)))), some (.inl c_), some (.inl e_), some (.inl net_), some (.inl fi_), some (.inl ow_), some (.inl en_), some (.inl n_), none, some (.inl bs_), some (.inl b_), some (.inl (w_ - 1)), none, none] (by exact ⟨rfl, rfl, rfl, rfl, rfl, rfl, rfl, rfl, rfl, rfl, rfl, trivial⟩) ?_
                refine ih_.2.2 fi_ ow_ en_ n_ bs_ b_ (w_ - 1) S_ hI_ hF_ ⟨?_, ?_, ?_, ?_, ?_, ?_, trivial⟩ ?_
                · omega
                · exact hp_
                · exact hf_
                · exact hz_
                · omega
                · first | exact h4_ | (funext j9_; have y9_ := congrFun h4_ j9_; (try simp only [rd_eq, rd_ne, rf_eq, rf_nk, rf_nt, rd_fa, rd_af, rd_fl, rd_al, rd_lf, rd_la, rd_leq, rd_lne, rd_fr, rd_ar, ne_eq, Nat.reduceEqDiff, not_false_eq_true]); exact y9_)
                · omega
              · have cx33_ : ¬ ((i_add (S_.2.2.1 276 0 (10240 * e_ + 40 * w_ + (S_.2.2.1 279 0 w_.toNat)).toNat) (S_.2.2.1 270 0 w_.toNat)) < bs_) := of_decide_eq_false cx33_
                exfalso; omega
            · have cx32_ : ¬ ((i_add (S_.2.2.1 276 0 (10240 * e_ + 40 * w_ + (S_.2.2.1 279 0 w_.toNat)).toNat) (S_.2.2.1 270 0 w_.toNat)) < bs_) := of_decide_eq_false cx32_
              refine sm_T_go 5 (c1 := (257, [some (.inr (.inr (some (13, 0)))), some (.inl c_), some (.inl e_), some (.inl net_), some (.inl fi_), some (.inl ow_), some (.inl en_), some (.inl n_), none, some (.inl bs_), some (.inl w_), some (.inl w_), some (.inl (256 * e_ + w_)), some (.inl (i_add (S_.2.2.1 276 0 (10240 * e_ + 40 * w_ + (S_.2.2.1 279 0 w_.toNat)).toNat) (S_.2.2.1 270 0 w_.toNat)))], [.inl bs_, .inl (i_add (S_.2.2.1 276 0 (10240 * e_ + 40 * w_ + (S_.2.2.1 279 0 w_.toNat)).toNat) (S_.2.2.1 270 0 w_.toNat))], S_)) rfl ?_
              refine sm_T_br (a := 2) (z := 8) rfl (fun cx34_ => ?_) (fun cx34_ => ?_)
              · have cx34_ : (i_add (S_.2.2.1 276 0 (10240 * e_ + 40 * w_ + (S_.2.2.1 279 0 w_.toNat)).toNat) (S_.2.2.1 270 0 w_.toNat)) < bs_ := of_decide_eq_true cx34_
                exfalso; omega
              · have cx34_ : ¬ ((i_add (S_.2.2.1 276 0 (10240 * e_ + 40 * w_ + (S_.2.2.1 279 0 w_.toNat)).toNat) (S_.2.2.1 270 0 w_.toNat)) < bs_) := of_decide_eq_false cx34_
                refine sm_T_go 3 (c1 := (269, [some (.inr (.inr (some (13, 0)))), some (.inl c_), some (.inl e_), some (.inl net_), some (.inl fi_), some (.inl ow_), some (.inl en_), some (.inl n_), none, some (.inl (i_add (S_.2.2.1 276 0 (10240 * e_ + 40 * w_ + (S_.2.2.1 279 0 w_.toNat)).toNat) (S_.2.2.1 270 0 w_.toNat))), some (.inl w_), some (.inl w_), some (.inl (256 * e_ + w_)), some (.inl (i_add (S_.2.2.1 276 0 (10240 * e_ + 40 * w_ + (S_.2.2.1 279 0 w_.toNat)).toNat) (S_.2.2.1 270 0 w_.toNat)))], [], S_)) rfl ?_
                refine sm_T_inc (a := 11) (z := (-1)) (v := w_) (w := w_ - 1) rfl rfl (by omega) (by omega) (by omega) ?_ -- pc_ 269
                refine sm_T_go 1 (c1 := (163, [some (.inr (.inr (some (13, 0)))), some (.inl c_), some (.inl e_), some (.inl net_), some (.inl fi_), some (.inl ow_), some (.inl en_), some (.inl n_), none, some (.inl (i_add (S_.2.2.1 276 0 (10240 * e_ + 40 * w_ + (S_.2.2.1 279 0 w_.toNat)).toNat) (S_.2.2.1 270 0 w_.toNat))), some (.inl w_), some (.inl (w_ - 1)), some (.inl (256 * e_ + w_)), some (.inl (i_add (S_.2.2.1 276 0 (10240 * e_ + 40 * w_ + (S_.2.2.1 279 0 w_.toNat)).toNat) (S_.2.2.1 270 0 w_.toNat)))], [], S_)) rfl ?_
                refine sm_T_wk [some (.inr (.inr (some (13, 0)))), some (.inl c_), some (.inl e_), some (.inl net_), some (.inl fi_), some (.inl ow_), some (.inl en_), some (.inl n_), none, some (.inl (i_add (S_.2.2.1 276 0 (10240 * e_ + 40 * w_ + (S_.2.2.1 279 0 w_.toNat)).toNat) (S_.2.2.1 270 0 w_.toNat))), some (.inl w_), some (.inl (w_ - 1)), none, none] (by exact ⟨rfl, rfl, rfl, rfl, rfl, rfl, rfl, rfl, rfl, rfl, rfl, trivial⟩) ?_
                refine ih_.2.2 fi_ ow_ en_ n_ (i_add (S_.2.2.1 276 0 (10240 * e_ + 40 * w_ + (S_.2.2.1 279 0 w_.toNat)).toNat) (S_.2.2.1 270 0 w_.toNat)) w_ (w_ - 1) S_ hI_ hF_ ⟨?_, ?_, ?_, ?_, ?_, ?_, trivial⟩ ?_
                · omega
                · exact hp_
                · exact hf_
                · exact hz_
                · omega
                · first | exact h4_ | (funext j9_; have y9_ := congrFun h4_ j9_; (try simp only [rd_eq, rd_ne, rf_eq, rf_nk, rf_nt, rd_fa, rd_af, rd_fl, rd_al, rd_lf, rd_la, rd_leq, rd_lne, rd_fr, rd_ar, ne_eq, Nat.reduceEqDiff, not_false_eq_true]); exact y9_)
                · omega
set_option maxHeartbeats 4000000 in
set_option maxRecDepth 20000 in
theorem vc_502 {sc_ : Nat × (Nat → Int)} (c_ : Int) (e_ : Int) (net_ : Int) (S0_ : sm_S) (hI_ : gi S0_) (hc_ : 0 ≤ c_ ∧ c_ ≤ 3) (hx_ : S0_.2.2.1 223 0 c_.toNat + S0_.2.2.1 224 0 c_.toNat ≤ 12) (ho_ : con c_ S0_) (he_ : 0 ≤ e_ ∧ e_ ≤ 21) (hn_ : 0 ≤ net_ ∧ net_ < (S0_.2.2.1 223 0 c_.toNat + S0_.2.2.1 224 0 c_.toNat + S0_.2.2.1 228 0 c_.toNat)) (ht_ : ∀ n9_ : Int, net_ < n9_ → n9_ < (S0_.2.2.1 223 0 c_.toNat + S0_.2.2.1 224 0 c_.toNat + S0_.2.2.1 228 0 c_.toNat) → tok (S0_.2.2.1 223 0 c_.toNat + S0_.2.2.1 224 0 c_.toNat + S0_.2.2.1 228 0 c_.toNat) S0_ e_ n9_) : sm_T (mt_P sc_) 2 502 (0, [some (.inr (.inr (some (13, 0)))), some (.inl c_), some (.inl e_), some (.inl net_), none, none, none, none, none, none, none, none, none, none], [], S0_) (fun ro9_ => ∃ u_ S1_, ro9_ = (.inl u_, S1_, 0) ∧ vq_502 c_ e_ net_ S0_ u_ S1_) := by
  have hF_ : ai_fr (sx_W vw_502) S0_ S0_ := ai_fr_rf
  have cA_ : 0 ≤ S0_.2.2.1 223 0 c_.toNat ∧ S0_.2.2.1 223 0 c_.toNat ≤ 12 := hI_.2 223 0 _
  have cG_ : 0 ≤ S0_.2.2.1 228 0 c_.toNat ∧ S0_.2.2.1 228 0 c_.toNat ≤ 150 := hI_.2 228 0 _
  have cB_ : 0 ≤ S0_.2.2.1 224 0 c_.toNat ∧ S0_.2.2.1 224 0 c_.toNat ≤ 6 := hI_.2 224 0 _
  refine sm_T_go 3 (c1 := (5, [some (.inr (.inr (some (13, 0)))), some (.inl c_), some (.inl e_), some (.inl net_), none, none, none, none, none, none, none, none, none, none], [.inl c_, .inr (.inr (some (223, 0)))], S0_)) rfl ?_
  refine sm_T_iald (n := 4) rfl rfl (by omega) (by omega) ?_
  have bx1_ : 0 ≤ S0_.2.2.1 223 0 c_.toNat ∧ S0_.2.2.1 223 0 c_.toNat ≤ 12 := hI_.2 223 0 _
  refine sm_T_go 3 (c1 := (11, [some (.inr (.inr (some (13, 0)))), some (.inl c_), some (.inl e_), some (.inl net_), none, none, none, none, none, none, none, none, none, none], [.inl c_, .inr (.inr (some (224, 0))), .inl (S0_.2.2.1 223 0 c_.toNat)], S0_)) rfl ?_
  refine sm_T_iald (n := 4) rfl rfl (by omega) (by omega) ?_
  have bx2_ : 0 ≤ S0_.2.2.1 224 0 c_.toNat ∧ S0_.2.2.1 224 0 c_.toNat ≤ 6 := hI_.2 224 0 _
  refine sm_T_bin (w := (S0_.2.2.1 223 0 c_.toNat) + (S0_.2.2.1 224 0 c_.toNat)) rfl (bi_add (by omega) (by omega) (by omega)) ?_ -- pc_ 12
  refine sm_T_go 3 (c1 := (19, [some (.inr (.inr (some (13, 0)))), some (.inl c_), some (.inl e_), some (.inl net_), some (.inl ((S0_.2.2.1 223 0 c_.toNat) + (S0_.2.2.1 224 0 c_.toNat))), none, none, none, none, none, none, none, none, none], [.inl e_, .inl 256], S0_)) rfl ?_
  refine sm_T_bin (w := 256 * e_) rfl (bi_mul (by omega) (by omega) (by omega)) ?_ -- pc_ 19
  refine sm_T_go 1 (c1 := (21, [some (.inr (.inr (some (13, 0)))), some (.inl c_), some (.inl e_), some (.inl net_), some (.inl ((S0_.2.2.1 223 0 c_.toNat) + (S0_.2.2.1 224 0 c_.toNat))), none, none, none, none, none, none, none, none, none], [.inl net_, .inl (256 * e_)], S0_)) rfl ?_
  refine sm_T_bin (w := 256 * e_ + net_) rfl (bi_add (by omega) (by omega) (by omega)) ?_ -- pc_ 21
  refine sm_T_go 4 (c1 := (27, [some (.inr (.inr (some (13, 0)))), some (.inl c_), some (.inl e_), some (.inl net_), some (.inl ((S0_.2.2.1 223 0 c_.toNat) + (S0_.2.2.1 224 0 c_.toNat))), some (.inl (256 * e_ + net_)), none, none, none, none, none, none, none, none], [.inl e_, .inl c_, .inr (.inr (some (13, 0)))], S0_)) rfl ?_
  refine sm_T_cal (d1 := 0) (Q1 := vq_498 c_ e_ S0_) rfl rfl (by decide) (vc_498 c_ e_ S0_ hI_ (by exact hc_) (by exact ho_)) (fun u_ Sx3_ px6_ => ?_)
  obtain ⟨rfl, vx8_, rfl, px6_⟩ := px6_
  refine sm_T_go 1 (c1 := (31, [some (.inr (.inr (some (13, 0)))), some (.inl c_), some (.inl e_), some (.inl net_), some (.inl ((S0_.2.2.1 223 0 c_.toNat) + (S0_.2.2.1 224 0 c_.toNat))), some (.inl (256 * e_ + net_)), none, none, none, none, none, none, none, none], [.inl net_, .inl vx8_], S0_)) rfl ?_
  refine sm_T_br (a := 1) (z := 7) rfl (fun cx9_ => ?_) (fun cx9_ => ?_)
  · have cx9_ : vx8_ ≠ net_ := of_decide_eq_true cx9_
    refine sm_T_go 6 (c1 := (48, [some (.inr (.inr (some (13, 0)))), some (.inl c_), some (.inl e_), some (.inl net_), some (.inl ((S0_.2.2.1 223 0 c_.toNat) + (S0_.2.2.1 224 0 c_.toNat))), some (.inl (256 * e_ + net_)), some (.inl 0), some (.inl 0), some (.inl ((S0_.2.2.1 223 0 c_.toNat) + (S0_.2.2.1 224 0 c_.toNat))), none, none, none, none, none], [], S0_)) rfl ?_
    refine (vl_502 c_ e_ net_ S0_ hc_ hx_ ho_ he_ hn_ ht_ _).1 ((S0_.2.2.1 223 0 c_.toNat) + (S0_.2.2.1 224 0 c_.toNat)) (256 * e_ + net_) 0 0 ((S0_.2.2.1 223 0 c_.toNat) + (S0_.2.2.1 224 0 c_.toNat)) S0_ hI_ hF_ ⟨?_, ?_, ?_, ?_, trivial⟩ (Nat.lt_succ_self _)
    · omega
    · (intro x9_ u0_ u1_; exfalso; omega)
    · exact tfr_rf
    · rfl
  · have cx9_ : ¬ (vx8_ ≠ net_) := of_decide_eq_false cx9_
    refine sm_T_go 7 (c1 := (48, [some (.inr (.inr (some (13, 0)))), some (.inl c_), some (.inl e_), some (.inl net_), some (.inl ((S0_.2.2.1 223 0 c_.toNat) + (S0_.2.2.1 224 0 c_.toNat))), some (.inl (256 * e_ + net_)), some (.inl 1), some (.inl 0), some (.inl ((S0_.2.2.1 223 0 c_.toNat) + (S0_.2.2.1 224 0 c_.toNat))), none, none, none, none, none], [], S0_)) rfl ?_
    refine (vl_502 c_ e_ net_ S0_ hc_ hx_ ho_ he_ hn_ ht_ _).1 ((S0_.2.2.1 223 0 c_.toNat) + (S0_.2.2.1 224 0 c_.toNat)) (256 * e_ + net_) 1 0 ((S0_.2.2.1 223 0 c_.toNat) + (S0_.2.2.1 224 0 c_.toNat)) S0_ hI_ hF_ ⟨?_, ?_, ?_, ?_, trivial⟩ (Nat.lt_succ_self _)
    · omega
    · (intro x9_ u0_ u1_; exfalso; omega)
    · exact tfr_rf
    · rfl

/-- where one_ stands in a_ path -/
def pst (N_ : Int) (S_ : sm_S) (e_ a_ x_ : Int) : Prop := 0 ≤ a_ ∧ (10000 ≤ a_ ∨ (a_ < N_ ∧ 0 ≤ x_ ∧ x_ < S_.2.2.1 275 0 (256 * e_ + a_).toNat))
theorem pst_s {N_ E_ e_ a_ x_ : Int} {S_ : sm_S} (hI_ : gi S_) (h_ : tal N_ E_ S_) (he_ : 0 ≤ e_ ∧ e_ < E_) (p_ : pst N_ S_ e_ a_ x_) (ha_ : a_ < 10000) : pst N_ S_ e_ (S_.2.2.1 277 0 (10240 * e_ + 40 * a_ + x_).toNat) (S_.2.2.1 278 0 (10240 * e_ + 40 * a_ + x_).toNat) ∧ a_ < S_.2.2.1 277 0 (10240 * e_ + 40 * a_ + x_).toNat := by
  obtain ⟨p1_, p2_⟩ := p_
  have p3_ := p2_.resolve_left (by omega)
  have q_ := h_ e_ a_ he_.1 he_.2 p1_ p3_.1 x_ p3_.2.1 p3_.2.2
  have c_ : 0 ≤ S_.2.2.1 278 0 (10240 * e_ + 40 * a_ + x_).toNat := (hI_.2 278 0 _).1
  refine ⟨⟨by have := q_.1; omega, ?_⟩, q_.1⟩
  rcases q_.2 with z_ | z_
  · exact Or.inl z_
  · exact Or.inr ⟨z_.1, c_, z_.2⟩
/-- paths that are_ chosen -/
def cho (N_ E_ : Int) (S_ : sm_S) : Prop := ∀ k_ : Int, 0 ≤ k_ → k_ < S_.1 13 0 206 → S_.2.2.1 281 0 k_.toNat < E_ ∧ pst N_ S_ (S_.2.2.1 281 0 k_.toNat) (S_.2.2.1 280 0 k_.toNat) (S_.2.2.1 282 0 k_.toNat)
/-! M_.isPathBefore -/
def vw_504 : sx_Wl := ([], [], [])
def vq_504 (s_ : Int) (e_ : Int) (i_ : Int) (t_ : Int) (f_ : Int) (j_ : Int) (N_ : Int) (E_ : Int) (S0_ : sm_S) (u_ : Option sm_V) (S1_ : sm_S) : Prop := S0_ = S1_ ∧ ∃ v_ : Int, u_ = some (.inl v_) ∧ (v_ = 0 ∨ v_ = 1)
set_option maxHeartbeats 1000000 in
set_option maxRecDepth 20000 in
theorem vl_504 {sc_ : Nat × (Nat → Int)} (s_ : Int) (e_ : Int) (i_ : Int) (t_ : Int) (f_ : Int) (j_ : Int) (N_ : Int) (E_ : Int) (S0_ : sm_S) (hE_ : 0 ≤ E_ ∧ E_ ≤ 22 ∧ N_ ≤ 168) (hs_ : 0 ≤ s_ ∧ s_ < N_ ∧ 0 ≤ t_ ∧ t_ < N_ ∧ 0 ≤ e_ ∧ e_ < E_ ∧ 0 ≤ f_ ∧ f_ < E_) (hi_ : 0 ≤ i_ ∧ i_ < S0_.2.2.1 275 0 (256 * e_ + s_).toNat) (hj_ : 0 ≤ j_ ∧ j_ < S0_.2.2.1 275 0 (256 * f_ + t_).toNat) (ht_ : tal N_ E_ S0_) : ∀ nn_ : Nat, (∀ (a_ : Int) (b_ : Int) (x_ : Int) (y_ : Int) (S_ : sm_S), gi S_ → ai_fr (sx_W vw_504) S0_ S_ → ((pst N_ S0_ e_ a_ x_) ∧ (pst N_ S0_ f_ b_ y_) ∧ (S_ = S0_) ∧ True) → ((30000 - a_).toNat) < nn_ → sm_T (mt_P sc_) 1 504 (60, [some (.inr (.inr (some (13, 0)))), some (.inl s_), some (.inl e_), some (.inl i_), some (.inl t_), some (.inl f_), some (.inl j_), some (.inl a_), some (.inl b_), some (.inl x_), some (.inl y_), none, none], [], S_) (fun ro9_ => ∃ u_ S1_, ro9_ = (.inl u_, S1_, 0) ∧ vq_504 s_ e_ i_ t_ f_ j_ N_ E_ S0_ u_ S1_)) := by
  intro nn_
  induction nn_ with
  | zero => exact fun _ _ _ _ _ _ _ _ h_ => absurd h_ (Nat.not_lt_zero _)
  | succ nn_ ih_ =>
    rintro a_ b_ x_ y_ S_ hI_ hF_ ⟨ha_, hb_, hS_, -⟩ hm_
    subst hS_
    have a1_ := ha_.1
    have a2_ := ha_.2
    have b1_ := hb_.1
    have b2_ := hb_.2
    have c1_ : 0 ≤ S_.2.2.1 275 0 (256 * e_ + a_).toNat ∧ S_.2.2.1 275 0 (256 * e_ + a_).toNat ≤ 40 := hI_.2 275 0 _
    have c2_ : 0 ≤ S_.2.2.1 275 0 (256 * f_ + b_).toNat ∧ S_.2.2.1 275 0 (256 * f_ + b_).toNat ≤ 40 := hI_.2 275 0 _
    refine sm_T_go 2 (c1 := (64, [some (.inr (.inr (some (13, 0)))), some (.inl s_), some (.inl e_), some (.inl i_), some (.inl t_), some (.inl f_), some (.inl j_), some (.inl a_), some (.inl b_), some (.inl x_), some (.inl y_), none, none], [.inl b_, .inl a_], S_)) rfl ?_
    refine sm_T_br (a := 1) (z := 83) rfl (fun cx1_ => ?_) (fun cx1_ => ?_)
    · have cx1_ : a_ ≠ b_ := of_decide_eq_true cx1_
      refine sm_T_go 2 (c1 := (151, [some (.inr (.inr (some (13, 0)))), some (.inl s_), some (.inl e_), some (.inl i_), some (.inl t_), some (.inl f_), some (.inl j_), some (.inl a_), some (.inl b_), some (.inl x_), some (.inl y_), none, none], [.inl b_, .inl a_], S_)) rfl ?_
      refine sm_T_br (a := 3) (z := 7) rfl (fun cx2_ => ?_) (fun cx2_ => ?_)
      · have cx2_ : b_ ≤ a_ := of_decide_eq_true cx2_
        refine sm_T_go 1 (c1 := (159, [some (.inr (.inr (some (13, 0)))), some (.inl s_), some (.inl e_), some (.inl i_), some (.inl t_), some (.inl f_), some (.inl j_), some (.inl a_), some (.inl b_), some (.inl x_), some (.inl y_), none, none], [.inl 0], S_)) rfl ?_
        refine sm_T_rz rfl (by omega) ⟨_, _, rfl, (by first | rfl | exact hS_.symm), _, rfl, ?_⟩
        omega
      · have cx2_ : ¬ (b_ ≤ a_) := of_decide_eq_false cx2_
        refine sm_T_go 2 (c1 := (159, [some (.inr (.inr (some (13, 0)))), some (.inl s_), some (.inl e_), some (.inl i_), some (.inl t_), some (.inl f_), some (.inl j_), some (.inl a_), some (.inl b_), some (.inl x_), some (.inl y_), none, none], [.inl 1], S_)) rfl ?_
        refine sm_T_rz rfl (by omega) ⟨_, _, rfl, (by first | rfl | exact hS_.symm), _, rfl, ?_⟩
        omega
    · have cx1_ : ¬ (a_ ≠ b_) := of_decide_eq_false cx1_
      refine sm_T_go 2 (c1 := (72, [some (.inr (.inr (some (13, 0)))), some (.inl s_), some (.inl e_), some (.inl i_), some (.inl t_), some (.inl f_), some (.inl j_), some (.inl a_), some (.inl b_), some (.inl x_), some (.inl y_), none, none], [.inl 10000, .inl a_], S_)) rfl ?_
      refine sm_T_br (a := 3) (z := 75) rfl (fun cx3_ => ?_) (fun cx3_ => ?_)
      · have cx3_ : 10000 ≤ a_ := of_decide_eq_true cx3_
        refine sm_T_go 2 (c1 := (151, [some (.inr (.inr (some (13, 0)))), some (.inl s_), some (.inl e_), some (.inl i_), some (.inl t_), some (.inl f_), some (.inl j_), some (.inl a_), some (.inl b_), some (.inl x_), some (.inl y_), none, none], [.inl b_, .inl a_], S_)) rfl ?_
        refine sm_T_br (a := 3) (z := 7) rfl (fun cx4_ => ?_) (fun cx4_ => ?_)
        · have cx4_ : b_ ≤ a_ := of_decide_eq_true cx4_
          refine sm_T_go 1 (c1 := (159, [some (.inr (.inr (some (13, 0)))), some (.inl s_), some (.inl e_), some (.inl i_), some (.inl t_), some (.inl f_), some (.inl j_), some (.inl a_), some (.inl b_), some (.inl x_), some (.inl y_), none, none], [.inl 0], S_)) rfl ?_
          refine sm_T_rz rfl (by omega) ⟨_, _, rfl, (by first | rfl | exact hS_.symm), _, rfl, ?_⟩
          omega
        · have cx4_ : ¬ (b_ ≤ a_) := of_decide_eq_false cx4_
          exfalso; omega
      · have cx3_ : ¬ (10000 ≤ a_) := of_decide_eq_false cx3_
        have A9_ := pst_s hI_ ht_ ⟨by omega, by omega⟩ ha_ (by omega)
        have B9_ := pst_s hI_ ht_ ⟨by omega, by omega⟩ hb_ (by omega)
        have c3_ : 0 ≤ S_.2.2.1 277 0 (10240 * e_ + 40 * a_ + x_).toNat ∧ S_.2.2.1 277 0 (10240 * e_ + 40 * a_ + x_).toNat ≤ 10200 := hI_.2 277 0 _
        refine sm_T_go 3 (c1 := (81, [some (.inr (.inr (some (13, 0)))), some (.inl s_), some (.inl e_), some (.inl i_), some (.inl t_), some (.inl f_), some (.inl j_), some (.inl a_), some (.inl b_), some (.inl x_), some (.inl y_), none, none], [.inl e_, .inl 256, .inl 40], S_)) rfl ?_
        refine sm_T_bin (w := 256 * e_) rfl (bi_mul (by omega) (by omega) (by omega)) ?_ -- pc_ 81
        refine sm_T_go 1 (c1 := (84, [some (.inr (.inr (some (13, 0)))), some (.inl s_), some (.inl e_), some (.inl i_), some (.inl t_), some (.inl f_), some (.inl j_), some (.inl a_), some (.inl b_), some (.inl x_), some (.inl y_), none, none], [.inl a_, .inl (256 * e_), .inl 40], S_)) rfl ?_
        refine sm_T_bin (w := 256 * e_ + a_) rfl (bi_add (by omega) (by omega) (by omega)) ?_ -- pc_ 84
        refine sm_T_bin (w := 10240 * e_ + 40 * a_) rfl (bi_mul (by omega) (by omega) (by omega)) ?_ -- pc_ 85
        refine sm_T_go 1 (c1 := (88, [some (.inr (.inr (some (13, 0)))), some (.inl s_), some (.inl e_), some (.inl i_), some (.inl t_), some (.inl f_), some (.inl j_), some (.inl a_), some (.inl b_), some (.inl x_), some (.inl y_), none, none], [.inl x_, .inl (10240 * e_ + 40 * a_)], S_)) rfl ?_
        refine sm_T_bin (w := 10240 * e_ + 40 * a_ + x_) rfl (bi_add (by omega) (by omega) (by omega)) ?_ -- pc_ 88
        refine sm_T_go 4 (c1 := (98, [some (.inr (.inr (some (13, 0)))), some (.inl s_), some (.inl e_), some (.inl i_), some (.inl t_), some (.inl f_), some (.inl j_), some (.inl a_), some (.inl b_), some (.inl x_), some (.inl y_), some (.inl (10240 * e_ + 40 * a_ + x_)), none], [.inl f_, .inl 256, .inl 40], S_)) rfl ?_
        refine sm_T_bin (w := 256 * f_) rfl (bi_mul (by omega) (by omega) (by omega)) ?_ -- pc_ 98
        refine sm_T_go 1 (c1 := (101, [some (.inr (.inr (some (13, 0)))), some (.inl s_), some (.inl e_), some (.inl i_), some (.inl t_), some (.inl f_), some (.inl j_), some (.inl a_), some (.inl b_), some (.inl x_), some (.inl y_), some (.inl (10240 * e_ + 40 * a_ + x_)), none], [.inl b_, .inl (256 * f_), .inl 40], S_)) rfl ?_
        refine sm_T_bin (w := 256 * f_ + b_) rfl (bi_add (by omega) (by omega) (by omega)) ?_ -- pc_ 101
        refine sm_T_bin (w := 10240 * f_ + 40 * b_) rfl (bi_mul (by omega) (by omega) (by omega)) ?_ -- pc_ 102
        refine sm_T_go 1 (c1 := (105, [some (.inr (.inr (some (13, 0)))), some (.inl s_), some (.inl e_), some (.inl i_), some (.inl t_), some (.inl f_), some (.inl j_), some (.inl a_), some (.inl b_), some (.inl x_), some (.inl y_), some (.inl (10240 * e_ + 40 * a_ + x_)), none], [.inl y_, .inl (10240 * f_ + 40 * b_)], S_)) rfl ?_
        refine sm_T_bin (w := 10240 * f_ + 40 * b_ + y_) rfl (bi_add (by omega) (by omega) (by omega)) ?_ -- pc_ 105
        refine sm_T_go 4 (c1 := (114, [some (.inr (.inr (some (13, 0)))), some (.inl s_), some (.inl e_), some (.inl i_), some (.inl t_), some (.inl f_), some (.inl j_), some (.inl a_), some (.inl b_), some (.inl x_), some (.inl y_), some (.inl (10240 * e_ + 40 * a_ + x_)), some (.inl (10240 * f_ + 40 * b_ + y_))], [.inl (10240 * e_ + 40 * a_ + x_), .inr (.inr (some (277, 0)))], S_)) rfl ?_
        refine sm_T_iald (n := 225280) rfl rfl (by omega) (by omega) ?_
        have bx5_ : 0 ≤ S_.2.2.1 277 0 (10240 * e_ + 40 * a_ + x_).toNat ∧ S_.2.2.1 277 0 (10240 * e_ + 40 * a_ + x_).toNat ≤ 10200 := hI_.2 277 0 _
        refine sm_T_go 4 (c1 := (123, [some (.inr (.inr (some (13, 0)))), some (.inl s_), some (.inl e_), some (.inl i_), some (.inl t_), some (.inl f_), some (.inl j_), some (.inl (S_.2.2.1 277 0 (10240 * e_ + 40 * a_ + x_).toNat)), some (.inl b_), some (.inl x_), some (.inl y_), some (.inl (10240 * e_ + 40 * a_ + x_)), some (.inl (10240 * f_ + 40 * b_ + y_))], [.inl (10240 * f_ + 40 * b_ + y_), .inr (.inr (some (277, 0)))], S_)) rfl ?_
        refine sm_T_iald (n := 225280) rfl rfl (by omega) (by omega) ?_
        have bx6_ : 0 ≤ S_.2.2.1 277 0 (10240 * f_ + 40 * b_ + y_).toNat ∧ S_.2.2.1 277 0 (10240 * f_ + 40 * b_ + y_).toNat ≤ 10200 := hI_.2 277 0 _
        refine sm_T_go 4 (c1 := (132, [some (.inr (.inr (some (13, 0)))), some (.inl s_), some (.inl e_), some (.inl i_), some (.inl t_), some (.inl f_), some (.inl j_), some (.inl (S_.2.2.1 277 0 (10240 * e_ + 40 * a_ + x_).toNat)), some (.inl (S_.2.2.1 277 0 (10240 * f_ + 40 * b_ + y_).toNat)), some (.inl x_), some (.inl y_), some (.inl (10240 * e_ + 40 * a_ + x_)), some (.inl (10240 * f_ + 40 * b_ + y_))], [.inl (10240 * e_ + 40 * a_ + x_), .inr (.inr (some (278, 0)))], S_)) rfl ?_
        refine sm_T_iald (n := 225280) rfl rfl (by omega) (by omega) ?_
        have bx7_ : 0 ≤ S_.2.2.1 278 0 (10240 * e_ + 40 * a_ + x_).toNat ∧ S_.2.2.1 278 0 (10240 * e_ + 40 * a_ + x_).toNat ≤ 39 := hI_.2 278 0 _
        refine sm_T_go 4 (c1 := (141, [some (.inr (.inr (some (13, 0)))), some (.inl s_), some (.inl e_), some (.inl i_), some (.inl t_), some (.inl f_), some (.inl j_), some (.inl (S_.2.2.1 277 0 (10240 * e_ + 40 * a_ + x_).toNat)), some (.inl (S_.2.2.1 277 0 (10240 * f_ + 40 * b_ + y_).toNat)), some (.inl (S_.2.2.1 278 0 (10240 * e_ + 40 * a_ + x_).toNat)), some (.inl y_), some (.inl (10240 * e_ + 40 * a_ + x_)), some (.inl (10240 * f_ + 40 * b_ + y_))], [.inl (10240 * f_ + 40 * b_ + y_), .inr (.inr (some (278, 0)))], S_)) rfl ?_
        refine sm_T_iald (n := 225280) rfl rfl (by omega) (by omega) ?_
        have bx8_ : 0 ≤ S_.2.2.1 278 0 (10240 * f_ + 40 * b_ + y_).toNat ∧ S_.2.2.1 278 0 (10240 * f_ + 40 * b_ + y_).toNat ≤ 39 := hI_.2 278 0 _
        refine sm_T_go 2 (c1 := (60, [some (.inr (.inr (some (13, 0)))), some (.inl s_), some (.inl e_), some (.inl i_), some (.inl t_), some (.inl f_), some (.inl j_), some (.inl (S_.2.2.1 277 0 (10240 * e_ + 40 * a_ + x_).toNat)), some (.inl (S_.2.2.1 277 0 (10240 * f_ + 40 * b_ + y_).toNat)), some (.inl (S_.2.2.1 278 0 (10240 * e_ + 40 * a_ + x_).toNat)), some (.inl (S_.2.2.1 278 0 (10240 * f_ + 40 * b_ + y_).toNat)), some (.inl (10240 * e_ + 40 * a_ + x_)), some (.inl (10240 * f_ + 40 * b_ + y_))], [], S_)) rfl ?_
        refine sm_T_wk [some (.inr (.inr (some (13, 0)))), some (.inl s_), some (.inl e_), some (.inl i_), some (.inl t_), some (.inl f_), some (.inl j_), some (.inl (S_.2.2.1 277 0 (10240 * e_ + 40 * a_ + x_).toNat)), some (.inl (S_.2.2.1 277 0 (10240 * f_ + 40 * b_ + y_).toNat)), some (.inl (S_.2.2.1 278 0 (10240 * e_ + 40 * a_ + x_).toNat)), some (.inl (S_.2.2.1 278 0 (10240 * f_ + 40 * b_ + y_).toNat)), none, none] (by exact ⟨rfl, rfl, rfl, rfl, rfl, rfl, rfl, rfl, rfl, rfl, rfl, trivial⟩) ?_
        refine ih_ (S_.2.2.1 277 0 (10240 * e_ + 40 * a_ + x_).toNat) (S_.2.2.1 277 0 (10240 * f_ + 40 * b_ + y_).toNat) (S_.2.2.1 278 0 (10240 * e_ + 40 * a_ + x_).toNat) (S_.2.2.1 278 0 (10240 * f_ + 40 * b_ + y_).toNat) S_ hI_ hF_ ⟨?_, ?_, ?_, trivial⟩ ?_
        · exact A9_.1
        · exact B9_.1
        · rfl
        · (have q9_ := A9_.2; omega)
set_option maxHeartbeats 1000000 in
set_option maxRecDepth 20000 in
theorem vc_504 {sc_ : Nat × (Nat → Int)} (s_ : Int) (e_ : Int) (i_ : Int) (t_ : Int) (f_ : Int) (j_ : Int) (N_ : Int) (E_ : Int) (S0_ : sm_S) (hI_ : gi S0_) (hE_ : 0 ≤ E_ ∧ E_ ≤ 22 ∧ N_ ≤ 168) (hs_ : 0 ≤ s_ ∧ s_ < N_ ∧ 0 ≤ t_ ∧ t_ < N_ ∧ 0 ≤ e_ ∧ e_ < E_ ∧ 0 ≤ f_ ∧ f_ < E_) (hi_ : 0 ≤ i_ ∧ i_ < S0_.2.2.1 275 0 (256 * e_ + s_).toNat) (hj_ : 0 ≤ j_ ∧ j_ < S0_.2.2.1 275 0 (256 * f_ + t_).toNat) (ht_ : tal N_ E_ S0_) : sm_T (mt_P sc_) 1 504 (0, [some (.inr (.inr (some (13, 0)))), some (.inl s_), some (.inl e_), some (.inl i_), some (.inl t_), some (.inl f_), some (.inl j_), none, none, none, none, none, none], [], S0_) (fun ro9_ => ∃ u_ S1_, ro9_ = (.inl u_, S1_, 0) ∧ vq_504 s_ e_ i_ t_ f_ j_ N_ E_ S0_ u_ S1_) := by
  have hF_ : ai_fr (sx_W vw_504) S0_ S0_ := ai_fr_rf
  have c1_ : 0 ≤ S0_.2.2.1 275 0 (256 * e_ + s_).toNat ∧ S0_.2.2.1 275 0 (256 * e_ + s_).toNat ≤ 40 := hI_.2 275 0 _
  have c2_ : 0 ≤ S0_.2.2.1 275 0 (256 * f_ + t_).toNat ∧ S0_.2.2.1 275 0 (256 * f_ + t_).toNat ≤ 40 := hI_.2 275 0 _
  refine sm_T_go 4 (c1 := (4, [some (.inr (.inr (some (13, 0)))), some (.inl s_), some (.inl e_), some (.inl i_), some (.inl t_), some (.inl f_), some (.inl j_), none, none, none, none, none, none], [.inl i_, .inl e_, .inl s_, .inr (.inr (some (13, 0)))], S0_)) rfl ?_
  refine sm_T_cal (d1 := 0) (Q1 := vq_503 s_ e_ i_ S0_) rfl rfl (by decide) (vc_503 s_ e_ i_ S0_ hI_ (by omega) (by omega) (by omega)) (fun u_ Sx1_ px4_ => ?_)
  obtain ⟨rfl, vx6_, rfl, px4_⟩ := px4_
  refine sm_T_go 4 (c1 := (14, [some (.inr (.inr (some (13, 0)))), some (.inl s_), some (.inl e_), some (.inl i_), some (.inl t_), some (.inl f_), some (.inl j_), none, none, none, none, none, none], [.inl j_, .inl f_, .inl t_, .inr (.inr (some (13, 0))), .inl vx6_], S0_)) rfl ?_
  refine sm_T_cal (d1 := 0) (Q1 := vq_503 t_ f_ j_ S0_) rfl rfl (by decide) (vc_503 t_ f_ j_ S0_ hI_ (by omega) (by omega) (by omega)) (fun u_ Sx7_ px10_ => ?_)
  obtain ⟨rfl, vx12_, rfl, px10_⟩ := px10_
  refine sm_T_br (a := 0) (z := 29) rfl (fun cx13_ => ?_) (fun cx13_ => ?_)
  · have cx13_ : vx6_ = vx12_ := of_decide_eq_true cx13_
    refine sm_T_go 8 (c1 := (60, [some (.inr (.inr (some (13, 0)))), some (.inl s_), some (.inl e_), some (.inl i_), some (.inl t_), some (.inl f_), some (.inl j_), some (.inl s_), some (.inl t_), some (.inl i_), some (.inl j_), none, none], [], S0_)) rfl ?_
    refine (vl_504 s_ e_ i_ t_ f_ j_ N_ E_ S0_ hE_ hs_ hi_ hj_ ht_ _) s_ t_ i_ j_ S0_ hI_ hF_ ⟨?_, ?_, ?_, trivial⟩ (Nat.lt_succ_self _)
    · exact ⟨by omega, Or.inr ⟨by omega, by omega, by omega⟩⟩
    · exact ⟨by omega, Or.inr ⟨by omega, by omega, by omega⟩⟩
    · rfl
  · have cx13_ : ¬ (vx6_ = vx12_) := of_decide_eq_false cx13_
    refine sm_T_go 4 (c1 := (24, [some (.inr (.inr (some (13, 0)))), some (.inl s_), some (.inl e_), some (.inl i_), some (.inl t_), some (.inl f_), some (.inl j_), none, none, none, none, none, none], [.inl i_, .inl e_, .inl s_, .inr (.inr (some (13, 0)))], S0_)) rfl ?_
    refine sm_T_cal (d1 := 0) (Q1 := vq_503 s_ e_ i_ S0_) rfl rfl (by decide) (vc_503 s_ e_ i_ S0_ hI_ (by omega) (by omega) (by omega)) (fun u_ Sx14_ px17_ => ?_)
    obtain ⟨rfl, vx19_, rfl, px17_⟩ := px17_
    refine sm_T_go 4 (c1 := (34, [some (.inr (.inr (some (13, 0)))), some (.inl s_), some (.inl e_), some (.inl i_), some (.inl t_), some (.inl f_), some (.inl j_), none, none, none, none, none, none], [.inl j_, .inl f_, .inl t_, .inr (.inr (some (13, 0))), .inl vx19_], S0_)) rfl ?_
    refine sm_T_cal (d1 := 0) (Q1 := vq_503 t_ f_ j_ S0_) rfl rfl (by decide) (vc_503 t_ f_ j_ S0_ hI_ (by omega) (by omega) (by omega)) (fun u_ Sx20_ px23_ => ?_)
    obtain ⟨rfl, vx25_, rfl, px23_⟩ := px23_
    refine sm_T_br (a := 5) (z := 7) rfl (fun cx26_ => ?_) (fun cx26_ => ?_)
    · have cx26_ : vx19_ ≤ vx25_ := of_decide_eq_true cx26_
      refine sm_T_go 1 (c1 := (45, [some (.inr (.inr (some (13, 0)))), some (.inl s_), some (.inl e_), some (.inl i_), some (.inl t_), some (.inl f_), some (.inl j_), none, none, none, none, none, none], [.inl 0], S0_)) rfl ?_
      refine sm_T_rz rfl (by omega) ⟨_, _, rfl, (by first | rfl | exact hS_.symm), _, rfl, ?_⟩
      omega
    · have cx26_ : ¬ (vx19_ ≤ vx25_) := of_decide_eq_false cx26_
      refine sm_T_go 2 (c1 := (45, [some (.inr (.inr (some (13, 0)))), some (.inl s_), some (.inl e_), some (.inl i_), some (.inl t_), some (.inl f_), some (.inl j_), none, none, none, none, none, none], [.inl 1], S0_)) rfl ?_
      refine sm_T_rz rfl (by omega) ⟨_, _, rfl, (by first | rfl | exact hS_.symm), _, rfl, ?_⟩
      omega
/-! M_.findPaths -/
def vw_505 : sx_Wl := ([(13, 159), (13, 206)], [243, 244, 245, 246, 247, 248, 249, 250, 270, 275, 276, 277, 278, 279, 280, 281, 282, 283], [])
def vq_505 (c_ : Int) (S0_ : sm_S) (u_ : Option sm_V) (S1_ : sm_S) : Prop := u_ = none ∧ gi S1_ ∧ ai_fr (sx_W vw_505) S0_ S1_ ∧ (tal (S0_.2.2.1 223 0 c_.toNat + S0_.2.2.1 224 0 c_.toNat + S0_.2.2.1 228 0 c_.toNat) (S0_.2.2.1 225 0 c_.toNat + S0_.2.2.1 224 0 c_.toNat) S1_ ∧ cho (S0_.2.2.1 223 0 c_.toNat + S0_.2.2.1 224 0 c_.toNat + S0_.2.2.1 228 0 c_.toNat) (S0_.2.2.1 225 0 c_.toNat + S0_.2.2.1 224 0 c_.toNat) S1_)
set_option maxHeartbeats 6000000 in
set_option maxRecDepth 20000 in
theorem vl_505 {sc_ : Nat × (Nat → Int)} (c_ : Int) (S0_ : sm_S) (hc_ : 0 ≤ c_ ∧ c_ ≤ 3) (hx_ : S0_.2.2.1 223 0 c_.toNat + S0_.2.2.1 224 0 c_.toNat ≤ 12) (hg_ : cgt c_ S0_) (ho_ : con c_ S0_) : ∀ nn_ : Nat, (∀ (en_ : Int) (st_ : Int) (e_ : Int) (S_ : sm_S), gi S_ → ai_fr (sx_W vw_505) S0_ S_ → ((en_ = (S0_.2.2.1 225 0 c_.toNat + S0_.2.2.1 224 0 c_.toNat) ∧ st_ = S0_.2.2.1 223 0 c_.toNat + S0_.2.2.1 224 0 c_.toNat ∧ 0 ≤ e_ ∧ e_ ≤ en_) ∧ (∀ e9_ n9_ : Int, 0 ≤ e9_ → e9_ < e_ → 0 ≤ n9_ → n9_ < (S0_.2.2.1 223 0 c_.toNat + S0_.2.2.1 224 0 c_.toNat + S0_.2.2.1 228 0 c_.toNat) → tok (S0_.2.2.1 223 0 c_.toNat + S0_.2.2.1 224 0 c_.toNat + S0_.2.2.1 228 0 c_.toNat) S_ e9_ n9_) ∧ True) → ((1000000000 + 1000 * (100 - e_) + 900).toNat) < nn_ → sm_T (mt_P sc_) 5 505 (36, [some (.inr (.inr (some (13, 0)))), some (.inl c_), some (.inl en_), some (.inl st_), some (.inl e_), none, none, none, none], [], S_) (fun ro9_ => ∃ u_ S1_, ro9_ = (.inl u_, S1_, 0) ∧ vq_505 c_ S0_ u_ S1_)) ∧ (∀ (en_ : Int) (st_ : Int) (e_ : Int) (n_ : Int) (S_ : sm_S), gi S_ → ai_fr (sx_W vw_505) S0_ S_ → ((en_ = (S0_.2.2.1 225 0 c_.toNat + S0_.2.2.1 224 0 c_.toNat) ∧ st_ = S0_.2.2.1 223 0 c_.toNat + S0_.2.2.1 224 0 c_.toNat ∧ 0 ≤ e_ ∧ e_ < en_ ∧ -1 ≤ n_ ∧ n_ < (S0_.2.2.1 223 0 c_.toNat + S0_.2.2.1 224 0 c_.toNat + S0_.2.2.1 228 0 c_.toNat)) ∧ (∀ e9_ n9_ : Int, 0 ≤ e9_ → e9_ < e_ → 0 ≤ n9_ → n9_ < (S0_.2.2.1 223 0 c_.toNat + S0_.2.2.1 224 0 c_.toNat + S0_.2.2.1 228 0 c_.toNat) → tok (S0_.2.2.1 223 0 c_.toNat + S0_.2.2.1 224 0 c_.toNat + S0_.2.2.1 228 0 c_.toNat) S_ e9_ n9_) ∧ (∀ n9_ : Int, n_ < n9_ → n9_ < (S0_.2.2.1 223 0 c_.toNat + S0_.2.2.1 224 0 c_.toNat + S0_.2.2.1 228 0 c_.toNat) → tok (S0_.2.2.1 223 0 c_.toNat + S0_.2.2.1 224 0 c_.toNat + S0_.2.2.1 228 0 c_.toNat) S_ e_ n9_) ∧ True) → ((1000000000 + 1000 * (100 - e_) + 300 + n_).toNat) < nn_ → sm_T (mt_P sc_) 5 505 (51, [some (.inr (.inr (some (13, 0)))), some (.inl c_), some (.inl en_), some (.inl st_), some (.inl e_), some (.inl n_), none, none, none], [], S_) (fun ro9_ => ∃ u_ S1_, ro9_ = (.inl u_, S1_, 0) ∧ vq_505 c_ S0_ u_ S1_)) ∧ (∀ (en_ : Int) (st_ : Int) (e_ : Int) (s_ : Int) (S_ : sm_S), gi S_ → ai_fr (sx_W vw_505) S0_ S_ → ((en_ = (S0_.2.2.1 225 0 c_.toNat + S0_.2.2.1 224 0 c_.toNat) ∧ st_ = S0_.2.2.1 223 0 c_.toNat + S0_.2.2.1 224 0 c_.toNat ∧ 0 ≤ e_ ∧ e_ < en_ ∧ 0 ≤ s_ ∧ s_ ≤ 12) ∧ (∀ e9_ n9_ : Int, 0 ≤ e9_ → e9_ < e_ → 0 ≤ n9_ → n9_ < (S0_.2.2.1 223 0 c_.toNat + S0_.2.2.1 224 0 c_.toNat + S0_.2.2.1 228 0 c_.toNat) → tok (S0_.2.2.1 223 0 c_.toNat + S0_.2.2.1 224 0 c_.toNat + S0_.2.2.1 228 0 c_.toNat) S_ e9_ n9_) ∧ (∀ n9_ : Int, -1 < n9_ → n9_ < (S0_.2.2.1 223 0 c_.toNat + S0_.2.2.1 224 0 c_.toNat + S0_.2.2.1 228 0 c_.toNat) → tok (S0_.2.2.1 223 0 c_.toNat + S0_.2.2.1 224 0 c_.toNat + S0_.2.2.1 228 0 c_.toNat) S_ e_ n9_) ∧ True) → ((1000000000 + 1000 * (100 - e_) + 100 - s_).toNat) < nn_ → sm_T (mt_P sc_) 5 505 (99, [some (.inr (.inr (some (13, 0)))), some (.inl c_), some (.inl en_), some (.inl st_), some (.inl e_), some (.inl s_), none, none, none], [], S_) (fun ro9_ => ∃ u_ S1_, ro9_ = (.inl u_, S1_, 0) ∧ vq_505 c_ S0_ u_ S1_)) ∧ (∀ (en_ : Int) (st_ : Int) (mo_ : Int) (S_ : sm_S), gi S_ → ai_fr (sx_W vw_505) S0_ S_ → ((en_ = (S0_.2.2.1 225 0 c_.toNat + S0_.2.2.1 224 0 c_.toNat) ∧ st_ = S0_.2.2.1 223 0 c_.toNat + S0_.2.2.1 224 0 c_.toNat ∧ (mo_ = 0 ∨ mo_ = 1)) ∧ (tal (S0_.2.2.1 223 0 c_.toNat + S0_.2.2.1 224 0 c_.toNat + S0_.2.2.1 228 0 c_.toNat) (S0_.2.2.1 225 0 c_.toNat + S0_.2.2.1 224 0 c_.toNat) S_) ∧ (cho (S0_.2.2.1 223 0 c_.toNat + S0_.2.2.1 224 0 c_.toNat + S0_.2.2.1 228 0 c_.toNat) (S0_.2.2.1 225 0 c_.toNat + S0_.2.2.1 224 0 c_.toNat) S_) ∧ True) → ((10000 * (100 - S_.1 13 0 206) + 5000 * mo_).toNat) < nn_ → sm_T (mt_P sc_) 5 505 (156, [some (.inr (.inr (some (13, 0)))), some (.inl c_), some (.inl en_), some (.inl st_), some (.inl mo_), none, none, none, none], [], S_) (fun ro9_ => ∃ u_ S1_, ro9_ = (.inl u_, S1_, 0) ∧ vq_505 c_ S0_ u_ S1_)) ∧ (∀ (en_ : Int) (st_ : Int) (b_ : Int) (h_ : Int) (S_ : sm_S), gi S_ → ai_fr (sx_W vw_505) S0_ S_ → ((en_ = (S0_.2.2.1 225 0 c_.toNat + S0_.2.2.1 224 0 c_.toNat) ∧ st_ = S0_.2.2.1 223 0 c_.toNat + S0_.2.2.1 224 0 c_.toNat ∧ 0 ≤ h_ ∧ h_ ≤ 400 ∧ S_.1 13 0 206 < 40) ∧ (tal (S0_.2.2.1 223 0 c_.toNat + S0_.2.2.1 224 0 c_.toNat + S0_.2.2.1 228 0 c_.toNat) (S0_.2.2.1 225 0 c_.toNat + S0_.2.2.1 224 0 c_.toNat) S_) ∧ (cho (S0_.2.2.1 223 0 c_.toNat + S0_.2.2.1 224 0 c_.toNat + S0_.2.2.1 228 0 c_.toNat) (S0_.2.2.1 225 0 c_.toNat + S0_.2.2.1 224 0 c_.toNat) S_) ∧ (b_ = -1 ∨ (0 ≤ b_ ∧ b_ < 16 * en_ ∧ b_ % 16 < st_ ∧ S_.2.2.1 283 0 b_.toNat < S_.2.2.1 275 0 (256 * (b_ / 16) + b_ % 16).toNat)) ∧ True) → ((10000 * (100 - S_.1 13 0 206) + 1000 - h_).toNat) < nn_ → sm_T (mt_P sc_) 5 505 (176, [some (.inr (.inr (some (13, 0)))), some (.inl c_), some (.inl en_), some (.inl st_), none, some (.inl b_), some (.inl h_), none, none], [], S_) (fun ro9_ => ∃ u_ S1_, ro9_ = (.inl u_, S1_, 0) ∧ vq_505 c_ S0_ u_ S1_)) := by
  intro nn_
  induction nn_ with
  | zero => exact ⟨fun _ _ _ _ _ _ _ h_ => absurd h_ (Nat.not_lt_zero _), fun _ _ _ _ _ _ _ _ h_ => absurd h_ (Nat.not_lt_zero _), fun _ _ _ _ _ _ _ _ h_ => absurd h_ (Nat.not_lt_zero _), fun _ _ _ _ _ _ _ h_ => absurd h_ (Nat.not_lt_zero _), fun _ _ _ _ _ _ _ _ h_ => absurd h_ (Nat.not_lt_zero _)⟩
  | succ nn_ ih_ =>
    refine ⟨?_, ?_, ?_, ?_, ?_⟩
    · rintro en_ st_ e_ S_ hI_ hF_ ⟨h0_, ht_, -⟩ hm_
      have f223_ : S_.2.2.1 223 0 = S0_.2.2.1 223 0 := fr_arr hF_ rfl
      have f224_ : S_.2.2.1 224 0 = S0_.2.2.1 224 0 := fr_arr hF_ rfl
      have f225_ : S_.2.2.1 225 0 = S0_.2.2.1 225 0 := fr_arr hF_ rfl
      have f228_ : S_.2.2.1 228 0 = S0_.2.2.1 228 0 := fr_arr hF_ rfl
      have x223_ : S_.2.2.1 223 0 c_.toNat = S0_.2.2.1 223 0 c_.toNat := congrFun f223_ _
      have x224_ : S_.2.2.1 224 0 c_.toNat = S0_.2.2.1 224 0 c_.toNat := congrFun f224_ _
      have x225_ : S_.2.2.1 225 0 c_.toNat = S0_.2.2.1 225 0 c_.toNat := congrFun f225_ _
      have x228_ : S_.2.2.1 228 0 c_.toNat = S0_.2.2.1 228 0 c_.toNat := congrFun f228_ _
      have cA_ : 0 ≤ S_.2.2.1 223 0 c_.toNat ∧ S_.2.2.1 223 0 c_.toNat ≤ 12 := hI_.2 223 0 _
      have cB_ : 0 ≤ S_.2.2.1 224 0 c_.toNat ∧ S_.2.2.1 224 0 c_.toNat ≤ 6 := hI_.2 224 0 _
      have cG_ : 0 ≤ S_.2.2.1 228 0 c_.toNat ∧ S_.2.2.1 228 0 c_.toNat ≤ 150 := hI_.2 228 0 _
      have cO_ : 0 ≤ S_.2.2.1 225 0 c_.toNat ∧ S_.2.2.1 225 0 c_.toNat ≤ 16 := hI_.2 225 0 _
      refine sm_T_go 2 (c1 := (39, [some (.inr (.inr (some (13, 0)))), some (.inl c_), some (.inl en_), some (.inl st_), some (.inl e_), none, none, none, none], [.inl en_, .inl e_], S_)) rfl ?_
      refine sm_T_br (a := 3) (z := 109) rfl (fun cx1_ => ?_) (fun cx1_ => ?_)
      · have cx1_ : en_ ≤ e_ := of_decide_eq_true cx1_
        have hIx2_ : gi (sm_pI S_ 13 0 206 0) := gi_pI hI_ (show 0 ≤ 0 ∧ 0 ≤ 40 from ⟨by omega, by omega⟩)
        have hFx3_ : ai_fr (sx_W vw_505) S0_ (sm_pI S_ 13 0 206 0) := ai_fr_tr hF_ (ai_fr_pI rfl)
        refine sm_T_go 5 (c1 := (156, [some (.inr (.inr (some (13, 0)))), some (.inl c_), some (.inl en_), some (.inl st_), some (.inl 1), none, none, none, none], [], sm_pI S_ 13 0 206 0)) rfl ?_
        refine ih_.2.2.2.1 en_ st_ 1 (sm_pI S_ 13 0 206 0) hIx2_ hFx3_ ⟨?_, ?_, ?_, trivial⟩ ?_
        · omega
        · (intro e9_ n9_ u0_ u1_ u2_ u3_; exact ht_ e9_ n9_ u0_ (by omega) u2_ u3_)
        · (intro k9_ u0_ u1_; rw [rf_eq] at u1_; exfalso; omega)
        · (rw [rf_eq]; omega)
      · have cx1_ : ¬ (en_ ≤ e_) := of_decide_eq_false cx1_
        refine sm_T_go 2 (c1 := (44, [some (.inr (.inr (some (13, 0)))), some (.inl c_), some (.inl en_), some (.inl st_), some (.inl e_), none, none, none, none], [.inl c_, .inr (.inr (some (13, 0)))], S_)) rfl ?_
        refine sm_T_cal (d1 := 0) (Q1 := vq_422 c_ S_) rfl rfl (by decide) (vc_422 c_ S_ hI_ (by omega)) (fun u_ Sx4_ px7_ => ?_)
        obtain ⟨rfl, vx9_, rfl, px7_⟩ := px7_
        refine sm_T_go 1 (c1 := (48, [some (.inr (.inr (some (13, 0)))), some (.inl c_), some (.inl en_), some (.inl st_), some (.inl e_), none, none, none, none], [.inl 1, .inl vx9_], S_)) rfl ?_
        refine sm_T_bin (w := vx9_ - 1) rfl (bi_sub (by omega) (by omega) (by omega)) ?_ -- pc_ 48
        refine sm_T_go 1 (c1 := (51, [some (.inr (.inr (some (13, 0)))), some (.inl c_), some (.inl en_), some (.inl st_), some (.inl e_), some (.inl (vx9_ - 1)), none, none, none], [], S_)) rfl ?_
        refine ih_.2.1 en_ st_ e_ (vx9_ - 1) S_ hI_ hF_ ⟨?_, ?_, ?_, trivial⟩ ?_
        · omega
        · exact ht_
        · (intro n9_ u0_ u1_; exfalso; omega)
        · omega
    · rintro en_ st_ e_ n_ S_ hI_ hF_ ⟨h0_, ht_, hu_, -⟩ hm_
      have f223_ : S_.2.2.1 223 0 = S0_.2.2.1 223 0 := fr_arr hF_ rfl
      have f224_ : S_.2.2.1 224 0 = S0_.2.2.1 224 0 := fr_arr hF_ rfl
      have f225_ : S_.2.2.1 225 0 = S0_.2.2.1 225 0 := fr_arr hF_ rfl
      have f228_ : S_.2.2.1 228 0 = S0_.2.2.1 228 0 := fr_arr hF_ rfl
      have x223_ : S_.2.2.1 223 0 c_.toNat = S0_.2.2.1 223 0 c_.toNat := congrFun f223_ _
      have x224_ : S_.2.2.1 224 0 c_.toNat = S0_.2.2.1 224 0 c_.toNat := congrFun f224_ _
      have x225_ : S_.2.2.1 225 0 c_.toNat = S0_.2.2.1 225 0 c_.toNat := congrFun f225_ _
      have x228_ : S_.2.2.1 228 0 c_.toNat = S0_.2.2.1 228 0 c_.toNat := congrFun f228_ _
      have cA_ : 0 ≤ S_.2.2.1 223 0 c_.toNat ∧ S_.2.2.1 223 0 c_.toNat ≤ 12 := hI_.2 223 0 _
      have cB_ : 0 ≤ S_.2.2.1 224 0 c_.toNat ∧ S_.2.2.1 224 0 c_.toNat ≤ 6 := hI_.2 224 0 _
      have cG_ : 0 ≤ S_.2.2.1 228 0 c_.toNat ∧ S_.2.2.1 228 0 c_.toNat ≤ 150 := hI_.2 228 0 _
      have cO_ : 0 ≤ S_.2.2.1 225 0 c_.toNat ∧ S_.2.2.1 225 0 c_.toNat ≤ 16 := hI_.2 225 0 _
      refine sm_T_go 1 (c1 := (53, [some (.inr (.inr (some (13, 0)))), some (.inl c_), some (.inl en_), some (.inl st_), some (.inl e_), some (.inl n_), none, none, none], [.inl n_], S_)) rfl ?_
      refine sm_T_b0 (a := 2) (z := 43) rfl (fun cx1_ => ?_) (fun cx1_ => ?_)
      · have cx1_ : n_ < 0 := of_decide_eq_true cx1_
        refine sm_T_go 2 (c1 := (99, [some (.inr (.inr (some (13, 0)))), some (.inl c_), some (.inl en_), some (.inl st_), some (.inl e_), some (.inl 0), none, none, none], [], S_)) rfl ?_
        refine ih_.2.2.1 en_ st_ e_ 0 S_ hI_ hF_ ⟨?_, ?_, ?_, trivial⟩ ?_
        · omega
        · exact ht_
        · (intro n9_ u0_ u1_; exact hu_ n9_ (by omega) u1_)
        · omega
      · have cx1_ : ¬ (n_ < 0) := of_decide_eq_false cx1_
        refine sm_T_go 4 (c1 := (65, [some (.inr (.inr (some (13, 0)))), some (.inl c_), some (.inl en_), some (.inl st_), some (.inl e_), some (.inl n_), none, none, none], [.inl e_, .inl 256, .inr (.inr (some (275, 0)))], S_)) rfl ?_
        refine sm_T_bin (w := 256 * e_) rfl (bi_mul (by omega) (by omega) (by omega)) ?_ -- pc_ 65
        refine sm_T_go 1 (c1 := (68, [some (.inr (.inr (some (13, 0)))), some (.inl c_), some (.inl en_), some (.inl st_), some (.inl e_), some (.inl n_), none, none, none], [.inl n_, .inl (256 * e_), .inr (.inr (some (275, 0)))], S_)) rfl ?_
        refine sm_T_bin (w := 256 * e_ + n_) rfl (bi_add (by omega) (by omega) (by omega)) ?_ -- pc_ 68
        refine sm_T_go 1 (c1 := (70, [some (.inr (.inr (some (13, 0)))), some (.inl c_), some (.inl en_), some (.inl st_), some (.inl e_), some (.inl n_), none, none, none], [.inl 0, .inl (256 * e_ + n_), .inr (.inr (some (275, 0)))], S_)) rfl ?_
        refine sm_T_iast (n := 5632) rfl rfl (by omega) (by omega) ?_
        have hIx2_ : gi (sm_aI S_ 275 0 (256 * e_ + n_).toNat 0) := gi_aI hI_ (show 0 ≤ 0 ∧ 0 ≤ 40 from ⟨by omega, by omega⟩)
        have hFx3_ : ai_fr (sx_W vw_505) S0_ (sm_aI S_ 275 0 (256 * e_ + n_).toNat 0) := ai_fr_tr hF_ (ai_fr_aI rfl)
        refine sm_T_go 3 (c1 := (75, [some (.inr (.inr (some (13, 0)))), some (.inl c_), some (.inl en_), some (.inl st_), some (.inl e_), some (.inl n_), none, none, none], [.inl e_, .inl c_, .inr (.inr (some (13, 0)))], sm_aI S_ 275 0 (256 * e_ + n_).toNat 0)) rfl ?_
        refine sm_T_cal (d1 := 0) (Q1 := vq_498 c_ e_ (sm_aI S_ 275 0 (256 * e_ + n_).toNat 0)) rfl rfl (by decide) (vc_498 c_ e_ (sm_aI S_ 275 0 (256 * e_ + n_).toNat 0) hIx2_ (by exact hc_) (by exact con_fr hc_.1 hIx2_ (con_fr hc_.1 hI_ ho_ hF_) (ai_fr_aI (W := sx_W ([], [275], [])) rfl))) (fun u_ Sx4_ px7_ => ?_)
        obtain ⟨rfl, vx9_, rfl, px7_⟩ := px7_
        have o75_ : tfr (256 * e_ + n_) S_ (sm_aI S_ 275 0 (256 * e_ + n_).toNat 0) := ⟨fun j9_ h9_ => by (rw [rd_eq, if_neg (by omega)]), fun j9_ _ => ⟨rd_ne (by decide), rd_ne (by decide)⟩⟩
        have z75_ : tok (S0_.2.2.1 223 0 c_.toNat + S0_.2.2.1 224 0 c_.toNat + S0_.2.2.1 228 0 c_.toNat) (sm_aI S_ 275 0 (256 * e_ + n_).toNat 0) e_ n_ := tok_0 (by rw [rd_eq, if_pos (by omega)])
        have t75_ : ∀ e9_ n9_ : Int, 0 ≤ e9_ → e9_ < e_ → 0 ≤ n9_ → n9_ < (S0_.2.2.1 223 0 c_.toNat + S0_.2.2.1 224 0 c_.toNat + S0_.2.2.1 228 0 c_.toNat) → tok (S0_.2.2.1 223 0 c_.toNat + S0_.2.2.1 224 0 c_.toNat + S0_.2.2.1 228 0 c_.toNat) (sm_aI S_ 275 0 (256 * e_ + n_).toNat 0) e9_ n9_ := fun e9_ n9_ u0_ u1_ u2_ u3_ => tok_tf hIx2_ (ht_ e9_ n9_ u0_ u1_ u2_ u3_) o75_ (by omega) u0_ ⟨u2_, u3_⟩ (by omega) (fun x9_ w0_ w1_ => by omega)
        have u75_ : ∀ n9_ : Int, n_ < n9_ → n9_ < (S0_.2.2.1 223 0 c_.toNat + S0_.2.2.1 224 0 c_.toNat + S0_.2.2.1 228 0 c_.toNat) → tok (S0_.2.2.1 223 0 c_.toNat + S0_.2.2.1 224 0 c_.toNat + S0_.2.2.1 228 0 c_.toNat) (sm_aI S_ 275 0 (256 * e_ + n_).toNat 0) e_ n9_ := fun n9_ u0_ u1_ => tok_tf hIx2_ (hu_ n9_ u0_ u1_) o75_ (by omega) (by omega) ⟨by omega, u1_⟩ (by omega) (fun x9_ w0_ w1_ => by omega)
        refine sm_T_b0 (a := 2) (z := 12) rfl (fun cx10_ => ?_) (fun cx10_ => ?_)
        · have cx10_ : vx9_ < 0 := of_decide_eq_true cx10_
          refine sm_T_inc (a := 5) (z := (-1)) (v := n_) (w := n_ - 1) rfl rfl (by omega) (by omega) (by omega) ?_ -- pc_ 90
          refine sm_T_go 1 (c1 := (51, [some (.inr (.inr (some (13, 0)))), some (.inl c_), some (.inl en_), some (.inl st_), some (.inl e_), some (.inl (n_ - 1)), none, none, none], [], sm_aI S_ 275 0 (256 * e_ + n_).toNat 0)) rfl ?_
          refine ih_.2.1 en_ st_ e_ (n_ - 1) (sm_aI S_ 275 0 (256 * e_ + n_).toNat 0) hIx2_ hFx3_ ⟨?_, ?_, ?_, trivial⟩ ?_
          · omega
          · first | exact t87_ | exact t75_
          · intro n9_ u0_ u1_
            by_cases z9_ : n9_ = n_
            · rw [z9_]; first | exact q87_.1 | exact z75_
            · first | exact u87_ n9_ (by omega) u1_ | exact u75_ n9_ (by omega) u1_
          · omega
        · have cx10_ : ¬ (vx9_ < 0) := of_decide_eq_false cx10_
          refine sm_T_go 4 (c1 := (87, [some (.inr (.inr (some (13, 0)))), some (.inl c_), some (.inl en_), some (.inl st_), some (.inl e_), some (.inl n_), none, none, none], [.inl n_, .inl e_, .inl c_, .inr (.inr (some (13, 0)))], sm_aI S_ 275 0 (256 * e_ + n_).toNat 0)) rfl ?_
          refine sm_T_cal (d1 := 2) (Q1 := vq_502 c_ e_ n_ (sm_aI S_ 275 0 (256 * e_ + n_).toNat 0)) rfl rfl (by decide) (vc_502 c_ e_ n_ (sm_aI S_ 275 0 (256 * e_ + n_).toNat 0) hIx2_ (by exact hc_) (by ((try simp only [rd_eq, rd_ne, rf_eq, rf_nk, rf_nt, rd_fa, rd_af, rd_fl, rd_al, rd_lf, rd_la, rd_leq, rd_lne, rd_fr, rd_ar, ne_eq, Nat.reduceEqDiff, not_false_eq_true]); omega)) (by exact con_fr hc_.1 hIx2_ (con_fr hc_.1 hI_ ho_ hF_) (ai_fr_aI (W := sx_W ([], [275], [])) rfl)) (by omega) (by ((try simp only [rd_eq, rd_ne, rf_eq, rf_nk, rf_nt, rd_fa, rd_af, rd_fl, rd_al, rd_lf, rd_la, rd_leq, rd_lne, rd_fr, rd_ar, ne_eq, Nat.reduceEqDiff, not_false_eq_true]); omega)) (by ((try simp only [rd_eq, rd_ne, rf_eq, rf_nk, rf_nt, rd_fa, rd_af, rd_fl, rd_al, rd_lf, rd_la, rd_leq, rd_lne, rd_fr, rd_ar, ne_eq, Nat.reduceEqDiff, not_false_eq_true]); rw [x223_, x224_, x228_]; exact u75_))) (fun u_ Sx11_ px14_ => ?_)
          obtain ⟨rfl, hIx12_, hFx13_, px14_⟩ := px14_
          have hFx15_ : ai_fr (sx_W vw_505) S0_ Sx11_ := ai_fr_tr hFx3_ (fr_le hFx13_ rfl)
          have p87_ := px14_
          have q87_ : tok (S0_.2.2.1 223 0 c_.toNat + S0_.2.2.1 224 0 c_.toNat + S0_.2.2.1 228 0 c_.toNat) Sx11_ e_ n_ ∧ tfr (256 * e_ + n_) (sm_aI S_ 275 0 (256 * e_ + n_).toNat 0) Sx11_ := by (have w9_ := p87_; (try simp only [rd_eq, rd_ne, rf_eq, rf_nk, rf_nt, rd_fa, rd_af, rd_fl, rd_al, rd_lf, rd_la, rd_leq, rd_lne, rd_fr, rd_ar, ne_eq, Nat.reduceEqDiff, not_false_eq_true] at *); rw [x223_, x224_, x228_] at w9_; exact w9_)
          have t87_ : ∀ e9_ n9_ : Int, 0 ≤ e9_ → e9_ < e_ → 0 ≤ n9_ → n9_ < (S0_.2.2.1 223 0 c_.toNat + S0_.2.2.1 224 0 c_.toNat + S0_.2.2.1 228 0 c_.toNat) → tok (S0_.2.2.1 223 0 c_.toNat + S0_.2.2.1 224 0 c_.toNat + S0_.2.2.1 228 0 c_.toNat) Sx11_ e9_ n9_ := fun e9_ n9_ u0_ u1_ u2_ u3_ => tok_tf hIx12_ (t75_ e9_ n9_ u0_ u1_ u2_ u3_) q87_.2 (by omega) u0_ ⟨u2_, u3_⟩ (by omega) (fun x9_ w0_ w1_ => by omega)
          have u87_ : ∀ n9_ : Int, n_ < n9_ → n9_ < (S0_.2.2.1 223 0 c_.toNat + S0_.2.2.1 224 0 c_.toNat + S0_.2.2.1 228 0 c_.toNat) → tok (S0_.2.2.1 223 0 c_.toNat + S0_.2.2.1 224 0 c_.toNat + S0_.2.2.1 228 0 c_.toNat) Sx11_ e_ n9_ := fun n9_ u0_ u1_ => tok_tf hIx12_ (u75_ n9_ u0_ u1_) q87_.2 (by omega) (by omega) ⟨by omega, u1_⟩ (by omega) (fun x9_ w0_ w1_ => by omega)
          refine sm_T_inc (a := 5) (z := (-1)) (v := n_) (w := n_ - 1) rfl rfl (by omega) (by omega) (by omega) ?_ -- pc_ 90
          refine sm_T_go 1 (c1 := (51, [some (.inr (.inr (some (13, 0)))), some (.inl c_), some (.inl en_), some (.inl st_), some (.inl e_), some (.inl (n_ - 1)), none, none, none], [], Sx11_)) rfl ?_
          refine ih_.2.1 en_ st_ e_ (n_ - 1) Sx11_ hIx12_ hFx15_ ⟨?_, ?_, ?_, trivial⟩ ?_
          · omega
          · first | exact t87_ | exact t75_
          · intro n9_ u0_ u1_
            by_cases z9_ : n9_ = n_
            · rw [z9_]; first | exact q87_.1 | exact z75_
            · first | exact u87_ n9_ (by omega) u1_ | exact u75_ n9_ (by omega) u1_
          · omega
    · rintro en_ st_ e_ s_ S_ hI_ hF_ ⟨h0_, ht_, hu_, -⟩ hm_
      have f223_ : S_.2.2.1 223 0 = S0_.2.2.1 223 0 := fr_arr hF_ rfl
      have f224_ : S_.2.2.1 224 0 = S0_.2.2.1 224 0 := fr_arr hF_ rfl
      have f225_ : S_.2.2.1 225 0 = S0_.2.2.1 225 0 := fr_arr hF_ rfl
      have f228_ : S_.2.2.1 228 0 = S0_.2.2.1 228 0 := fr_arr hF_ rfl
      have x223_ : S_.2.2.1 223 0 c_.toNat = S0_.2.2.1 223 0 c_.toNat := congrFun f223_ _
      have x224_ : S_.2.2.1 224 0 c_.toNat = S0_.2.2.1 224 0 c_.toNat := congrFun f224_ _
      have x225_ : S_.2.2.1 225 0 c_.toNat = S0_.2.2.1 225 0 c_.toNat := congrFun f225_ _
      have x228_ : S_.2.2.1 228 0 c_.toNat = S0_.2.2.1 228 0 c_.toNat := congrFun f228_ _
      have cA_ : 0 ≤ S_.2.2.1 223 0 c_.toNat ∧ S_.2.2.1 223 0 c_.toNat ≤ 12 := hI_.2 223 0 _
      have cB_ : 0 ≤ S_.2.2.1 224 0 c_.toNat ∧ S_.2.2.1 224 0 c_.toNat ≤ 6 := hI_.2 224 0 _
      have cG_ : 0 ≤ S_.2.2.1 228 0 c_.toNat ∧ S_.2.2.1 228 0 c_.toNat ≤ 150 := hI_.2 228 0 _
      have cO_ : 0 ≤ S_.2.2.1 225 0 c_.toNat ∧ S_.2.2.1 225 0 c_.toNat ≤ 16 := hI_.2 225 0 _
      refine sm_T_go 2 (c1 := (102, [some (.inr (.inr (some (13, 0)))), some (.inl c_), some (.inl en_), some (.inl st_), some (.inl e_), some (.inl s_), none, none, none], [.inl st_, .inl s_], S_)) rfl ?_
      refine sm_T_br (a := 3) (z := 40) rfl (fun cx1_ => ?_) (fun cx1_ => ?_)
      · have cx1_ : st_ ≤ s_ := of_decide_eq_true cx1_
        refine sm_T_inc (a := 4) (z := 1) (v := e_) (w := e_ + 1) rfl rfl (by omega) (by omega) (by omega) ?_ -- pc_ 142
        refine sm_T_go 1 (c1 := (36, [some (.inr (.inr (some (13, 0)))), some (.inl c_), some (.inl en_), some (.inl st_), some (.inl (e_ + 1)), some (.inl s_), none, none, none], [], S_)) rfl ?_
        refine sm_T_wk [some (.inr (.inr (some (13, 0)))), some (.inl c_), some (.inl en_), some (.inl st_), some (.inl (e_ + 1)), none, none, none, none] (by exact ⟨rfl, rfl, rfl, rfl, rfl, trivial⟩) ?_
        refine ih_.1 en_ st_ (e_ + 1) S_ hI_ hF_ ⟨?_, ?_, trivial⟩ ?_
        · omega
        · intro e9_ n9_ u0_ u1_ u2_ u3_
          by_cases z9_ : e9_ = e_
          · rw [z9_]; exact hu_ n9_ (by omega) u3_
          · exact ht_ e9_ n9_ u0_ (by omega) u2_ u3_
        · omega
      · have cx1_ : ¬ (st_ ≤ s_) := of_decide_eq_false cx1_
        refine sm_T_go 4 (c1 := (113, [some (.inr (.inr (some (13, 0)))), some (.inl c_), some (.inl en_), some (.inl st_), some (.inl e_), some (.inl s_), none, none, none], [.inl e_, .inl 16, .inr (.inr (some (283, 0)))], S_)) rfl ?_
        refine sm_T_bin (w := 16 * e_) rfl (bi_mul (by omega) (by omega) (by omega)) ?_ -- pc_ 113
        refine sm_T_go 1 (c1 := (116, [some (.inr (.inr (some (13, 0)))), some (.inl c_), some (.inl en_), some (.inl st_), some (.inl e_), some (.inl s_), none, none, none], [.inl s_, .inl (16 * e_), .inr (.inr (some (283, 0)))], S_)) rfl ?_
        refine sm_T_bin (w := 16 * e_ + s_) rfl (bi_add (by omega) (by omega) (by omega)) ?_ -- pc_ 116
        refine sm_T_go 4 (c1 := (123, [some (.inr (.inr (some (13, 0)))), some (.inl c_), some (.inl en_), some (.inl st_), some (.inl e_), some (.inl s_), none, none, none], [.inl e_, .inl s_, .inl c_, .inr (.inr (some (13, 0))), .inl (16 * e_ + s_), .inr (.inr (some (283, 0)))], S_)) rfl ?_
        refine sm_T_cal (d1 := 0) (Q1 := vq_499 c_ s_ e_ S_) rfl rfl (by decide) (vc_499 c_ s_ e_ S_ hI_ (by omega) (by omega) (by omega)) (fun u_ Sx2_ px5_ => ?_)
        obtain ⟨rfl, vx7_, rfl, px5_⟩ := px5_
        refine sm_T_b0 (a := 0) (z := 8) rfl (fun cx8_ => ?_) (fun cx8_ => ?_)
        · have cx8_ : vx7_ = 0 := of_decide_eq_true cx8_
          refine sm_T_go 1 (c1 := (135, [some (.inr (.inr (some (13, 0)))), some (.inl c_), some (.inl en_), some (.inl st_), some (.inl e_), some (.inl s_), none, none, none], [.inl 0, .inl (16 * e_ + s_), .inr (.inr (some (283, 0)))], S_)) rfl ?_
          refine sm_T_iast (n := 512) rfl rfl (by omega) (by omega) ?_
          have hIx9_ : gi (sm_aI S_ 283 0 (16 * e_ + s_).toNat 0) := gi_aI hI_ (show 0 ≤ 0 ∧ 0 ≤ 40 from ⟨by omega, by omega⟩)
          have hFx10_ : ai_fr (sx_W vw_505) S0_ (sm_aI S_ 283 0 (16 * e_ + s_).toNat 0) := ai_fr_tr hF_ (ai_fr_aI rfl)
          refine sm_T_inc (a := 5) (z := 1) (v := s_) (w := s_ + 1) rfl rfl (by omega) (by omega) (by omega) ?_ -- pc_ 136
          refine sm_T_go 1 (c1 := (99, [some (.inr (.inr (some (13, 0)))), some (.inl c_), some (.inl en_), some (.inl st_), some (.inl e_), some (.inl (s_ + 1)), none, none, none], [], sm_aI S_ 283 0 (16 * e_ + s_).toNat 0)) rfl ?_
          refine ih_.2.2.1 en_ st_ e_ (s_ + 1) (sm_aI S_ 283 0 (16 * e_ + s_).toNat 0) hIx9_ hFx10_ ⟨?_, ?_, ?_, trivial⟩ ?_
          · omega
          · (intro e9_ n9_ u0_ u1_ u2_ u3_; exact tok_fr (w_ := ([], [283], [])) (ht_ e9_ n9_ u0_ u1_ u2_ u3_) (ai_fr_aI rfl))
          · (intro n9_ u0_ u1_; exact tok_fr (w_ := ([], [283], [])) (hu_ n9_ u0_ u1_) (ai_fr_aI rfl))
          · omega
        · have cx8_ : ¬ (vx7_ = 0) := of_decide_eq_false cx8_
          refine sm_T_go 2 (c1 := (135, [some (.inr (.inr (some (13, 0)))), some (.inl c_), some (.inl en_), some (.inl st_), some (.inl e_), some (.inl s_), none, none, none], [.inl 40, .inl (16 * e_ + s_), .inr (.inr (some (283, 0)))], S_)) rfl ?_
          refine sm_T_iast (n := 512) rfl rfl (by omega) (by omega) ?_
          have hIx11_ : gi (sm_aI S_ 283 0 (16 * e_ + s_).toNat 40) := gi_aI hI_ (show 0 ≤ 40 ∧ 40 ≤ 40 from ⟨by omega, by omega⟩)
          have hFx12_ : ai_fr (sx_W vw_505) S0_ (sm_aI S_ 283 0 (16 * e_ + s_).toNat 40) := ai_fr_tr hF_ (ai_fr_aI rfl)
          refine sm_T_inc (a := 5) (z := 1) (v := s_) (w := s_ + 1) rfl rfl (by omega) (by omega) (by omega) ?_ -- pc_ 136
          refine sm_T_go 1 (c1 := (99, [some (.inr (.inr (some (13, 0)))), some (.inl c_), some (.inl en_), some (.inl st_), some (.inl e_), some (.inl (s_ + 1)), none, none, none], [], sm_aI S_ 283 0 (16 * e_ + s_).toNat 40)) rfl ?_
          refine ih_.2.2.1 en_ st_ e_ (s_ + 1) (sm_aI S_ 283 0 (16 * e_ + s_).toNat 40) hIx11_ hFx12_ ⟨?_, ?_, ?_, trivial⟩ ?_
          · omega
          · (intro e9_ n9_ u0_ u1_ u2_ u3_; exact tok_fr (w_ := ([], [283], [])) (ht_ e9_ n9_ u0_ u1_ u2_ u3_) (ai_fr_aI rfl))
          · (intro n9_ u0_ u1_; exact tok_fr (w_ := ([], [283], [])) (hu_ n9_ u0_ u1_) (ai_fr_aI rfl))
          · omega
    · rintro en_ st_ mo_ S_ hI_ hF_ ⟨h0_, ht_, hc9_, -⟩ hm_
      have f223_ : S_.2.2.1 223 0 = S0_.2.2.1 223 0 := fr_arr hF_ rfl
      have f224_ : S_.2.2.1 224 0 = S0_.2.2.1 224 0 := fr_arr hF_ rfl
      have f225_ : S_.2.2.1 225 0 = S0_.2.2.1 225 0 := fr_arr hF_ rfl
      have f228_ : S_.2.2.1 228 0 = S0_.2.2.1 228 0 := fr_arr hF_ rfl
      have x223_ : S_.2.2.1 223 0 c_.toNat = S0_.2.2.1 223 0 c_.toNat := congrFun f223_ _
      have x224_ : S_.2.2.1 224 0 c_.toNat = S0_.2.2.1 224 0 c_.toNat := congrFun f224_ _
      have x225_ : S_.2.2.1 225 0 c_.toNat = S0_.2.2.1 225 0 c_.toNat := congrFun f225_ _
      have x228_ : S_.2.2.1 228 0 c_.toNat = S0_.2.2.1 228 0 c_.toNat := congrFun f228_ _
      have cA_ : 0 ≤ S_.2.2.1 223 0 c_.toNat ∧ S_.2.2.1 223 0 c_.toNat ≤ 12 := hI_.2 223 0 _
      have cB_ : 0 ≤ S_.2.2.1 224 0 c_.toNat ∧ S_.2.2.1 224 0 c_.toNat ≤ 6 := hI_.2 224 0 _
      have cG_ : 0 ≤ S_.2.2.1 228 0 c_.toNat ∧ S_.2.2.1 228 0 c_.toNat ≤ 150 := hI_.2 228 0 _
      have cO_ : 0 ≤ S_.2.2.1 225 0 c_.toNat ∧ S_.2.2.1 225 0 c_.toNat ≤ 16 := hI_.2 225 0 _
      have C9_ : 0 ≤ S_.1 13 0 206 ∧ S_.1 13 0 206 ≤ 40 := hI_.1 13 0 206 rfl
      have bx1_ : 0 ≤ S_.1 13 0 206 ∧ S_.1 13 0 206 ≤ 40 := hI_.1 13 0 206 rfl
      refine sm_T_go 3 (c1 := (162, [some (.inr (.inr (some (13, 0)))), some (.inl c_), some (.inl en_), some (.inl st_), some (.inl mo_), none, none, none, none], [.inl 40, .inl (S_.1 13 0 206)], S_)) rfl ?_
      refine sm_T_br (a := 3) (z := 204) rfl (fun cx2_ => ?_) (fun cx2_ => ?_)
      · have cx2_ : 40 ≤ (S_.1 13 0 206) := of_decide_eq_true cx2_
        refine sm_T_rv rfl ⟨_, _, rfl, rfl, hI_, hF_, ?_⟩
        exact ⟨ht_, hc9_⟩
      · have cx2_ : ¬ (40 ≤ (S_.1 13 0 206)) := of_decide_eq_false cx2_
        refine sm_T_go 1 (c1 := (167, [some (.inr (.inr (some (13, 0)))), some (.inl c_), some (.inl en_), some (.inl st_), some (.inl mo_), none, none, none, none], [.inl mo_], S_)) rfl ?_
        refine sm_T_b0 (a := 0) (z := 199) rfl (fun cx3_ => ?_) (fun cx3_ => ?_)
        · have cx3_ : mo_ = 0 := of_decide_eq_true cx3_
          refine sm_T_rv rfl ⟨_, _, rfl, rfl, hI_, hF_, ?_⟩
          exact ⟨ht_, hc9_⟩
        · have cx3_ : ¬ (mo_ = 0) := of_decide_eq_false cx3_
          refine sm_T_go 4 (c1 := (176, [some (.inr (.inr (some (13, 0)))), some (.inl c_), some (.inl en_), some (.inl st_), some (.inl mo_), some (.inl (-1)), some (.inl 0), none, none], [], S_)) rfl ?_
          refine sm_T_wk [some (.inr (.inr (some (13, 0)))), some (.inl c_), some (.inl en_), some (.inl st_), none, some (.inl (-1)), some (.inl 0), none, none] (by exact ⟨rfl, rfl, rfl, rfl, rfl, rfl, trivial⟩) ?_
          refine ih_.2.2.2.2 en_ st_ (-1) 0 S_ hI_ hF_ ⟨?_, ?_, ?_, ?_, trivial⟩ ?_
          · omega
          · exact ht_
          · exact hc9_
          · exact Or.inl rfl
          · omega
    · rintro en_ st_ b_ h_ S_ hI_ hF_ ⟨h0_, ht_, hc9_, hb_, -⟩ hm_
      have f223_ : S_.2.2.1 223 0 = S0_.2.2.1 223 0 := fr_arr hF_ rfl
      have f224_ : S_.2.2.1 224 0 = S0_.2.2.1 224 0 := fr_arr hF_ rfl
      have f225_ : S_.2.2.1 225 0 = S0_.2.2.1 225 0 := fr_arr hF_ rfl
      have f228_ : S_.2.2.1 228 0 = S0_.2.2.1 228 0 := fr_arr hF_ rfl
      have x223_ : S_.2.2.1 223 0 c_.toNat = S0_.2.2.1 223 0 c_.toNat := congrFun f223_ _
      have x224_ : S_.2.2.1 224 0 c_.toNat = S0_.2.2.1 224 0 c_.toNat := congrFun f224_ _
      have x225_ : S_.2.2.1 225 0 c_.toNat = S0_.2.2.1 225 0 c_.toNat := congrFun f225_ _
      have x228_ : S_.2.2.1 228 0 c_.toNat = S0_.2.2.1 228 0 c_.toNat := congrFun f228_ _
      have cA_ : 0 ≤ S_.2.2.1 223 0 c_.toNat ∧ S_.2.2.1 223 0 c_.toNat ≤ 12 := hI_.2 223 0 _
      have cB_ : 0 ≤ S_.2.2.1 224 0 c_.toNat ∧ S_.2.2.1 224 0 c_.toNat ≤ 6 := hI_.2 224 0 _
      have cG_ : 0 ≤ S_.2.2.1 228 0 c_.toNat ∧ S_.2.2.1 228 0 c_.toNat ≤ 150 := hI_.2 228 0 _
      have cO_ : 0 ≤ S_.2.2.1 225 0 c_.toNat ∧ S_.2.2.1 225 0 c_.toNat ≤ 16 := hI_.2 225 0 _
      have C9_ : 0 ≤ S_.1 13 0 206 ∧ S_.1 13 0 206 ≤ 40 := hI_.1 13 0 206 rfl
      have c75_ : 0 ≤ S_.2.2.1 275 0 (256 * (b_ / 16) + b_ % 16).toNat ∧ S_.2.2.1 275 0 (256 * (b_ / 16) + b_ % 16).toNat ≤ 40 := hI_.2 275 0 _
      refine sm_T_go 3 (c1 := (181, [some (.inr (.inr (some (13, 0)))), some (.inl c_), some (.inl en_), some (.inl st_), none, some (.inl b_), some (.inl h_), none, none], [.inl en_, .inl 16, .inl h_], S_)) rfl ?_
      refine sm_T_bin (w := 16 * en_) rfl (bi_mul (by omega) (by omega) (by omega)) ?_ -- pc_ 181
      refine sm_T_br (a := 3) (z := 98) rfl (fun cx1_ => ?_) (fun cx1_ => ?_)
      · have cx1_ : 16 * en_ ≤ h_ := of_decide_eq_true cx1_
        refine sm_T_go 2 (c1 := (283, [some (.inr (.inr (some (13, 0)))), some (.inl c_), some (.inl en_), some (.inl st_), none, some (.inl b_), some (.inl h_), none, none], [.inl (-1), .inl b_], S_)) rfl ?_
        refine sm_T_br (a := 0) (z := 7) rfl (fun cx2_ => ?_) (fun cx2_ => ?_)
        · have cx2_ : b_ = (-1) := of_decide_eq_true cx2_
          refine sm_T_go 5 (c1 := (156, [some (.inr (.inr (some (13, 0)))), some (.inl c_), some (.inl en_), some (.inl st_), some (.inl 0), some (.inl b_), some (.inl h_), none, none], [], S_)) rfl ?_
          refine sm_T_wk [some (.inr (.inr (some (13, 0)))), some (.inl c_), some (.inl en_), some (.inl st_), some (.inl 0), none, none, none, none] (by exact ⟨rfl, rfl, rfl, rfl, rfl, trivial⟩) ?_
          refine ih_.2.2.2.1 en_ st_ 0 S_ hI_ hF_ ⟨?_, ?_, ?_, trivial⟩ ?_
          · omega
          · first | exact ht_ | exact tal_fr (w_ := ([(13, 206)], [280, 281, 282, 283], [])) ht_ (ai_fr_tr (ai_fr_tr (ai_fr_tr (ai_fr_tr (ai_fr_aI rfl) (ai_fr_aI rfl)) (ai_fr_aI rfl)) (ai_fr_aI rfl)) (ai_fr_pI rfl))
          · exact hc9_
          · omega
        · have cx2_ : ¬ (b_ = (-1)) := of_decide_eq_false cx2_
          have bx3_ : 0 ≤ S_.1 13 0 206 ∧ S_.1 13 0 206 ≤ 40 := hI_.1 13 0 206 rfl
          refine sm_T_go 11 (c1 := (310, [some (.inr (.inr (some (13, 0)))), some (.inl c_), some (.inl en_), some (.inl st_), some (.inl 1), some (.inl b_), some (.inl h_), none, none], [.inl 16, .inl b_, .inl (S_.1 13 0 206), .inr (.inr (some (280, 0)))], S_)) rfl ?_
          refine sm_T_bin (w := (b_ % 16)) rfl (bi_rem (by omega) (by omega) (by omega) (by omega)) ?_ -- pc_ 310
          refine sm_T_iast (n := 40) rfl rfl (by omega) (by omega) ?_
          have hIx4_ : gi (sm_aI S_ 280 0 (S_.1 13 0 206).toNat (b_ % 16)) := gi_aI hI_ (show 0 ≤ (b_ % 16) ∧ (b_ % 16) ≤ 15 from ⟨by omega, by omega⟩)
          have hFx5_ : ai_fr (sx_W vw_505) S0_ (sm_aI S_ 280 0 (S_.1 13 0 206).toNat (b_ % 16)) := ai_fr_tr hF_ (ai_fr_aI rfl)
          refine sm_T_go 6 (c1 := (324, [some (.inr (.inr (some (13, 0)))), some (.inl c_), some (.inl en_), some (.inl st_), some (.inl 1), some (.inl b_), some (.inl h_), none, none], [.inl 16, .inl b_, .inl (S_.1 13 0 206), .inr (.inr (some (281, 0)))], sm_aI S_ 280 0 (S_.1 13 0 206).toNat (b_ % 16))) rfl ?_
          refine sm_T_bin (w := (b_ / 16)) rfl (bi_div (by omega) (by omega) (by omega) (by omega)) ?_ -- pc_ 324
          refine sm_T_iast (n := 40) rfl rfl (by omega) (by omega) ?_
          have hIx6_ : gi (sm_aI (sm_aI S_ 280 0 (S_.1 13 0 206).toNat (b_ % 16)) 281 0 (S_.1 13 0 206).toNat (b_ / 16)) := gi_aI hIx4_ (show 0 ≤ (b_ / 16) ∧ (b_ / 16) ≤ 21 from ⟨by omega, by omega⟩)
          have hFx7_ : ai_fr (sx_W vw_505) S0_ (sm_aI (sm_aI S_ 280 0 (S_.1 13 0 206).toNat (b_ % 16)) 281 0 (S_.1 13 0 206).toNat (b_ / 16)) := ai_fr_tr hFx5_ (ai_fr_aI rfl)
          refine sm_T_go 7 (c1 := (340, [some (.inr (.inr (some (13, 0)))), some (.inl c_), some (.inl en_), some (.inl st_), some (.inl 1), some (.inl b_), some (.inl h_), none, none], [.inl b_, .inr (.inr (some (283, 0))), .inl (S_.1 13 0 206), .inr (.inr (some (282, 0)))], sm_aI (sm_aI S_ 280 0 (S_.1 13 0 206).toNat (b_ % 16)) 281 0 (S_.1 13 0 206).toNat (b_ / 16))) rfl ?_
          refine sm_T_iald (n := 512) rfl rfl (by omega) (by omega) ?_
          have bx8_ : 0 ≤ S_.2.2.1 283 0 b_.toNat ∧ S_.2.2.1 283 0 b_.toNat ≤ 40 := hI_.2 283 0 _
          refine sm_T_go 0 (c1 := (341, [some (.inr (.inr (some (13, 0)))), some (.inl c_), some (.inl en_), some (.inl st_), some (.inl 1), some (.inl b_), some (.inl h_), none, none], [.inl (S_.2.2.1 283 0 b_.toNat), .inl (S_.1 13 0 206), .inr (.inr (some (282, 0)))], sm_aI (sm_aI S_ 280 0 (S_.1 13 0 206).toNat (b_ % 16)) 281 0 (S_.1 13 0 206).toNat (b_ / 16))) rfl ?_
          refine sm_T_iast (n := 40) rfl rfl (by omega) (by omega) ?_
          have hIx9_ : gi (sm_aI (sm_aI (sm_aI S_ 280 0 (S_.1 13 0 206).toNat (b_ % 16)) 281 0 (S_.1 13 0 206).toNat (b_ / 16)) 282 0 (S_.1 13 0 206).toNat (S_.2.2.1 283 0 b_.toNat)) := gi_aI hIx6_ (show 0 ≤ (S_.2.2.1 283 0 b_.toNat) ∧ (S_.2.2.1 283 0 b_.toNat) ≤ 39 from ⟨by omega, by omega⟩)
          have hFx10_ : ai_fr (sx_W vw_505) S0_ (sm_aI (sm_aI (sm_aI S_ 280 0 (S_.1 13 0 206).toNat (b_ % 16)) 281 0 (S_.1 13 0 206).toNat (b_ / 16)) 282 0 (S_.1 13 0 206).toNat (S_.2.2.1 283 0 b_.toNat)) := ai_fr_tr hFx7_ (ai_fr_aI rfl)
          refine sm_T_go 4 (c1 := (349, [some (.inr (.inr (some (13, 0)))), some (.inl c_), some (.inl en_), some (.inl st_), some (.inl 1), some (.inl b_), some (.inl h_), none, none], [.inl b_, .inr (.inr (some (283, 0))), .inl b_, .inr (.inr (some (283, 0)))], sm_aI (sm_aI (sm_aI S_ 280 0 (S_.1 13 0 206).toNat (b_ % 16)) 281 0 (S_.1 13 0 206).toNat (b_ / 16)) 282 0 (S_.1 13 0 206).toNat (S_.2.2.1 283 0 b_.toNat))) rfl ?_
          refine sm_T_iald (n := 512) rfl rfl (by omega) (by omega) ?_
          refine sm_T_go 1 (c1 := (351, [some (.inr (.inr (some (13, 0)))), some (.inl c_), some (.inl en_), some (.inl st_), some (.inl 1), some (.inl b_), some (.inl h_), none, none], [.inl 1, .inl (S_.2.2.1 283 0 b_.toNat), .inl b_, .inr (.inr (some (283, 0)))], sm_aI (sm_aI (sm_aI S_ 280 0 (S_.1 13 0 206).toNat (b_ % 16)) 281 0 (S_.1 13 0 206).toNat (b_ / 16)) 282 0 (S_.1 13 0 206).toNat (S_.2.2.1 283 0 b_.toNat))) rfl ?_
          refine sm_T_bin (w := (S_.2.2.1 283 0 b_.toNat) + 1) rfl (bi_add (by omega) (by omega) (by omega)) ?_ -- pc_ 351
          refine sm_T_iast (n := 512) rfl rfl (by omega) (by omega) ?_
          have hIx11_ : gi (sm_aI (sm_aI (sm_aI (sm_aI S_ 280 0 (S_.1 13 0 206).toNat (b_ % 16)) 281 0 (S_.1 13 0 206).toNat (b_ / 16)) 282 0 (S_.1 13 0 206).toNat (S_.2.2.1 283 0 b_.toNat)) 283 0 b_.toNat ((S_.2.2.1 283 0 b_.toNat) + 1)) := gi_aI hIx9_ (show 0 ≤ (S_.2.2.1 283 0 b_.toNat) + 1 ∧ (S_.2.2.1 283 0 b_.toNat) + 1 ≤ 40 from ⟨by omega, by omega⟩)
          have hFx12_ : ai_fr (sx_W vw_505) S0_ (sm_aI (sm_aI (sm_aI (sm_aI S_ 280 0 (S_.1 13 0 206).toNat (b_ % 16)) 281 0 (S_.1 13 0 206).toNat (b_ / 16)) 282 0 (S_.1 13 0 206).toNat (S_.2.2.1 283 0 b_.toNat)) 283 0 b_.toNat ((S_.2.2.1 283 0 b_.toNat) + 1)) := ai_fr_tr hFx10_ (ai_fr_aI rfl)
          refine sm_T_go 4 (c1 := (359, [some (.inr (.inr (some (13, 0)))), some (.inl c_), some (.inl en_), some (.inl st_), some (.inl 1), some (.inl b_), some (.inl h_), none, none], [.inl 1, .inl (S_.1 13 0 206), .inr (.inr (some (13, 0)))], sm_aI (sm_aI (sm_aI (sm_aI S_ 280 0 (S_.1 13 0 206).toNat (b_ % 16)) 281 0 (S_.1 13 0 206).toNat (b_ / 16)) 282 0 (S_.1 13 0 206).toNat (S_.2.2.1 283 0 b_.toNat)) 283 0 b_.toNat ((S_.2.2.1 283 0 b_.toNat) + 1))) rfl ?_
          refine sm_T_bin (w := (S_.1 13 0 206) + 1) rfl (bi_add (by omega) (by omega) (by omega)) ?_ -- pc_ 359
          have hIx13_ : gi (sm_pI (sm_aI (sm_aI (sm_aI (sm_aI S_ 280 0 (S_.1 13 0 206).toNat (b_ % 16)) 281 0 (S_.1 13 0 206).toNat (b_ / 16)) 282 0 (S_.1 13 0 206).toNat (S_.2.2.1 283 0 b_.toNat)) 283 0 b_.toNat ((S_.2.2.1 283 0 b_.toNat) + 1)) 13 0 206 ((S_.1 13 0 206) + 1)) := gi_pI hIx11_ (show 0 ≤ (S_.1 13 0 206) + 1 ∧ (S_.1 13 0 206) + 1 ≤ 40 from ⟨by omega, by omega⟩)
          have hFx14_ : ai_fr (sx_W vw_505) S0_ (sm_pI (sm_aI (sm_aI (sm_aI (sm_aI S_ 280 0 (S_.1 13 0 206).toNat (b_ % 16)) 281 0 (S_.1 13 0 206).toNat (b_ / 16)) 282 0 (S_.1 13 0 206).toNat (S_.2.2.1 283 0 b_.toNat)) 283 0 b_.toNat ((S_.2.2.1 283 0 b_.toNat) + 1)) 13 0 206 ((S_.1 13 0 206) + 1)) := ai_fr_tr hFx12_ (ai_fr_pI rfl)
          refine sm_T_go 2 (c1 := (156, [some (.inr (.inr (some (13, 0)))), some (.inl c_), some (.inl en_), some (.inl st_), some (.inl 1), some (.inl b_), some (.inl h_), none, none], [], sm_pI (sm_aI (sm_aI (sm_aI (sm_aI S_ 280 0 (S_.1 13 0 206).toNat (b_ % 16)) 281 0 (S_.1 13 0 206).toNat (b_ / 16)) 282 0 (S_.1 13 0 206).toNat (S_.2.2.1 283 0 b_.toNat)) 283 0 b_.toNat ((S_.2.2.1 283 0 b_.toNat) + 1)) 13 0 206 ((S_.1 13 0 206) + 1))) rfl ?_
          refine sm_T_wk [some (.inr (.inr (some (13, 0)))), some (.inl c_), some (.inl en_), some (.inl st_), some (.inl 1), none, none, none, none] (by exact ⟨rfl, rfl, rfl, rfl, rfl, trivial⟩) ?_
          refine ih_.2.2.2.1 en_ st_ 1 (sm_pI (sm_aI (sm_aI (sm_aI (sm_aI S_ 280 0 (S_.1 13 0 206).toNat (b_ % 16)) 281 0 (S_.1 13 0 206).toNat (b_ / 16)) 282 0 (S_.1 13 0 206).toNat (S_.2.2.1 283 0 b_.toNat)) 283 0 b_.toNat ((S_.2.2.1 283 0 b_.toNat) + 1)) 13 0 206 ((S_.1 13 0 206) + 1)) hIx13_ hFx14_ ⟨?_, ?_, ?_, trivial⟩ ?_
          · omega
          · first | exact ht_ | exact tal_fr (w_ := ([(13, 206)], [280, 281, 282, 283], [])) ht_ (ai_fr_tr (ai_fr_tr (ai_fr_tr (ai_fr_tr (ai_fr_aI rfl) (ai_fr_aI rfl)) (ai_fr_aI rfl)) (ai_fr_aI rfl)) (ai_fr_pI rfl))
          · have r0_ : ∀ j9_, ((sm_pI (sm_aI (sm_aI (sm_aI (sm_aI S_ 280 0 (S_.1 13 0 206).toNat (b_ % 16)) 281 0 (S_.1 13 0 206).toNat (b_ / 16)) 282 0 (S_.1 13 0 206).toNat (S_.2.2.1 283 0 b_.toNat)) 283 0 b_.toNat ((S_.2.2.1 283 0 b_.toNat) + 1)) 13 0 206 ((S_.1 13 0 206) + 1))).2.2.1 280 0 j9_ = if j9_ = (S_.1 13 0 206).toNat then b_ % 16 else S_.2.2.1 280 0 j9_ := fun j9_ => by (try simp only [rd_eq, rd_ne, rf_eq, rf_nk, rf_nt, rd_fa, rd_af, rd_fl, rd_al, rd_lf, rd_la, rd_leq, rd_lne, rd_fr, rd_ar, ne_eq, Nat.reduceEqDiff, not_false_eq_true])
            have r1_ : ∀ j9_, ((sm_pI (sm_aI (sm_aI (sm_aI (sm_aI S_ 280 0 (S_.1 13 0 206).toNat (b_ % 16)) 281 0 (S_.1 13 0 206).toNat (b_ / 16)) 282 0 (S_.1 13 0 206).toNat (S_.2.2.1 283 0 b_.toNat)) 283 0 b_.toNat ((S_.2.2.1 283 0 b_.toNat) + 1)) 13 0 206 ((S_.1 13 0 206) + 1))).2.2.1 281 0 j9_ = if j9_ = (S_.1 13 0 206).toNat then b_ / 16 else S_.2.2.1 281 0 j9_ := fun j9_ => by (try simp only [rd_eq, rd_ne, rf_eq, rf_nk, rf_nt, rd_fa, rd_af, rd_fl, rd_al, rd_lf, rd_la, rd_leq, rd_lne, rd_fr, rd_ar, ne_eq, Nat.reduceEqDiff, not_false_eq_true])
            have r2_ : ∀ j9_, ((sm_pI (sm_aI (sm_aI (sm_aI (sm_aI S_ 280 0 (S_.1 13 0 206).toNat (b_ % 16)) 281 0 (S_.1 13 0 206).toNat (b_ / 16)) 282 0 (S_.1 13 0 206).toNat (S_.2.2.1 283 0 b_.toNat)) 283 0 b_.toNat ((S_.2.2.1 283 0 b_.toNat) + 1)) 13 0 206 ((S_.1 13 0 206) + 1))).2.2.1 282 0 j9_ = if j9_ = (S_.1 13 0 206).toNat then S_.2.2.1 283 0 b_.toNat else S_.2.2.1 282 0 j9_ := fun j9_ => by (try simp only [rd_eq, rd_ne, rf_eq, rf_nk, rf_nt, rd_fa, rd_af, rd_fl, rd_al, rd_lf, rd_la, rd_leq, rd_lne, rd_fr, rd_ar, ne_eq, Nat.reduceEqDiff, not_false_eq_true])
            have r5_ : ((sm_pI (sm_aI (sm_aI (sm_aI (sm_aI S_ 280 0 (S_.1 13 0 206).toNat (b_ % 16)) 281 0 (S_.1 13 0 206).toNat (b_ / 16)) 282 0 (S_.1 13 0 206).toNat (S_.2.2.1 283 0 b_.toNat)) 283 0 b_.toNat ((S_.2.2.1 283 0 b_.toNat) + 1)) 13 0 206 ((S_.1 13 0 206) + 1))).2.2.1 275 0 = S_.2.2.1 275 0 := by (funext j9_; (try simp only [rd_eq, rd_ne, rf_eq, rf_nk, rf_nt, rd_fa, rd_af, rd_fl, rd_al, rd_lf, rd_la, rd_leq, rd_lne, rd_fr, rd_ar, ne_eq, Nat.reduceEqDiff, not_false_eq_true]))
            have r6_ : ((sm_pI (sm_aI (sm_aI (sm_aI (sm_aI S_ 280 0 (S_.1 13 0 206).toNat (b_ % 16)) 281 0 (S_.1 13 0 206).toNat (b_ / 16)) 282 0 (S_.1 13 0 206).toNat (S_.2.2.1 283 0 b_.toNat)) 283 0 b_.toNat ((S_.2.2.1 283 0 b_.toNat) + 1)) 13 0 206 ((S_.1 13 0 206) + 1))).1 13 0 206 = S_.1 13 0 206 + 1 := by (try simp only [rd_eq, rd_ne, rf_eq, rf_nk, rf_nt, rd_fa, rd_af, rd_fl, rd_al, rd_lf, rd_la, rd_leq, rd_lne, rd_fr, rd_ar, ne_eq, Nat.reduceEqDiff, not_false_eq_true])
            intro k9_ u0_ u1_
            rw [r6_] at u1_
            unfold pst
            rw [r0_, r1_, r2_, r5_]
            by_cases z9_ : k9_.toNat = (S_.1 13 0 206).toNat
            · rw [if_pos z9_, if_pos z9_, if_pos z9_]; exact ⟨by omega, by omega, Or.inr ⟨by omega, by omega, by omega⟩⟩
            · rw [if_neg z9_, if_neg z9_, if_neg z9_]; exact hc9_ k9_ u0_ (by omega)
          · have r0_ : ∀ j9_, ((sm_pI (sm_aI (sm_aI (sm_aI (sm_aI S_ 280 0 (S_.1 13 0 206).toNat (b_ % 16)) 281 0 (S_.1 13 0 206).toNat (b_ / 16)) 282 0 (S_.1 13 0 206).toNat (S_.2.2.1 283 0 b_.toNat)) 283 0 b_.toNat ((S_.2.2.1 283 0 b_.toNat) + 1)) 13 0 206 ((S_.1 13 0 206) + 1))).2.2.1 280 0 j9_ = if j9_ = (S_.1 13 0 206).toNat then b_ % 16 else S_.2.2.1 280 0 j9_ := fun j9_ => by (try simp only [rd_eq, rd_ne, rf_eq, rf_nk, rf_nt, rd_fa, rd_af, rd_fl, rd_al, rd_lf, rd_la, rd_leq, rd_lne, rd_fr, rd_ar, ne_eq, Nat.reduceEqDiff, not_false_eq_true])
            have r1_ : ∀ j9_, ((sm_pI (sm_aI (sm_aI (sm_aI (sm_aI S_ 280 0 (S_.1 13 0 206).toNat (b_ % 16)) 281 0 (S_.1 13 0 206).toNat (b_ / 16)) 282 0 (S_.1 13 0 206).toNat (S_.2.2.1 283 0 b_.toNat)) 283 0 b_.toNat ((S_.2.2.1 283 0 b_.toNat) + 1)) 13 0 206 ((S_.1 13 0 206) + 1))).2.2.1 281 0 j9_ = if j9_ = (S_.1 13 0 206).toNat then b_ / 16 else S_.2.2.1 281 0 j9_ := fun j9_ => by (try simp only [rd_eq, rd_ne, rf_eq, rf_nk, rf_nt, rd_fa, rd_af, rd_fl, rd_al, rd_lf, rd_la, rd_leq, rd_lne, rd_fr, rd_ar, ne_eq, Nat.reduceEqDiff, not_false_eq_true])
            have r2_ : ∀ j9_, ((sm_pI (sm_aI (sm_aI (sm_aI (sm_aI S_ 280 0 (S_.1 13 0 206).toNat (b_ % 16)) 281 0 (S_.1 13 0 206).toNat (b_ / 16)) 282 0 (S_.1 13 0 206).toNat (S_.2.2.1 283 0 b_.toNat)) 283 0 b_.toNat ((S_.2.2.1 283 0 b_.toNat) + 1)) 13 0 206 ((S_.1 13 0 206) + 1))).2.2.1 282 0 j9_ = if j9_ = (S_.1 13 0 206).toNat then S_.2.2.1 283 0 b_.toNat else S_.2.2.1 282 0 j9_ := fun j9_ => by (try simp only [rd_eq, rd_ne, rf_eq, rf_nk, rf_nt, rd_fa, rd_af, rd_fl, rd_al, rd_lf, rd_la, rd_leq, rd_lne, rd_fr, rd_ar, ne_eq, Nat.reduceEqDiff, not_false_eq_true])
            have r5_ : ((sm_pI (sm_aI (sm_aI (sm_aI (sm_aI S_ 280 0 (S_.1 13 0 206).toNat (b_ % 16)) 281 0 (S_.1 13 0 206).toNat (b_ / 16)) 282 0 (S_.1 13 0 206).toNat (S_.2.2.1 283 0 b_.toNat)) 283 0 b_.toNat ((S_.2.2.1 283 0 b_.toNat) + 1)) 13 0 206 ((S_.1 13 0 206) + 1))).2.2.1 275 0 = S_.2.2.1 275 0 := by (funext j9_; (try simp only [rd_eq, rd_ne, rf_eq, rf_nk, rf_nt, rd_fa, rd_af, rd_fl, rd_al, rd_lf, rd_la, rd_leq, rd_lne, rd_fr, rd_ar, ne_eq, Nat.reduceEqDiff, not_false_eq_true]))
            have r6_ : ((sm_pI (sm_aI (sm_aI (sm_aI (sm_aI S_ 280 0 (S_.1 13 0 206).toNat (b_ % 16)) 281 0 (S_.1 13 0 206).toNat (b_ / 16)) 282 0 (S_.1 13 0 206).toNat (S_.2.2.1 283 0 b_.toNat)) 283 0 b_.toNat ((S_.2.2.1 283 0 b_.toNat) + 1)) 13 0 206 ((S_.1 13 0 206) + 1))).1 13 0 206 = S_.1 13 0 206 + 1 := by (try simp only [rd_eq, rd_ne, rf_eq, rf_nk, rf_nt, rd_fa, rd_af, rd_fl, rd_al, rd_lf, rd_la, rd_leq, rd_lne, rd_fr, rd_ar, ne_eq, Nat.reduceEqDiff, not_false_eq_true])
            rw [r6_]
            omega
      · have cx1_ : ¬ (16 * en_ ≤ h_) := of_decide_eq_false cx1_
        refine sm_T_go 2 (c1 := (189, [some (.inr (.inr (some (13, 0)))), some (.inl c_), some (.inl en_), some (.inl st_), none, some (.inl b_), some (.inl h_), none, none], [.inl 16, .inl h_], S_)) rfl ?_
        refine sm_T_bin (w := (h_ % 16)) rfl (bi_rem (by omega) (by omega) (by omega) (by omega)) ?_ -- pc_ 189
        refine sm_T_go 3 (c1 := (196, [some (.inr (.inr (some (13, 0)))), some (.inl c_), some (.inl en_), some (.inl st_), none, some (.inl b_), some (.inl h_), some (.inl (h_ % 16)), none], [.inl 16, .inl h_], S_)) rfl ?_
        refine sm_T_bin (w := (h_ / 16)) rfl (bi_div (by omega) (by omega) (by omega) (by omega)) ?_ -- pc_ 196
        refine sm_T_go 3 (c1 := (202, [some (.inr (.inr (some (13, 0)))), some (.inl c_), some (.inl en_), some (.inl st_), none, some (.inl b_), some (.inl h_), some (.inl (h_ % 16)), some (.inl (h_ / 16))], [.inl st_, .inl (h_ % 16)], S_)) rfl ?_
        refine sm_T_br (a := 3) (z := 72) rfl (fun cx15_ => ?_) (fun cx15_ => ?_)
        · have cx15_ : st_ ≤ (h_ % 16) := of_decide_eq_true cx15_
          refine sm_T_inc (a := 6) (z := 1) (v := h_) (w := h_ + 1) rfl rfl (by omega) (by omega) (by omega) ?_ -- pc_ 274
          refine sm_T_go 1 (c1 := (176, [some (.inr (.inr (some (13, 0)))), some (.inl c_), some (.inl en_), some (.inl st_), none, some (.inl b_), some (.inl (h_ + 1)), some (.inl (h_ % 16)), some (.inl (h_ / 16))], [], S_)) rfl ?_
          refine sm_T_wk [some (.inr (.inr (some (13, 0)))), some (.inl c_), some (.inl en_), some (.inl st_), none, some (.inl b_), some (.inl (h_ + 1)), none, none] (by exact ⟨rfl, rfl, rfl, rfl, rfl, rfl, trivial⟩) ?_
          refine ih_.2.2.2.2 en_ st_ b_ (h_ + 1) S_ hI_ hF_ ⟨?_, ?_, ?_, ?_, trivial⟩ ?_
          · omega
          · exact ht_
          · exact hc9_
          · first | exact hb_ | (right; exact ⟨by omega, by omega, by omega, by omega⟩)
          · omega
        · have cx15_ : ¬ (st_ ≤ (h_ % 16)) := of_decide_eq_false cx15_
          refine sm_T_go 3 (c1 := (211, [some (.inr (.inr (some (13, 0)))), some (.inl c_), some (.inl en_), some (.inl st_), none, some (.inl b_), some (.inl h_), some (.inl (h_ % 16)), some (.inl (h_ / 16))], [.inl h_, .inr (.inr (some (283, 0)))], S_)) rfl ?_
          refine sm_T_iald (n := 512) rfl rfl (by omega) (by omega) ?_
          have bx16_ : 0 ≤ S_.2.2.1 283 0 h_.toNat ∧ S_.2.2.1 283 0 h_.toNat ≤ 40 := hI_.2 283 0 _
          refine sm_T_go 4 (c1 := (221, [some (.inr (.inr (some (13, 0)))), some (.inl c_), some (.inl en_), some (.inl st_), none, some (.inl b_), some (.inl h_), some (.inl (h_ % 16)), some (.inl (h_ / 16))], [.inl (h_ / 16), .inl 256, .inr (.inr (some (275, 0))), .inl (S_.2.2.1 283 0 h_.toNat)], S_)) rfl ?_
          refine sm_T_bin (w := 256 * (h_ / 16)) rfl (bi_mul (by omega) (by omega) (by omega)) ?_ -- pc_ 221
          refine sm_T_go 1 (c1 := (224, [some (.inr (.inr (some (13, 0)))), some (.inl c_), some (.inl en_), some (.inl st_), none, some (.inl b_), some (.inl h_), some (.inl (h_ % 16)), some (.inl (h_ / 16))], [.inl (h_ % 16), .inl (256 * (h_ / 16)), .inr (.inr (some (275, 0))), .inl (S_.2.2.1 283 0 h_.toNat)], S_)) rfl ?_
          refine sm_T_bin (w := 256 * (h_ / 16) + (h_ % 16)) rfl (bi_add (by omega) (by omega) (by omega)) ?_ -- pc_ 224
          refine sm_T_iald (n := 5632) rfl rfl (by omega) (by omega) ?_
          have bx17_ : 0 ≤ S_.2.2.1 275 0 (256 * (h_ / 16) + (h_ % 16)).toNat ∧ S_.2.2.1 275 0 (256 * (h_ / 16) + (h_ % 16)).toNat ≤ 40 := hI_.2 275 0 _
          refine sm_T_br (a := 3) (z := 48) rfl (fun cx18_ => ?_) (fun cx18_ => ?_)
          · have cx18_ : (S_.2.2.1 275 0 (256 * (h_ / 16) + (h_ % 16)).toNat) ≤ (S_.2.2.1 283 0 h_.toNat) := of_decide_eq_true cx18_
            refine sm_T_inc (a := 6) (z := 1) (v := h_) (w := h_ + 1) rfl rfl (by omega) (by omega) (by omega) ?_ -- pc_ 274
            refine sm_T_go 1 (c1 := (176, [some (.inr (.inr (some (13, 0)))), some (.inl c_), some (.inl en_), some (.inl st_), none, some (.inl b_), some (.inl (h_ + 1)), some (.inl (h_ % 16)), some (.inl (h_ / 16))], [], S_)) rfl ?_
            refine sm_T_wk [some (.inr (.inr (some (13, 0)))), some (.inl c_), some (.inl en_), some (.inl st_), none, some (.inl b_), some (.inl (h_ + 1)), none, none] (by exact ⟨rfl, rfl, rfl, rfl, rfl, rfl, trivial⟩) ?_
            refine ih_.2.2.2.2 en_ st_ b_ (h_ + 1) S_ hI_ hF_ ⟨?_, ?_, ?_, ?_, trivial⟩ ?_
            · omega
            · exact ht_
            · exact hc9_
            · first | exact hb_ | (right; exact ⟨by omega, by omega, by omega, by omega⟩)
            · omega
          · have cx18_ : ¬ ((S_.2.2.1 275 0 (256 * (h_ / 16) + (h_ % 16)).toNat) ≤ (S_.2.2.1 283 0 h_.toNat)) := of_decide_eq_false cx18_
            refine sm_T_go 2 (c1 := (232, [some (.inr (.inr (some (13, 0)))), some (.inl c_), some (.inl en_), some (.inl st_), none, some (.inl b_), some (.inl h_), some (.inl (h_ % 16)), some (.inl (h_ / 16))], [.inl (-1), .inl b_], S_)) rfl ?_
            refine sm_T_br (a := 0) (z := 38) rfl (fun cx19_ => ?_) (fun cx19_ => ?_)
            · have cx19_ : b_ = (-1) := of_decide_eq_true cx19_
              refine sm_T_go 2 (c1 := (274, [some (.inr (.inr (some (13, 0)))), some (.inl c_), some (.inl en_), some (.inl st_), none, some (.inl h_), some (.inl h_), some (.inl (h_ % 16)), some (.inl (h_ / 16))], [], S_)) rfl ?_
              refine sm_T_inc (a := 6) (z := 1) (v := h_) (w := h_ + 1) rfl rfl (by omega) (by omega) (by omega) ?_ -- pc_ 274
              refine sm_T_go 1 (c1 := (176, [some (.inr (.inr (some (13, 0)))), some (.inl c_), some (.inl en_), some (.inl st_), none, some (.inl h_), some (.inl (h_ + 1)), some (.inl (h_ % 16)), some (.inl (h_ / 16))], [], S_)) rfl ?_
              refine sm_T_wk [some (.inr (.inr (some (13, 0)))), some (.inl c_), some (.inl en_), some (.inl st_), none, some (.inl h_), some (.inl (h_ + 1)), none, none] (by exact ⟨rfl, rfl, rfl, rfl, rfl, rfl, trivial⟩) ?_
              refine ih_.2.2.2.2 en_ st_ h_ (h_ + 1) S_ hI_ hF_ ⟨?_, ?_, ?_, ?_, trivial⟩ ?_
              · omega
              · exact ht_
              · exact hc9_
              · first | exact hb_ | (right; exact ⟨by omega, by omega, by omega, by omega⟩)
              · omega
            · have cx19_ : ¬ (b_ = (-1)) := of_decide_eq_false cx19_
              refine sm_T_go 6 (c1 := (246, [some (.inr (.inr (some (13, 0)))), some (.inl c_), some (.inl en_), some (.inl st_), none, some (.inl b_), some (.inl h_), some (.inl (h_ % 16)), some (.inl (h_ / 16))], [.inl h_, .inr (.inr (some (283, 0))), .inl (h_ / 16), .inl (h_ % 16), .inr (.inr (some (13, 0)))], S_)) rfl ?_
              refine sm_T_iald (n := 512) rfl rfl (by omega) (by omega) ?_
              refine sm_T_go 2 (c1 := (251, [some (.inr (.inr (some (13, 0)))), some (.inl c_), some (.inl en_), some (.inl st_), none, some (.inl b_), some (.inl h_), some (.inl (h_ % 16)), some (.inl (h_ / 16))], [.inl 16, .inl b_, .inl (S_.2.2.1 283 0 h_.toNat), .inl (h_ / 16), .inl (h_ % 16), .inr (.inr (some (13, 0)))], S_)) rfl ?_
              refine sm_T_bin (w := (b_ % 16)) rfl (bi_rem (by omega) (by omega) (by omega) (by omega)) ?_ -- pc_ 251
              refine sm_T_go 2 (c1 := (256, [some (.inr (.inr (some (13, 0)))), some (.inl c_), some (.inl en_), some (.inl st_), none, some (.inl b_), some (.inl h_), some (.inl (h_ % 16)), some (.inl (h_ / 16))], [.inl 16, .inl b_, .inl (b_ % 16), .inl (S_.2.2.1 283 0 h_.toNat), .inl (h_ / 16), .inl (h_ % 16), .inr (.inr (some (13, 0)))], S_)) rfl ?_
              refine sm_T_bin (w := (b_ / 16)) rfl (bi_div (by omega) (by omega) (by omega) (by omega)) ?_ -- pc_ 256
              refine sm_T_go 3 (c1 := (263, [some (.inr (.inr (some (13, 0)))), some (.inl c_), some (.inl en_), some (.inl st_), none, some (.inl b_), some (.inl h_), some (.inl (h_ % 16)), some (.inl (h_ / 16))], [.inl b_, .inr (.inr (some (283, 0))), .inl (b_ / 16), .inl (b_ % 16), .inl (S_.2.2.1 283 0 h_.toNat), .inl (h_ / 16), .inl (h_ % 16), .inr (.inr (some (13, 0)))], S_)) rfl ?_
              refine sm_T_iald (n := 512) rfl rfl (by omega) (by omega) ?_
              have bx20_ : 0 ≤ S_.2.2.1 283 0 b_.toNat ∧ S_.2.2.1 283 0 b_.toNat ≤ 40 := hI_.2 283 0 _
              refine sm_T_cal (d1 := 1) (Q1 := vq_504 (h_ % 16) (h_ / 16) (S_.2.2.1 283 0 h_.toNat) (b_ % 16) (b_ / 16) (S_.2.2.1 283 0 b_.toNat) (S0_.2.2.1 223 0 c_.toNat + S0_.2.2.1 224 0 c_.toNat + S0_.2.2.1 228 0 c_.toNat) (S0_.2.2.1 225 0 c_.toNat + S0_.2.2.1 224 0 c_.toNat) S_) rfl rfl (by decide) (vc_504 (h_ % 16) (h_ / 16) (S_.2.2.1 283 0 h_.toNat) (b_ % 16) (b_ / 16) (S_.2.2.1 283 0 b_.toNat) (S0_.2.2.1 223 0 c_.toNat + S0_.2.2.1 224 0 c_.toNat + S0_.2.2.1 228 0 c_.toNat) (S0_.2.2.1 225 0 c_.toNat + S0_.2.2.1 224 0 c_.toNat) S_ hI_ (by omega) (by omega) (by omega) (by omega) (by exact ht_)) (fun u_ Sx21_ px24_ => ?_)
              obtain ⟨rfl, vx26_, rfl, px24_⟩ := px24_
              refine sm_T_b0 (a := 0) (z := 7) rfl (fun cx27_ => ?_) (fun cx27_ => ?_)
              · have cx27_ : vx26_ = 0 := of_decide_eq_true cx27_
                refine sm_T_inc (a := 6) (z := 1) (v := h_) (w := h_ + 1) rfl rfl (by omega) (by omega) (by omega) ?_ -- pc_ 274
                refine sm_T_go 1 (c1 := (176, [some (.inr (.inr (some (13, 0)))), some (.inl c_), some (.inl en_), some (.inl st_), none, some (.inl b_), some (.inl (h_ + 1)), some (.inl (h_ % 16)), some (.inl (h_ / 16))], [], S_)) rfl ?_
                refine sm_T_wk [some (.inr (.inr (some (13, 0)))), some (.inl c_), some (.inl en_), some (.inl st_), none, some (.inl b_), some (.inl (h_ + 1)), none, none] (by exact ⟨rfl, rfl, rfl, rfl, rfl, rfl, trivial⟩) ?_
                refine ih_.2.2.2.2 en_ st_ b_ (h_ + 1) S_ hI_ hF_ ⟨?_, ?_, ?_, ?_, trivial⟩ ?_
                · omega
                · exact ht_
                · exact hc9_
                · first | exact hb_ | (right; exact ⟨by omega, by omega, by omega, by omega⟩)
                · omega
              · have cx27_ : ¬ (vx26_ = 0) := of_decide_eq_false cx27_
                refine sm_T_go 2 (c1 := (274, [some (.inr (.inr (some (13, 0)))), some (.inl c_), some (.inl en_), some (.inl st_), none, some (.inl h_), some (.inl h_), some (.inl (h_ % 16)), some (.inl (h_ / 16))], [], S_)) rfl ?_
                refine sm_T_inc (a := 6) (z := 1) (v := h_) (w := h_ + 1) rfl rfl (by omega) (by omega) (by omega) ?_ -- pc_ 274
                refine sm_T_go 1 (c1 := (176, [some (.inr (.inr (some (13, 0)))), some (.inl c_), some (.inl en_), some (.inl st_), none, some (.inl h_), some (.inl (h_ + 1)), some (.inl (h_ % 16)), some (.inl (h_ / 16))], [], S_)) rfl ?_
                refine sm_T_wk [some (.inr (.inr (some (13, 0)))), some (.inl c_), some (.inl en_), some (.inl st_), none, some (.inl h_), some (.inl (h_ + 1)), none, none] (by exact ⟨rfl, rfl, rfl, rfl, rfl, rfl, trivial⟩) ?_
                refine ih_.2.2.2.2 en_ st_ h_ (h_ + 1) S_ hI_ hF_ ⟨?_, ?_, ?_, ?_, trivial⟩ ?_
                · omega
                · exact ht_
                · exact hc9_
                · first | exact hb_ | (right; exact ⟨by omega, by omega, by omega, by omega⟩)
                · omega
set_option maxHeartbeats 6000000 in
set_option maxRecDepth 20000 in
theorem vc_505 {sc_ : Nat × (Nat → Int)} (c_ : Int) (S0_ : sm_S) (hI_ : gi S0_) (hc_ : 0 ≤ c_ ∧ c_ ≤ 3) (hx_ : S0_.2.2.1 223 0 c_.toNat + S0_.2.2.1 224 0 c_.toNat ≤ 12) (hg_ : cgt c_ S0_) (ho_ : con c_ S0_) : sm_T (mt_P sc_) 5 505 (0, [some (.inr (.inr (some (13, 0)))), some (.inl c_), none, none, none, none, none, none, none], [], S0_) (fun ro9_ => ∃ u_ S1_, ro9_ = (.inl u_, S1_, 0) ∧ vq_505 c_ S0_ u_ S1_) := by
  have hF_ : ai_fr (sx_W vw_505) S0_ S0_ := ai_fr_rf
  refine sm_T_go 2 (c1 := (2, [some (.inr (.inr (some (13, 0)))), some (.inl c_), none, none, none, none, none, none, none], [.inl c_, .inr (.inr (some (13, 0)))], S0_)) rfl ?_
  refine sm_T_cal (d1 := 4) (Q1 := vq_495 c_ S0_) rfl rfl (by decide) (vc_495 c_ S0_ hI_ (by exact hc_) (by exact hx_) (by exact hg_) (by exact ho_)) (fun u_ Sx1_ px4_ => ?_)
  obtain ⟨rfl, hIx2_, hFx3_, px4_⟩ := px4_
  have hFx5_ : ai_fr (sx_W vw_505) S0_ Sx1_ := ai_fr_tr hF_ (fr_le hFx3_ rfl)
  have y223_ : Sx1_.2.2.1 223 0 c_.toNat = S0_.2.2.1 223 0 c_.toNat := congrFun (fr_arr hFx3_ rfl) _
  have y224_ : Sx1_.2.2.1 224 0 c_.toNat = S0_.2.2.1 224 0 c_.toNat := congrFun (fr_arr hFx3_ rfl) _
  have y225_ : Sx1_.2.2.1 225 0 c_.toNat = S0_.2.2.1 225 0 c_.toNat := congrFun (fr_arr hFx3_ rfl) _
  refine sm_T_go 3 (c1 := (10, [some (.inr (.inr (some (13, 0)))), some (.inl c_), none, none, none, none, none, none, none], [.inl c_, .inr (.inr (some (225, 0)))], Sx1_)) rfl ?_
  refine sm_T_iald (n := 4) rfl rfl (by omega) (by omega) ?_
  have bx6_ : 0 ≤ Sx1_.2.2.1 225 0 c_.toNat ∧ Sx1_.2.2.1 225 0 c_.toNat ≤ 16 := hIx2_.2 225 0 _
  refine sm_T_go 3 (c1 := (16, [some (.inr (.inr (some (13, 0)))), some (.inl c_), none, none, none, none, none, none, none], [.inl c_, .inr (.inr (some (224, 0))), .inl (Sx1_.2.2.1 225 0 c_.toNat)], Sx1_)) rfl ?_
  refine sm_T_iald (n := 4) rfl rfl (by omega) (by omega) ?_
  have bx7_ : 0 ≤ Sx1_.2.2.1 224 0 c_.toNat ∧ Sx1_.2.2.1 224 0 c_.toNat ≤ 6 := hIx2_.2 224 0 _
  refine sm_T_bin (w := (Sx1_.2.2.1 225 0 c_.toNat) + (Sx1_.2.2.1 224 0 c_.toNat)) rfl (bi_add (by omega) (by omega) (by omega)) ?_ -- pc_ 17
  refine sm_T_go 4 (c1 := (24, [some (.inr (.inr (some (13, 0)))), some (.inl c_), some (.inl ((Sx1_.2.2.1 225 0 c_.toNat) + (Sx1_.2.2.1 224 0 c_.toNat))), none, none, none, none, none, none], [.inl c_, .inr (.inr (some (223, 0)))], Sx1_)) rfl ?_
  refine sm_T_iald (n := 4) rfl rfl (by omega) (by omega) ?_
  have bx8_ : 0 ≤ Sx1_.2.2.1 223 0 c_.toNat ∧ Sx1_.2.2.1 223 0 c_.toNat ≤ 12 := hIx2_.2 223 0 _
  refine sm_T_go 3 (c1 := (30, [some (.inr (.inr (some (13, 0)))), some (.inl c_), some (.inl ((Sx1_.2.2.1 225 0 c_.toNat) + (Sx1_.2.2.1 224 0 c_.toNat))), none, none, none, none, none, none], [.inl c_, .inr (.inr (some (224, 0))), .inl (Sx1_.2.2.1 223 0 c_.toNat)], Sx1_)) rfl ?_
  refine sm_T_iald (n := 4) rfl rfl (by omega) (by omega) ?_
  refine sm_T_bin (w := (Sx1_.2.2.1 223 0 c_.toNat) + (Sx1_.2.2.1 224 0 c_.toNat)) rfl (bi_add (by omega) (by omega) (by omega)) ?_ -- pc_ 31
  refine sm_T_go 3 (c1 := (36, [some (.inr (.inr (some (13, 0)))), some (.inl c_), some (.inl ((Sx1_.2.2.1 225 0 c_.toNat) + (Sx1_.2.2.1 224 0 c_.toNat))), some (.inl ((Sx1_.2.2.1 223 0 c_.toNat) + (Sx1_.2.2.1 224 0 c_.toNat))), some (.inl 0), none, none, none, none], [], Sx1_)) rfl ?_
  refine (vl_505 c_ S0_ hc_ hx_ hg_ ho_ _).1 ((Sx1_.2.2.1 225 0 c_.toNat) + (Sx1_.2.2.1 224 0 c_.toNat)) ((Sx1_.2.2.1 223 0 c_.toNat) + (Sx1_.2.2.1 224 0 c_.toNat)) 0 Sx1_ hIx2_ hFx5_ ⟨?_, ?_, trivial⟩ (Nat.lt_succ_self _)
  · (have q2_ : 0 ≤ S0_.2.2.1 224 0 c_.toNat := (hI_.2 224 0 _).1; have q3_ : 0 ≤ S0_.2.2.1 225 0 c_.toNat := (hI_.2 225 0 _).1; omega)
  · (intro e9_ n9_ u0_ u1_; exfalso; omega)
/-! M_.path -/
def vw_506 : sx_Wl := ([(13, 0), (13, 159), (13, 206)], [243, 244, 245, 246, 247, 248, 249, 250, 270, 275, 276, 277, 278, 279, 280, 281, 282, 283], [])
def vq_506 (a1_ : Int) (a2_ : Int) (a3_ : Int) (S0_ : sm_S) (u_ : Option sm_V) (S1_ : sm_S) : Prop := ∃ v_ : Int, u_ = some (.inl v_) ∧ gi S1_ ∧ ai_fr (sx_W vw_506) S0_ S1_ ∧ ((-2147483648 ≤ v_ ∧ v_ ≤ 2147483647) ∧ jR S1_)
set_option maxHeartbeats 1000000 in
set_option maxRecDepth 20000 in
theorem vl_506 {sc_ : Nat × (Nat → Int)} (a1_ : Int) (a2_ : Int) (a3_ : Int) (S0_ : sm_S) (ha1_ : (-2147483648) ≤ a1_ ∧ a1_ ≤ 2147483647) (ha2_ : (-2147483648) ≤ a2_ ∧ a2_ ≤ 2147483647) (ha3_ : (-2147483648) ≤ a3_ ∧ a3_ ≤ 2147483647) (hJ_ : jR S0_) : ∀ nn_ : Nat, (∀ (e_ : Int) (net_ : Int) (i_ : Int) (n_ : Int) (S_ : sm_S), gi S_ → ai_fr (sx_W vw_506) S0_ S_ → ((0 ≤ e_ ∧ e_ < (S0_.2.2.1 225 0 a1_.toNat + S0_.2.2.1 224 0 a1_.toNat) ∧ 0 ≤ n_ ∧ n_ ≤ net_ ∧ (S0_.2.2.1 223 0 a1_.toNat + S0_.2.2.1 224 0 a1_.toNat + S0_.2.2.1 228 0 a1_.toNat) ≤ 168 ∧ (S0_.2.2.1 225 0 a1_.toNat + S0_.2.2.1 224 0 a1_.toNat) ≤ 22 ∧ net_ ≤ 10200) ∧ (tal (S0_.2.2.1 223 0 a1_.toNat + S0_.2.2.1 224 0 a1_.toNat + S0_.2.2.1 228 0 a1_.toNat) (S0_.2.2.1 225 0 a1_.toNat + S0_.2.2.1 224 0 a1_.toNat) S_) ∧ (pst (S0_.2.2.1 223 0 a1_.toNat + S0_.2.2.1 224 0 a1_.toNat + S0_.2.2.1 228 0 a1_.toNat) S_ e_ net_ i_) ∧ True) → ((30000 - net_).toNat) < nn_ → sm_T (mt_P sc_) 6 506 (117, [some (.inr (.inr (some (13, 0)))), some (.inl a1_), some (.inl a2_), some (.inl a3_), some (.inl e_), some (.inl net_), some (.inl i_), some (.inl n_), none], [], S_) (fun ro9_ => ∃ u_ S1_, ro9_ = (.inl u_, S1_, 0) ∧ vq_506 a1_ a2_ a3_ S0_ u_ S1_)) := by
  intro nn_
  induction nn_ with
  | zero => exact fun _ _ _ _ _ _ _ _ h_ => absurd h_ (Nat.not_lt_zero _)
  | succ nn_ ih_ =>
    rintro e_ net_ i_ n_ S_ hI_ hF_ ⟨h0_, ht_, hp_, -⟩ hm_
    have p1_ := hp_.1
    have p2_ := hp_.2
    have c1_ : 0 ≤ S_.2.2.1 275 0 (256 * e_ + net_).toNat ∧ S_.2.2.1 275 0 (256 * e_ + net_).toNat ≤ 40 := hI_.2 275 0 _
    refine sm_T_go 2 (c1 := (122, [some (.inr (.inr (some (13, 0)))), some (.inl a1_), some (.inl a2_), some (.inl a3_), some (.inl e_), some (.inl net_), some (.inl i_), some (.inl n_), none], [.inl 10000, .inl net_], S_)) rfl ?_
    refine sm_T_br (a := 3) (z := 50) rfl (fun cx1_ => ?_) (fun cx1_ => ?_)
    · have cx1_ : 10000 ≤ net_ := of_decide_eq_true cx1_
      refine sm_T_go 2 (c1 := (175, [some (.inr (.inr (some (13, 0)))), some (.inl a1_), some (.inl a2_), some (.inl a3_), some (.inl e_), some (.inl net_), some (.inl i_), some (.inl n_), none], [.inl (-3), .inl a3_], S_)) rfl ?_
      refine sm_T_br (a := 1) (z := 8) rfl (fun cx2_ => ?_) (fun cx2_ => ?_)
      · have cx2_ : a3_ ≠ (-3) := of_decide_eq_true cx2_
        refine sm_T_go 2 (c1 := (188, [some (.inr (.inr (some (13, 0)))), some (.inl a1_), some (.inl a2_), some (.inl a3_), some (.inl e_), some (.inl net_), some (.inl i_), some (.inl n_), none], [.inl 10000, .inl net_], S_)) rfl ?_
        refine sm_T_br (a := 3) (z := 8) rfl (fun cx3_ => ?_) (fun cx3_ => ?_)
        · have cx3_ : 10000 ≤ net_ := of_decide_eq_true cx3_
          refine sm_T_go 1 (c1 := (197, [some (.inr (.inr (some (13, 0)))), some (.inl a1_), some (.inl a2_), some (.inl a3_), some (.inl e_), some (.inl net_), some (.inl i_), some (.inl n_), none], [.inl (-1)], S_)) rfl ?_
          refine sm_T_ri rfl ⟨_, _, rfl, _, rfl, hI_, hF_, ?_⟩
          exact ⟨⟨by omega, by omega⟩, jR_fr hJ_ hI_ hF_⟩
        · have cx3_ : ¬ (10000 ≤ net_) := of_decide_eq_false cx3_
          exfalso; omega
      · have cx2_ : ¬ (a3_ ≠ (-3)) := of_decide_eq_false cx2_
        refine sm_T_go 2 (c1 := (197, [some (.inr (.inr (some (13, 0)))), some (.inl a1_), some (.inl a2_), some (.inl a3_), some (.inl e_), some (.inl net_), some (.inl i_), some (.inl n_), none], [.inl n_], S_)) rfl ?_
        refine sm_T_ri rfl ⟨_, _, rfl, _, rfl, hI_, hF_, ?_⟩
        exact ⟨⟨by omega, by omega⟩, jR_fr hJ_ hI_ hF_⟩
    · have cx1_ : ¬ (10000 ≤ net_) := of_decide_eq_false cx1_
      refine sm_T_go 2 (c1 := (128, [some (.inr (.inr (some (13, 0)))), some (.inl a1_), some (.inl a2_), some (.inl a3_), some (.inl e_), some (.inl net_), some (.inl i_), some (.inl n_), none], [.inl a3_, .inl n_], S_)) rfl ?_
      refine sm_T_br (a := 0) (z := 44) rfl (fun cx4_ => ?_) (fun cx4_ => ?_)
      · have cx4_ : n_ = a3_ := of_decide_eq_true cx4_
        refine sm_T_go 2 (c1 := (175, [some (.inr (.inr (some (13, 0)))), some (.inl a1_), some (.inl a2_), some (.inl a3_), some (.inl e_), some (.inl net_), some (.inl i_), some (.inl n_), none], [.inl (-3), .inl a3_], S_)) rfl ?_
        refine sm_T_br (a := 1) (z := 8) rfl (fun cx5_ => ?_) (fun cx5_ => ?_)
        · have cx5_ : a3_ ≠ (-3) := of_decide_eq_true cx5_
          refine sm_T_go 2 (c1 := (188, [some (.inr (.inr (some (13, 0)))), some (.inl a1_), some (.inl a2_), some (.inl a3_), some (.inl e_), some (.inl net_), some (.inl i_), some (.inl n_), none], [.inl 10000, .inl net_], S_)) rfl ?_
          refine sm_T_br (a := 3) (z := 8) rfl (fun cx6_ => ?_) (fun cx6_ => ?_)
          · have cx6_ : 10000 ≤ net_ := of_decide_eq_true cx6_
            exfalso; omega
          · have cx6_ : ¬ (10000 ≤ net_) := of_decide_eq_false cx6_
            refine sm_T_go 2 (c1 := (197, [some (.inr (.inr (some (13, 0)))), some (.inl a1_), some (.inl a2_), some (.inl a3_), some (.inl e_), some (.inl net_), some (.inl i_), some (.inl n_), none], [.inl net_], S_)) rfl ?_
            refine sm_T_ri rfl ⟨_, _, rfl, _, rfl, hI_, hF_, ?_⟩
            exact ⟨⟨by omega, by omega⟩, jR_fr hJ_ hI_ hF_⟩
        · have cx5_ : ¬ (a3_ ≠ (-3)) := of_decide_eq_false cx5_
          refine sm_T_go 2 (c1 := (197, [some (.inr (.inr (some (13, 0)))), some (.inl a1_), some (.inl a2_), some (.inl a3_), some (.inl e_), some (.inl net_), some (.inl i_), some (.inl n_), none], [.inl n_], S_)) rfl ?_
          refine sm_T_ri rfl ⟨_, _, rfl, _, rfl, hI_, hF_, ?_⟩
          exact ⟨⟨by omega, by omega⟩, jR_fr hJ_ hI_ hF_⟩
      · have cx4_ : ¬ (n_ = a3_) := of_decide_eq_false cx4_
        have A9_ := pst_s hI_ ht_ ⟨by omega, by omega⟩ hp_ (by omega)
        have a8_ := A9_.2
        have c3_ : 0 ≤ S_.2.2.1 277 0 (10240 * e_ + 40 * net_ + i_).toNat ∧ S_.2.2.1 277 0 (10240 * e_ + 40 * net_ + i_).toNat ≤ 10200 := hI_.2 277 0 _
        refine sm_T_go 3 (c1 := (138, [some (.inr (.inr (some (13, 0)))), some (.inl a1_), some (.inl a2_), some (.inl a3_), some (.inl e_), some (.inl net_), some (.inl i_), some (.inl n_), none], [.inl e_, .inl 256, .inl 40], S_)) rfl ?_
        refine sm_T_bin (w := 256 * e_) rfl (bi_mul (by omega) (by omega) (by omega)) ?_ -- pc_ 138
        refine sm_T_go 1 (c1 := (141, [some (.inr (.inr (some (13, 0)))), some (.inl a1_), some (.inl a2_), some (.inl a3_), some (.inl e_), some (.inl net_), some (.inl i_), some (.inl n_), none], [.inl net_, .inl (256 * e_), .inl 40], S_)) rfl ?_
        refine sm_T_bin (w := 256 * e_ + net_) rfl (bi_add (by omega) (by omega) (by omega)) ?_ -- pc_ 141
        refine sm_T_bin (w := 10240 * e_ + 40 * net_) rfl (bi_mul (by omega) (by omega) (by omega)) ?_ -- pc_ 142
        refine sm_T_go 1 (c1 := (145, [some (.inr (.inr (some (13, 0)))), some (.inl a1_), some (.inl a2_), some (.inl a3_), some (.inl e_), some (.inl net_), some (.inl i_), some (.inl n_), none], [.inl i_, .inl (10240 * e_ + 40 * net_)], S_)) rfl ?_
        refine sm_T_bin (w := 10240 * e_ + 40 * net_ + i_) rfl (bi_add (by omega) (by omega) (by omega)) ?_ -- pc_ 145
        refine sm_T_go 4 (c1 := (154, [some (.inr (.inr (some (13, 0)))), some (.inl a1_), some (.inl a2_), some (.inl a3_), some (.inl e_), some (.inl net_), some (.inl i_), some (.inl n_), some (.inl (10240 * e_ + 40 * net_ + i_))], [.inl (10240 * e_ + 40 * net_ + i_), .inr (.inr (some (277, 0)))], S_)) rfl ?_
        refine sm_T_iald (n := 225280) rfl rfl (by omega) (by omega) ?_
        have bx7_ : 0 ≤ S_.2.2.1 277 0 (10240 * e_ + 40 * net_ + i_).toNat ∧ S_.2.2.1 277 0 (10240 * e_ + 40 * net_ + i_).toNat ≤ 10200 := hI_.2 277 0 _
        refine sm_T_go 4 (c1 := (163, [some (.inr (.inr (some (13, 0)))), some (.inl a1_), some (.inl a2_), some (.inl a3_), some (.inl e_), some (.inl (S_.2.2.1 277 0 (10240 * e_ + 40 * net_ + i_).toNat)), some (.inl i_), some (.inl n_), some (.inl (10240 * e_ + 40 * net_ + i_))], [.inl (10240 * e_ + 40 * net_ + i_), .inr (.inr (some (278, 0)))], S_)) rfl ?_
        refine sm_T_iald (n := 225280) rfl rfl (by omega) (by omega) ?_
        have bx8_ : 0 ≤ S_.2.2.1 278 0 (10240 * e_ + 40 * net_ + i_).toNat ∧ S_.2.2.1 278 0 (10240 * e_ + 40 * net_ + i_).toNat ≤ 39 := hI_.2 278 0 _
        refine sm_T_go 1 (c1 := (166, [some (.inr (.inr (some (13, 0)))), some (.inl a1_), some (.inl a2_), some (.inl a3_), some (.inl e_), some (.inl (S_.2.2.1 277 0 (10240 * e_ + 40 * net_ + i_).toNat)), some (.inl (S_.2.2.1 278 0 (10240 * e_ + 40 * net_ + i_).toNat)), some (.inl n_), some (.inl (10240 * e_ + 40 * net_ + i_))], [], S_)) rfl ?_
        refine sm_T_inc (a := 7) (z := 1) (v := n_) (w := n_ + 1) rfl rfl (by omega) (by omega) (by omega) ?_ -- pc_ 166
        refine sm_T_go 1 (c1 := (117, [some (.inr (.inr (some (13, 0)))), some (.inl a1_), some (.inl a2_), some (.inl a3_), some (.inl e_), some (.inl (S_.2.2.1 277 0 (10240 * e_ + 40 * net_ + i_).toNat)), some (.inl (S_.2.2.1 278 0 (10240 * e_ + 40 * net_ + i_).toNat)), some (.inl (n_ + 1)), some (.inl (10240 * e_ + 40 * net_ + i_))], [], S_)) rfl ?_
        refine sm_T_wk [some (.inr (.inr (some (13, 0)))), some (.inl a1_), some (.inl a2_), some (.inl a3_), some (.inl e_), some (.inl (S_.2.2.1 277 0 (10240 * e_ + 40 * net_ + i_).toNat)), some (.inl (S_.2.2.1 278 0 (10240 * e_ + 40 * net_ + i_).toNat)), some (.inl (n_ + 1)), none] (by exact ⟨rfl, rfl, rfl, rfl, rfl, rfl, rfl, rfl, trivial⟩) ?_
        refine ih_ e_ (S_.2.2.1 277 0 (10240 * e_ + 40 * net_ + i_).toNat) (S_.2.2.1 278 0 (10240 * e_ + 40 * net_ + i_).toNat) (n_ + 1) S_ hI_ hF_ ⟨?_, ?_, ?_, trivial⟩ ?_
        · omega
        · exact ht_
        · exact A9_.1
        · omega
set_option maxHeartbeats 1000000 in
set_option maxRecDepth 20000 in
theorem vc_506 {sc_ : Nat × (Nat → Int)} (a1_ : Int) (a2_ : Int) (a3_ : Int) (S0_ : sm_S) (hI_ : gi S0_) (ha1_ : (-2147483648) ≤ a1_ ∧ a1_ ≤ 2147483647) (ha2_ : (-2147483648) ≤ a2_ ∧ a2_ ≤ 2147483647) (ha3_ : (-2147483648) ≤ a3_ ∧ a3_ ≤ 2147483647) (hJ_ : jR S0_) : sm_T (mt_P sc_) 6 506 (0, [some (.inr (.inr (some (13, 0)))), some (.inl a1_), some (.inl a2_), some (.inl a3_), none, none, none, none, none], [], S0_) (fun ro9_ => ∃ u_ S1_, ro9_ = (.inl u_, S1_, 0) ∧ vq_506 a1_ a2_ a3_ S0_ u_ S1_) := by
  have hF_ : ai_fr (sx_W vw_506) S0_ S0_ := ai_fr_rf
  refine sm_T_go 3 (c1 := (3, [some (.inr (.inr (some (13, 0)))), some (.inl a1_), some (.inl a2_), some (.inl a3_), none, none, none, none, none], [.inl a1_, .inr (.inr (some (13, 0))), .inr (.inr (some (13, 0)))], S0_)) rfl ?_
  refine sm_T_cal (d1 := 0) (Q1 := vq_371 a1_ S0_) rfl rfl (by decide) (vc_371 a1_ S0_ hI_ (by omega)) (fun u_ Sx1_ px4_ => ?_)
  obtain ⟨rfl, vx6_, rfl, px4_⟩ := px4_
  have d3_ := px4_
  refine sm_T_b0 (a := 0) (z := 19) rfl (fun cx7_ => ?_) (fun cx7_ => ?_)
  · have cx7_ : vx6_ = 0 := of_decide_eq_true cx7_
    have hIx8_ : gi (sm_pI S0_ 13 0 0 1) := gi_pI hI_ (show 0 ≤ 1 ∧ 1 ≤ 4 from ⟨by omega, by omega⟩)
    have hFx9_ : ai_fr (sx_W vw_506) S0_ (sm_pI S0_ 13 0 0 1) := ai_fr_tr hF_ (ai_fr_pI rfl)
    refine sm_T_go 7 (c1 := (41, [some (.inr (.inr (some (13, 0)))), some (.inl a1_), some (.inl a2_), some (.inl a3_), none, none, none, none, none], [.inl 0], sm_pI S0_ 13 0 0 1)) rfl ?_
    refine sm_T_ri rfl ⟨_, _, rfl, _, rfl, hIx8_, hFx9_, ?_⟩
    exact ⟨⟨by omega, by omega⟩, jR_fr hJ_ hIx8_ hFx9_⟩
  · have cx7_ : ¬ (vx6_ = 0) := of_decide_eq_false cx7_
    refine sm_T_go 3 (c1 := (13, [some (.inr (.inr (some (13, 0)))), some (.inl a1_), some (.inl a2_), some (.inl a3_), none, none, none, none, none], [.inl 39, .inl 0, .inl a2_, .inr (.inr (some (13, 0)))], S0_)) rfl ?_
    refine sm_T_cal (d1 := 0) (Q1 := vq_278 a2_ 0 39 S0_) rfl rfl (by decide) (vc_278 a2_ 0 39 S0_ hI_ ) (fun u_ Sx10_ px13_ => ?_)
    obtain ⟨rfl, vx15_, rfl, px13_⟩ := px13_
    have e13_ := px13_
    refine sm_T_b0 (a := 0) (z := 9) rfl (fun cx16_ => ?_) (fun cx16_ => ?_)
    · have cx16_ : vx15_ = 0 := of_decide_eq_true cx16_
      have hIx17_ : gi (sm_pI S0_ 13 0 0 1) := gi_pI hI_ (show 0 ≤ 1 ∧ 1 ≤ 4 from ⟨by omega, by omega⟩)
      have hFx18_ : ai_fr (sx_W vw_506) S0_ (sm_pI S0_ 13 0 0 1) := ai_fr_tr hF_ (ai_fr_pI rfl)
      refine sm_T_go 7 (c1 := (41, [some (.inr (.inr (some (13, 0)))), some (.inl a1_), some (.inl a2_), some (.inl a3_), none, none, none, none, none], [.inl 0], sm_pI S0_ 13 0 0 1)) rfl ?_
      refine sm_T_ri rfl ⟨_, _, rfl, _, rfl, hIx17_, hFx18_, ?_⟩
      exact ⟨⟨by omega, by omega⟩, jR_fr hJ_ hIx17_ hFx18_⟩
    · have cx16_ : ¬ (vx15_ = 0) := of_decide_eq_false cx16_
      refine sm_T_go 2 (c1 := (22, [some (.inr (.inr (some (13, 0)))), some (.inl a1_), some (.inl a2_), some (.inl a3_), none, none, none, none, none], [.inl (-3), .inl a3_, .inr (.inr (some (13, 0)))], S0_)) rfl ?_
      refine sm_T_br (a := 3) (z := 7) rfl (fun cx19_ => ?_) (fun cx19_ => ?_)
      · have cx19_ : (-3) ≤ a3_ := of_decide_eq_true cx19_
        have K9_ : cRk a1_ S0_ := hJ_.2 a1_ (by omega) (by omega) (by omega)
        obtain ⟨K1_, K2_, K3_, K4_, K5_, K6_, K7_⟩ := K9_
        have q1_ : 0 ≤ S0_.2.2.1 223 0 a1_.toNat ∧ S0_.2.2.1 223 0 a1_.toNat ≤ 12 := hI_.2 223 0 _
        have q2_ : 0 ≤ S0_.2.2.1 224 0 a1_.toNat ∧ S0_.2.2.1 224 0 a1_.toNat ≤ 6 := hI_.2 224 0 _
        have q3_ : 0 ≤ S0_.2.2.1 228 0 a1_.toNat ∧ S0_.2.2.1 228 0 a1_.toNat ≤ 150 := hI_.2 228 0 _
        have q4_ : 0 ≤ S0_.2.2.1 225 0 a1_.toNat ∧ S0_.2.2.1 225 0 a1_.toNat ≤ 16 := hI_.2 225 0 _
        have hIx20_ : gi (sm_pI S0_ 13 0 0 0) := gi_pI hI_ (show 0 ≤ 0 ∧ 0 ≤ 4 from ⟨by omega, by omega⟩)
        have hFx21_ : ai_fr (sx_W vw_506) S0_ (sm_pI S0_ 13 0 0 0) := ai_fr_tr hF_ (ai_fr_pI rfl)
        refine sm_T_go 7 (c1 := (44, [some (.inr (.inr (some (13, 0)))), some (.inl a1_), some (.inl a2_), some (.inl a3_), none, none, none, none, none], [.inl a1_, .inr (.inr (some (13, 0)))], sm_pI S0_ 13 0 0 0)) rfl ?_
        refine sm_T_cal (d1 := 5) (Q1 := vq_505 a1_ (sm_pI S0_ 13 0 0 0)) rfl rfl (by decide) (vc_505 a1_ (sm_pI S0_ 13 0 0 0) hIx20_ (by omega) (by exact K1_) (by exact K4_) (by exact K5_)) (fun u_ Sx22_ px25_ => ?_)
        obtain ⟨rfl, hIx23_, hFx24_, px25_⟩ := px25_
        have hFx26_ : ai_fr (sx_W vw_506) S0_ Sx22_ := ai_fr_tr hFx21_ (fr_le hFx24_ rfl)
        have e44_ : tal (S0_.2.2.1 223 0 a1_.toNat + S0_.2.2.1 224 0 a1_.toNat + S0_.2.2.1 228 0 a1_.toNat) (S0_.2.2.1 225 0 a1_.toNat + S0_.2.2.1 224 0 a1_.toNat) Sx22_ ∧ cho (S0_.2.2.1 223 0 a1_.toNat + S0_.2.2.1 224 0 a1_.toNat + S0_.2.2.1 228 0 a1_.toNat) (S0_.2.2.1 225 0 a1_.toNat + S0_.2.2.1 224 0 a1_.toNat) Sx22_ := px25_
        have bx27_ : 0 ≤ Sx22_.1 13 0 206 ∧ Sx22_.1 13 0 206 ≤ 40 := hIx23_.1 13 0 206 rfl
        refine sm_T_go 3 (c1 := (52, [some (.inr (.inr (some (13, 0)))), some (.inl a1_), some (.inl a2_), some (.inl a3_), none, none, none, none, none], [.inl (Sx22_.1 13 0 206), .inl a2_], Sx22_)) rfl ?_
        refine sm_T_br (a := 2) (z := 5) rfl (fun cx28_ => ?_) (fun cx28_ => ?_)
        · have cx28_ : a2_ < (Sx22_.1 13 0 206) := of_decide_eq_true cx28_
          have c9_ := e44_.2 a2_ (by omega) (by omega)
          have c8_ := c9_.2.1
          have c7_ := c9_.2.2
          refine sm_T_go 3 (c1 := (62, [some (.inr (.inr (some (13, 0)))), some (.inl a1_), some (.inl a2_), some (.inl a3_), none, none, none, none, none], [.inl a2_, .inr (.inr (some (281, 0)))], Sx22_)) rfl ?_
          refine sm_T_iald (n := 40) rfl rfl (by omega) (by omega) ?_
          have bx29_ : 0 ≤ Sx22_.2.2.1 281 0 a2_.toNat ∧ Sx22_.2.2.1 281 0 a2_.toNat ≤ 21 := hIx23_.2 281 0 _
          refine sm_T_go 3 (c1 := (67, [some (.inr (.inr (some (13, 0)))), some (.inl a1_), some (.inl a2_), some (.inl a3_), some (.inl (Sx22_.2.2.1 281 0 a2_.toNat)), none, none, none, none], [.inl (-1), .inl a3_], Sx22_)) rfl ?_
          refine sm_T_br (a := 1) (z := 22) rfl (fun cx30_ => ?_) (fun cx30_ => ?_)
          · have cx30_ : a3_ ≠ (-1) := of_decide_eq_true cx30_
            refine sm_T_go 2 (c1 := (92, [some (.inr (.inr (some (13, 0)))), some (.inl a1_), some (.inl a2_), some (.inl a3_), some (.inl (Sx22_.2.2.1 281 0 a2_.toNat)), none, none, none, none], [.inl (-2), .inl a3_], Sx22_)) rfl ?_
            refine sm_T_br (a := 1) (z := 6) rfl (fun cx31_ => ?_) (fun cx31_ => ?_)
            · have cx31_ : a3_ ≠ (-2) := of_decide_eq_true cx31_
              refine sm_T_go 3 (c1 := (103, [some (.inr (.inr (some (13, 0)))), some (.inl a1_), some (.inl a2_), some (.inl a3_), some (.inl (Sx22_.2.2.1 281 0 a2_.toNat)), none, none, none, none], [.inl a2_, .inr (.inr (some (280, 0)))], Sx22_)) rfl ?_
              refine sm_T_iald (n := 40) rfl rfl (by omega) (by omega) ?_
              have bx32_ : 0 ≤ Sx22_.2.2.1 280 0 a2_.toNat ∧ Sx22_.2.2.1 280 0 a2_.toNat ≤ 15 := hIx23_.2 280 0 _
              refine sm_T_go 4 (c1 := (111, [some (.inr (.inr (some (13, 0)))), some (.inl a1_), some (.inl a2_), some (.inl a3_), some (.inl (Sx22_.2.2.1 281 0 a2_.toNat)), some (.inl (Sx22_.2.2.1 280 0 a2_.toNat)), none, none, none], [.inl a2_, .inr (.inr (some (282, 0)))], Sx22_)) rfl ?_
              refine sm_T_iald (n := 40) rfl rfl (by omega) (by omega) ?_
              have bx33_ : 0 ≤ Sx22_.2.2.1 282 0 a2_.toNat ∧ Sx22_.2.2.1 282 0 a2_.toNat ≤ 39 := hIx23_.2 282 0 _
              refine sm_T_go 3 (c1 := (117, [some (.inr (.inr (some (13, 0)))), some (.inl a1_), some (.inl a2_), some (.inl a3_), some (.inl (Sx22_.2.2.1 281 0 a2_.toNat)), some (.inl (Sx22_.2.2.1 280 0 a2_.toNat)), some (.inl (Sx22_.2.2.1 282 0 a2_.toNat)), some (.inl 0), none], [], Sx22_)) rfl ?_
              refine (vl_506 a1_ a2_ a3_ S0_ ha1_ ha2_ ha3_ hJ_ _) (Sx22_.2.2.1 281 0 a2_.toNat) (Sx22_.2.2.1 280 0 a2_.toNat) (Sx22_.2.2.1 282 0 a2_.toNat) 0 Sx22_ hIx23_ hFx26_ ⟨?_, ?_, ?_, trivial⟩ (Nat.lt_succ_self _)
              · omega
              · exact e44_.1
              · exact c9_.2
            · have cx31_ : ¬ (a3_ ≠ (-2)) := of_decide_eq_false cx31_
              refine sm_T_go 1 (c1 := (97, [some (.inr (.inr (some (13, 0)))), some (.inl a1_), some (.inl a2_), some (.inl a3_), some (.inl (Sx22_.2.2.1 281 0 a2_.toNat)), none, none, none, none], [.inl (Sx22_.2.2.1 281 0 a2_.toNat)], Sx22_)) rfl ?_
              refine sm_T_ri rfl ⟨_, _, rfl, _, rfl, hIx23_, hFx26_, ?_⟩
              exact ⟨⟨by omega, by omega⟩, jR_fr hJ_ hIx23_ hFx26_⟩
          · have cx30_ : ¬ (a3_ ≠ (-1)) := of_decide_eq_false cx30_
            refine sm_T_go 4 (c1 := (76, [some (.inr (.inr (some (13, 0)))), some (.inl a1_), some (.inl a2_), some (.inl a3_), some (.inl (Sx22_.2.2.1 281 0 a2_.toNat)), none, none, none, none], [.inl a2_, .inr (.inr (some (280, 0))), .inr (.inr (some (13, 0)))], Sx22_)) rfl ?_
            refine sm_T_iald (n := 40) rfl rfl (by omega) (by omega) ?_
            have bx34_ : 0 ≤ Sx22_.2.2.1 280 0 a2_.toNat ∧ Sx22_.2.2.1 280 0 a2_.toNat ≤ 15 := hIx23_.2 280 0 _
            refine sm_T_go 4 (c1 := (84, [some (.inr (.inr (some (13, 0)))), some (.inl a1_), some (.inl a2_), some (.inl a3_), some (.inl (Sx22_.2.2.1 281 0 a2_.toNat)), none, none, none, none], [.inl a2_, .inr (.inr (some (282, 0))), .inl (Sx22_.2.2.1 281 0 a2_.toNat), .inl (Sx22_.2.2.1 280 0 a2_.toNat), .inr (.inr (some (13, 0)))], Sx22_)) rfl ?_
            refine sm_T_iald (n := 40) rfl rfl (by omega) (by omega) ?_
            have bx35_ : 0 ≤ Sx22_.2.2.1 282 0 a2_.toNat ∧ Sx22_.2.2.1 282 0 a2_.toNat ≤ 39 := hIx23_.2 282 0 _
            refine sm_T_cal (d1 := 0) (Q1 := vq_503 (Sx22_.2.2.1 280 0 a2_.toNat) (Sx22_.2.2.1 281 0 a2_.toNat) (Sx22_.2.2.1 282 0 a2_.toNat) Sx22_) rfl rfl (by decide) (vc_503 (Sx22_.2.2.1 280 0 a2_.toNat) (Sx22_.2.2.1 281 0 a2_.toNat) (Sx22_.2.2.1 282 0 a2_.toNat) Sx22_ hIx23_ (by omega) (by omega) (by omega)) (fun u_ Sx36_ px39_ => ?_)
            obtain ⟨rfl, vx41_, rfl, px39_⟩ := px39_
            refine sm_T_ri rfl ⟨_, _, rfl, _, rfl, hIx23_, hFx26_, ?_⟩
            exact ⟨⟨by omega, by omega⟩, jR_fr hJ_ hIx23_ hFx26_⟩
        · have cx28_ : ¬ (a2_ < (Sx22_.1 13 0 206)) := of_decide_eq_false cx28_
          refine sm_T_go 1 (c1 := (56, [some (.inr (.inr (some (13, 0)))), some (.inl a1_), some (.inl a2_), some (.inl a3_), none, none, none, none, none], [.inl (-1)], Sx22_)) rfl ?_
          refine sm_T_ri rfl ⟨_, _, rfl, _, rfl, hIx23_, hFx26_, ?_⟩
          exact ⟨⟨by omega, by omega⟩, jR_fr hJ_ hIx23_ hFx26_⟩
      · have cx19_ : ¬ ((-3) ≤ a3_) := of_decide_eq_false cx19_
        have hIx42_ : gi (sm_pI S0_ 13 0 0 1) := gi_pI hI_ (show 0 ≤ 1 ∧ 1 ≤ 4 from ⟨by omega, by omega⟩)
        have hFx43_ : ai_fr (sx_W vw_506) S0_ (sm_pI S0_ 13 0 0 1) := ai_fr_tr hF_ (ai_fr_pI rfl)
        refine sm_T_go 7 (c1 := (41, [some (.inr (.inr (some (13, 0)))), some (.inl a1_), some (.inl a2_), some (.inl a3_), none, none, none, none, none], [.inl 0], sm_pI S0_ 13 0 0 1)) rfl ?_
        refine sm_T_ri rfl ⟨_, _, rfl, _, rfl, hIx42_, hFx43_, ?_⟩
        exact ⟨⟨by omega, by omega⟩, jR_fr hJ_ hIx42_ hFx43_⟩
end
