/-! 99.zs7 -/
section
/-! the reference: ways; written by wip/p55/gen/vg -/

/-! the_ reference: ways of_ making a_ literal -/
theorem l_0_s {x_ y_ : Int} (hx_ : -1000000000000 ≤ x_ ∧ x_ ≤ 1000000000000) (hy_ : -2147483648 ≤ y_ ∧ y_ ≤ 2147483647) : l_0 x_ (l_i2l y_) = x_ + y_ := by
  rw [l_i2l_s hy_.1 hy_.2]
  unfold l_0
  rw [Int64.toInt_add, Int64.toInt_ofInt_of_le (by omega) (by omega), Int64.toInt_ofInt_of_le (by omega) (by omega)]
  exact Int.bmod_eq_of_le (by omega) (by omega)
theorem l2i_s {x_ : Int} (h_ : -2147483648 ≤ x_ ∧ x_ ≤ 2147483647) : l_l2i x_ = x_ := by
  unfold l_l2i
  rw [Int64.toInt_toInt32, Int64.toInt_ofInt_of_le (by omega) (by omega)]
  exact Int.bmod_eq_of_le (by omega) (by omega)
theorem lcmp_lt {x_ y_ : Int} : sm_lcmp x_ y_ < 0 ↔ x_ < y_ := by
  unfold sm_lcmp
  split
  · rename_i h_
    exact ⟨fun z_ => absurd z_ (by decide), fun z_ => by omega⟩
  · split
    · rename_i h_
      exact ⟨fun z_ => absurd z_ (by decide), fun z_ => by omega⟩
    · exact ⟨fun _ => by omega, fun _ => by decide⟩
theorem iat_b {sz_ o_ k_ : Int} (hs_ : 1 ≤ sz_ ∧ sz_ ≤ 3) (ho_ : 0 ≤ o_ ∧ o_ ≤ 5) (hk_ : 0 ≤ k_ ∧ k_ < sz_) : 0 ≤ iat sz_ o_ k_ ∧ iat sz_ o_ k_ < sz_ := by
  unfold iat
  split
  · split <;> omega
  · split
    · omega
    · split
      · split <;> omega
      · split <;> omega
def inp (F_ n_ : Int) (S_ : sm_S) (x_ t_ : Int) : Prop := cnd9 n_ (S_.2.2.1 202 0) x_ ∧ cst F_ S_ x_ t_ < 1000000000
/-- the_ way_ of_ a_ literal can_ be_ gone -/
def wyc (F_ n_ : Int) (S_ : sm_S) (w_ : Int) : Prop := imq (S_.2.2.1 206 0 w_.toNat < 1000000000) (0 ≤ S_.2.2.1 207 0 w_.toNat ∧ 1 ≤ S_.2.2.1 185 0 (12 * S_.1 13 0 106 + S_.2.2.1 207 0 w_.toNat).toNat ∧ ∀ k_ : Int, 0 ≤ k_ → k_ < S_.2.2.1 185 0 (12 * S_.1 13 0 106 + S_.2.2.1 207 0 w_.toNat).toNat → inp F_ n_ S_ (S_.2.2.1 208 0 (3 * w_ + k_).toNat) (i_shr (S_.2.2.1 209 0 w_.toNat) k_ % 2))
/-- only the_ way_ of_ one_ literal changes -/
def wfr (w_ : Int) (S_ S'_ : sm_S) : Prop := (∀ j_, j_ ≠ w_.toNat → S'_.2.2.1 206 0 j_ = S_.2.2.1 206 0 j_ ∧ S'_.2.2.1 207 0 j_ = S_.2.2.1 207 0 j_ ∧ S'_.2.2.1 209 0 j_ = S_.2.2.1 209 0 j_) ∧ ∀ j_, (j_ < 3 * w_.toNat ∨ 3 * w_.toNat + 3 ≤ j_) → S'_.2.2.1 208 0 j_ = S_.2.2.1 208 0 j_
def wf2 (n_ : Int) (S_ S'_ : sm_S) : Prop := (∀ j_, (j_ < 2 * n_.toNat ∨ 2 * n_.toNat + 2 ≤ j_) → S'_.2.2.1 206 0 j_ = S_.2.2.1 206 0 j_ ∧ S'_.2.2.1 207 0 j_ = S_.2.2.1 207 0 j_ ∧ S'_.2.2.1 209 0 j_ = S_.2.2.1 209 0 j_) ∧ ∀ j_, (j_ < 6 * n_.toNat ∨ 6 * n_.toNat + 6 ≤ j_) → S'_.2.2.1 208 0 j_ = S_.2.2.1 208 0 j_
theorem wf2_rf {n_ : Int} {S_ : sm_S} : wf2 n_ S_ S_ := ⟨fun _ _ => ⟨rfl, rfl, rfl⟩, fun _ _ => rfl⟩
theorem wf2_tr {n_ : Int} {S_ S'_ S2_ : sm_S} (h_ : wf2 n_ S_ S'_) (g_ : wf2 n_ S'_ S2_) : wf2 n_ S_ S2_ := ⟨fun j_ hj_ => ⟨(g_.1 j_ hj_).1.trans (h_.1 j_ hj_).1, (g_.1 j_ hj_).2.1.trans (h_.1 j_ hj_).2.1, (g_.1 j_ hj_).2.2.trans (h_.1 j_ hj_).2.2⟩, fun j_ hj_ => (g_.2 j_ hj_).trans (h_.2 j_ hj_)⟩
theorem wf2_fr {w_ : sx_Wl} {n_ : Int} {S_ S'_ : sm_S} (g_ : ai_fr (sx_W w_) S_ S'_) (h1_ : (sx_W w_).2.1 206 = false := by rfl) (h2_ : (sx_W w_).2.1 207 = false := by rfl) (h3_ : (sx_W w_).2.1 208 = false := by rfl) (h4_ : (sx_W w_).2.1 209 = false := by rfl) : wf2 n_ S_ S'_ := ⟨fun j_ _ => ⟨congrFun (fr_arr g_ h1_) j_, congrFun (fr_arr g_ h2_) j_, congrFun (fr_arr g_ h4_) j_⟩, fun j_ _ => congrFun (fr_arr g_ h3_) j_⟩
theorem wf2_w {n_ w_ : Int} {S_ S'_ : sm_S} (h_ : wfr w_ S_ S'_) (hn_ : 0 ≤ n_) (hw_ : w_ = 2 * n_ ∨ w_ = 2 * n_ + 1) : wf2 n_ S_ S'_ := ⟨fun j_ hj_ => h_.1 j_ (by omega), fun j_ hj_ => h_.2 j_ (by omega)⟩
/-- a_ way_ stays, where its_ rows and what it_ stands on_ stay -/
theorem wyc_cg {F_ n_ w_ : Int} {S_ S'_ : sm_S} (hI_ : gi S'_) (h_ : wyc F_ n_ S_ w_) (hw_ : 0 ≤ w_) (e6_ : S'_.2.2.1 206 0 w_.toNat = S_.2.2.1 206 0 w_.toNat) (e7_ : S'_.2.2.1 207 0 w_.toNat = S_.2.2.1 207 0 w_.toNat) (e9_ : S'_.2.2.1 209 0 w_.toNat = S_.2.2.1 209 0 w_.toNat) (e8_ : ∀ k_ : Int, 0 ≤ k_ → k_ < 3 → S'_.2.2.1 208 0 (3 * w_ + k_).toNat = S_.2.2.1 208 0 (3 * w_ + k_).toNat) (e5_ : S'_.2.2.1 185 0 = S_.2.2.1 185 0) (e106_ : S'_.1 13 0 106 = S_.1 13 0 106) (e2_ : S'_.2.2.1 202 0 = S_.2.2.1 202 0) (ec : ∀ x_ t_ : Int, 1 ≤ x_ → x_ < n_ → 0 ≤ t_ → t_ ≤ 1 → cst F_ S'_ x_ t_ = cst F_ S_ x_ t_) : wyc F_ n_ S'_ w_ := by
  unfold wyc
  rw [e6_, e7_, e9_, e5_, e106_]
  intro p_
  have q_ := h_ p_
  refine ⟨q_.1, q_.2.1, fun k_ k0_ k1_ => ?_⟩
  have b_ : S'_.2.2.1 185 0 (12 * S_.1 13 0 106 + S_.2.2.1 207 0 w_.toNat).toNat ≤ 3 := (hI_.2 185 0 _).2
  rw [e5_] at b_
  have z_ := q_.2.2 k_ k0_ k1_
  rw [e8_ k_ k0_ (by omega)]
  refine ⟨by rw [e2_]; exact z_.1, ?_⟩
  rw [ec _ _ z_.1.1 z_.1.2.1 (by omega) (by omega)]
  exact z_.2
theorem cst_fr {w_ : sx_Wl} {F_ : Int} {S_ S'_ : sm_S} (g_ : ai_fr (sx_W w_) S_ S'_) (h1_ : (sx_W w_).2.1 203 = false := by rfl) (h2_ : (sx_W w_).2.1 210 = false := by rfl) (h3_ : (sx_W w_).1 13 108 = false := by rfl) : cst F_ S'_ = cst F_ S_ := by
  funext x_ t_
  unfold cst
  rw [fr_arr g_ h1_, fr_arr g_ h2_, g_.1 13 0 108 h3_]
theorem wyc_fr {w_ : sx_Wl} {F_ n_ l_ : Int} {S_ S'_ : sm_S} (hI_ : gi S'_) (h_ : wyc F_ n_ S_ l_) (hl_ : 0 ≤ l_) (g_ : ai_fr (sx_W w_) S_ S'_) (f_ : (sx_W w_).2.1 206 = false := by rfl) (f7_ : (sx_W w_).2.1 207 = false := by rfl) (f8 : (sx_W w_).2.1 208 = false := by rfl) (f9_ : (sx_W w_).2.1 209 = false := by rfl) (f5_ : (sx_W w_).2.1 185 = false := by rfl) (f1_ : (sx_W w_).1 13 106 = false := by rfl) (f2_ : (sx_W w_).2.1 202 = false := by rfl) (h1_ : (sx_W w_).2.1 203 = false := by rfl) (h2_ : (sx_W w_).2.1 210 = false := by rfl) (h3_ : (sx_W w_).1 13 108 = false := by rfl) : wyc F_ n_ S'_ l_ :=
  wyc_cg hI_ h_ hl_ (congrFun (fr_arr g_ f_) _) (congrFun (fr_arr g_ f7_) _) (congrFun (fr_arr g_ f9_) _) (fun k_ _ _ => congrFun (fr_arr g_ f8) _) (fr_arr g_ f5_) (g_.1 13 0 106 f1_) (fr_arr g_ f2_) (fun x_ t_ _ _ _ _ => by rw [cst_fr g_ h1_ h2_ h3_])
/-! M_.cellOver -/
def vw_405 : sx_Wl := ([], [], [])
def vq_405 (fn_ : Int) (sz_ : Int) (or9_ : Int) (tu_ : Int) (S0_ : sm_S) (u_ : Option sm_V) (S1_ : sm_S) : Prop := S0_ = S1_ ∧ ∃ v_ : Int, u_ = some (.inl v_) ∧ (-2147483648 ≤ v_ ∧ v_ ≤ 2147483647)
set_option maxHeartbeats 400000 in
set_option maxRecDepth 20000 in
theorem vl_405 {sc_ : Nat × (Nat → Int)} (fn_ : Int) (sz_ : Int) (or9_ : Int) (tu_ : Int) (S0_ : sm_S) (hs_ : 1 ≤ sz_ ∧ sz_ ≤ 3 ∧ 0 ≤ or9_ ∧ or9_ ≤ 5) : ∀ nn_ : Nat, (∀ (to_ : Int) (v9_ : Int) (S_ : sm_S), gi S_ → ai_fr (sx_W vw_405) S0_ S_ → ((0 ≤ v9_ ∧ v9_ ≤ 8 ∧ -2147483648 ≤ to_ ∧ to_ ≤ 2147483647) ∧ (S_ = S0_) ∧ True) → ((10 * (100 - v9_) + 9).toNat) < nn_ → sm_T (mt_P sc_) 1 405 (6, [some (.inl fn_), some (.inl sz_), some (.inl or9_), some (.inl tu_), some (.inl to_), some (.inl v9_), none, none], [], S_) (fun ro9_ => ∃ u_ S1_, ro9_ = (.inl u_, S1_, 0) ∧ vq_405 fn_ sz_ or9_ tu_ S0_ u_ S1_)) ∧ (∀ (to_ : Int) (v9_ : Int) (s_ : Int) (k_ : Int) (S_ : sm_S), gi S_ → ai_fr (sx_W vw_405) S0_ S_ → ((0 ≤ v9_ ∧ v9_ < 8 ∧ -2147483648 ≤ to_ ∧ to_ ≤ 2147483647 ∧ 0 ≤ k_ ∧ k_ ≤ 3) ∧ (S_ = S0_) ∧ True) → ((10 * (100 - v9_) + 5 - k_).toNat) < nn_ → sm_T (mt_P sc_) 1 405 (19, [some (.inl fn_), some (.inl sz_), some (.inl or9_), some (.inl tu_), some (.inl to_), some (.inl v9_), some (.inl s_), some (.inl k_)], [], S_) (fun ro9_ => ∃ u_ S1_, ro9_ = (.inl u_, S1_, 0) ∧ vq_405 fn_ sz_ or9_ tu_ S0_ u_ S1_)) := by
  intro nn_
  induction nn_ with
  | zero => exact ⟨fun _ _ _ _ _ _ h_ => absurd h_ (Nat.not_lt_zero _), fun _ _ _ _ _ _ _ _ h_ => absurd h_ (Nat.not_lt_zero _)⟩
  | succ nn_ ih_ =>
    refine ⟨?_, ?_⟩
    · rintro to_ v9_ S_ hI_ hF_ ⟨h0_, hS_, -⟩ hm_
      refine sm_T_go 2 (c1 := (10, [some (.inl fn_), some (.inl sz_), some (.inl or9_), some (.inl tu_), some (.inl to_), some (.inl v9_), none, none], [.inl 8, .inl v9_], S_)) rfl ?_
      refine sm_T_br (a := 3) (z := 66) rfl (fun cx1_ => ?_) (fun cx1_ => ?_)
      · have cx1_ : 8 ≤ v9_ := of_decide_eq_true cx1_
        refine sm_T_go 1 (c1 := (78, [some (.inl fn_), some (.inl sz_), some (.inl or9_), some (.inl tu_), some (.inl to_), some (.inl v9_), none, none], [.inl to_], S_)) rfl ?_
        refine sm_T_ri rfl ⟨_, _, rfl, (by first | rfl | exact hS_.symm), _, rfl, ?_⟩
        omega
      · have cx1_ : ¬ (8 ≤ v9_) := of_decide_eq_false cx1_
        refine sm_T_go 4 (c1 := (19, [some (.inl fn_), some (.inl sz_), some (.inl or9_), some (.inl tu_), some (.inl to_), some (.inl v9_), some (.inl 0), some (.inl 0)], [], S_)) rfl ?_
        refine ih_.2 to_ v9_ 0 0 S_ hI_ hF_ ⟨?_, ?_, trivial⟩ ?_
        · omega
        · first | rfl | exact hS_
        · omega
    · rintro to_ v9_ s_ k_ S_ hI_ hF_ ⟨h0_, hS_, -⟩ hm_
      refine sm_T_go 2 (c1 := (22, [some (.inl fn_), some (.inl sz_), some (.inl or9_), some (.inl tu_), some (.inl to_), some (.inl v9_), some (.inl s_), some (.inl k_)], [.inl sz_, .inl k_], S_)) rfl ?_
      refine sm_T_br (a := 3) (z := 34) rfl (fun cx1_ => ?_) (fun cx1_ => ?_)
      · have cx1_ : sz_ ≤ k_ := of_decide_eq_true cx1_
        refine sm_T_go 3 (c1 := (61, [some (.inl fn_), some (.inl sz_), some (.inl or9_), some (.inl tu_), some (.inl to_), some (.inl v9_), some (.inl s_), some (.inl k_)], [.inl s_, .inl fn_, .inl to_], S_)) rfl ?_
        refine sm_T_bin (w := (i_shr fn_ s_)) rfl rfl ?_ -- pc_ 61
        have bx2_ := i_shr_n fn_ s_
        refine sm_T_go 1 (c1 := (63, [some (.inl fn_), some (.inl sz_), some (.inl or9_), some (.inl tu_), some (.inl to_), some (.inl v9_), some (.inl s_), some (.inl k_)], [.inl 1, .inl (i_shr fn_ s_), .inl to_], S_)) rfl ?_
        refine sm_T_bin (w := ((i_shr fn_ s_) % 2)) rfl (bi_msk (k := 1) (by decide)) ?_ -- pc_ 63
        refine sm_T_go 1 (c1 := (66, [some (.inl fn_), some (.inl sz_), some (.inl or9_), some (.inl tu_), some (.inl to_), some (.inl v9_), some (.inl s_), some (.inl k_)], [.inl v9_, .inl ((i_shr fn_ s_) % 2), .inl to_], S_)) rfl ?_
        refine sm_T_bin (w := (i_shl ((i_shr fn_ s_) % 2) v9_)) rfl rfl ?_ -- pc_ 66
        have bx3_ := i_shl_n ((i_shr fn_ s_) % 2) v9_
        refine sm_T_bin (w := (i_or to_ (i_shl ((i_shr fn_ s_) % 2) v9_))) rfl rfl ?_ -- pc_ 67
        have bx4_ := i_or_n to_ (i_shl ((i_shr fn_ s_) % 2) v9_)
        refine sm_T_go 1 (c1 := (70, [some (.inl fn_), some (.inl sz_), some (.inl or9_), some (.inl tu_), some (.inl (i_or to_ (i_shl ((i_shr fn_ s_) % 2) v9_))), some (.inl v9_), some (.inl s_), some (.inl k_)], [], S_)) rfl ?_
        refine sm_T_inc (a := 5) (z := 1) (v := v9_) (w := v9_ + 1) rfl rfl (by omega) (by omega) (by omega) ?_ -- pc_ 70
        refine sm_T_go 1 (c1 := (6, [some (.inl fn_), some (.inl sz_), some (.inl or9_), some (.inl tu_), some (.inl (i_or to_ (i_shl ((i_shr fn_ s_) % 2) v9_))), some (.inl (v9_ + 1)), some (.inl s_), some (.inl k_)], [], S_)) rfl ?_
        refine sm_T_wk [some (.inl fn_), some (.inl sz_), some (.inl or9_), some (.inl tu_), some (.inl (i_or to_ (i_shl ((i_shr fn_ s_) % 2) v9_))), some (.inl (v9_ + 1)), none, none] (by exact ⟨rfl, rfl, rfl, rfl, rfl, rfl, trivial⟩) ?_
        refine ih_.1 (i_or to_ (i_shl ((i_shr fn_ s_) % 2) v9_)) (v9_ + 1) S_ hI_ hF_ ⟨?_, ?_, trivial⟩ ?_
        · omega
        · first | rfl | exact hS_
        · omega
      · have cx1_ : ¬ (sz_ ≤ k_) := of_decide_eq_false cx1_
        refine sm_T_go 5 (c1 := (33, [some (.inl fn_), some (.inl sz_), some (.inl or9_), some (.inl tu_), some (.inl to_), some (.inl v9_), some (.inl s_), some (.inl k_)], [.inl k_, .inl or9_, .inl sz_, .inl v9_, .inl s_], S_)) rfl ?_
        refine sm_T_cal (d1 := 0) (Q1 := vq_403 sz_ or9_ k_ S_) rfl rfl (by decide) (vc_403 sz_ or9_ k_ S_ hI_ (by omega)) (fun u_ Sx5_ px8_ => ?_)
        obtain ⟨rfl, vx10_, rfl, px8_⟩ := px8_
        refine sm_T_bin (w := (i_shr v9_ vx10_)) rfl rfl ?_ -- pc_ 36
        have bx11_ := i_shr_n v9_ vx10_
        refine sm_T_go 2 (c1 := (40, [some (.inl fn_), some (.inl sz_), some (.inl or9_), some (.inl tu_), some (.inl to_), some (.inl v9_), some (.inl s_), some (.inl k_)], [.inl k_, .inl tu_, .inl (i_shr v9_ vx10_), .inl s_], S_)) rfl ?_
        refine sm_T_bin (w := (i_shr tu_ k_)) rfl rfl ?_ -- pc_ 40
        have bx12_ := i_shr_n tu_ k_
        refine sm_T_bin (w := (i_xor (i_shr v9_ vx10_) (i_shr tu_ k_))) rfl rfl ?_ -- pc_ 41
        have bx13_ := i_xor_n (i_shr v9_ vx10_) (i_shr tu_ k_)
        refine sm_T_go 1 (c1 := (43, [some (.inl fn_), some (.inl sz_), some (.inl or9_), some (.inl tu_), some (.inl to_), some (.inl v9_), some (.inl s_), some (.inl k_)], [.inl 1, .inl (i_xor (i_shr v9_ vx10_) (i_shr tu_ k_)), .inl s_], S_)) rfl ?_
        refine sm_T_bin (w := ((i_xor (i_shr v9_ vx10_) (i_shr tu_ k_)) % 2)) rfl (bi_msk (k := 1) (by decide)) ?_ -- pc_ 43
        refine sm_T_go 1 (c1 := (46, [some (.inl fn_), some (.inl sz_), some (.inl or9_), some (.inl tu_), some (.inl to_), some (.inl v9_), some (.inl s_), some (.inl k_)], [.inl k_, .inl ((i_xor (i_shr v9_ vx10_) (i_shr tu_ k_)) % 2), .inl s_], S_)) rfl ?_
        refine sm_T_bin (w := (i_shl ((i_xor (i_shr v9_ vx10_) (i_shr tu_ k_)) % 2) k_)) rfl rfl ?_ -- pc_ 46
        have bx14_ := i_shl_n ((i_xor (i_shr v9_ vx10_) (i_shr tu_ k_)) % 2) k_
        refine sm_T_bin (w := (i_or s_ (i_shl ((i_xor (i_shr v9_ vx10_) (i_shr tu_ k_)) % 2) k_))) rfl rfl ?_ -- pc_ 47
        have bx15_ := i_or_n s_ (i_shl ((i_xor (i_shr v9_ vx10_) (i_shr tu_ k_)) % 2) k_)
        refine sm_T_go 1 (c1 := (50, [some (.inl fn_), some (.inl sz_), some (.inl or9_), some (.inl tu_), some (.inl to_), some (.inl v9_), some (.inl (i_or s_ (i_shl ((i_xor (i_shr v9_ vx10_) (i_shr tu_ k_)) % 2) k_))), some (.inl k_)], [], S_)) rfl ?_
        refine sm_T_inc (a := 7) (z := 1) (v := k_) (w := k_ + 1) rfl rfl (by omega) (by omega) (by omega) ?_ -- pc_ 50
        refine sm_T_go 1 (c1 := (19, [some (.inl fn_), some (.inl sz_), some (.inl or9_), some (.inl tu_), some (.inl to_), some (.inl v9_), some (.inl (i_or s_ (i_shl ((i_xor (i_shr v9_ vx10_) (i_shr tu_ k_)) % 2) k_))), some (.inl (k_ + 1))], [], S_)) rfl ?_
        refine ih_.2 to_ v9_ (i_or s_ (i_shl ((i_xor (i_shr v9_ vx10_) (i_shr tu_ k_)) % 2) k_)) (k_ + 1) S_ hI_ hF_ ⟨?_, ?_, trivial⟩ ?_
        · omega
        · first | rfl | exact hS_
        · omega
set_option maxHeartbeats 400000 in
set_option maxRecDepth 20000 in
theorem vc_405 {sc_ : Nat × (Nat → Int)} (fn_ : Int) (sz_ : Int) (or9_ : Int) (tu_ : Int) (S0_ : sm_S) (hI_ : gi S0_) (hs_ : 1 ≤ sz_ ∧ sz_ ≤ 3 ∧ 0 ≤ or9_ ∧ or9_ ≤ 5) : sm_T (mt_P sc_) 1 405 (0, [some (.inl fn_), some (.inl sz_), some (.inl or9_), some (.inl tu_), none, none, none, none], [], S0_) (fun ro9_ => ∃ u_ S1_, ro9_ = (.inl u_, S1_, 0) ∧ vq_405 fn_ sz_ or9_ tu_ S0_ u_ S1_) := by
  have hF_ : ai_fr (sx_W vw_405) S0_ S0_ := ai_fr_rf
  refine sm_T_go 4 (c1 := (6, [some (.inl fn_), some (.inl sz_), some (.inl or9_), some (.inl tu_), some (.inl 0), some (.inl 0), none, none], [], S0_)) rfl ?_
  refine (vl_405 fn_ sz_ or9_ tu_ S0_ hs_ _).1 0 0 S0_ hI_ hF_ ⟨?_, ?_, trivial⟩ (Nat.lt_succ_self _)
  · omega
  · first | rfl | exact hS_
/-! M_.costOf -/
def vw_404 : sx_Wl := ([], [], [])
def vq_404 (x_ : Int) (t_ : Int) (F_ : Int) (S0_ : sm_S) (u_ : Option sm_V) (S1_ : sm_S) : Prop := S0_ = S1_ ∧ ∃ v_ : Int, u_ = some (.inl v_) ∧ (v_ = cst F_ S0_ x_ t_ ∧ 0 ≤ v_ ∧ v_ ≤ 1000000000)
set_option maxHeartbeats 400000 in
set_option maxRecDepth 20000 in
theorem vc_404 {sc_ : Nat × (Nat → Int)} (x_ : Int) (t_ : Int) (F_ : Int) (S0_ : sm_S) (hI_ : gi S0_) (hf_ : S0_.2.2.1 160 0 (S0_.1 13 0 105).toNat = F_) (hx_ : 0 ≤ x_ ∧ x_ ≤ 1012 ∧ 0 ≤ t_ ∧ t_ ≤ 1) : sm_T (mt_P sc_) 1 404 (0, [some (.inr (.inr (some (13, 0)))), some (.inl x_), some (.inl t_)], [], S0_) (fun ro9_ => ∃ u_ S1_, ro9_ = (.inl u_, S1_, 0) ∧ vq_404 x_ t_ F_ S0_ u_ S1_) := by
  have hF_ : ai_fr (sx_W vw_404) S0_ S0_ := ai_fr_rf
  refine sm_T_go 2 (c1 := (2, [some (.inr (.inr (some (13, 0)))), some (.inl x_), some (.inl t_)], [.inl x_, .inr (.inr (some (13, 0)))], S0_)) rfl ?_
  refine sm_T_cal (d1 := 0) (Q1 := vq_395 x_ F_ S0_) rfl rfl (by decide) (vc_395 x_ F_ S0_ hI_ (by exact hf_) (by omega)) (fun u_ Sx1_ px4_ => ?_)
  obtain ⟨rfl, vx6_, rfl, px4_⟩ := px4_
  have e2_ := px4_
  refine sm_T_b0 (a := 0) (z := 16) rfl (fun cx7_ => ?_) (fun cx7_ => ?_)
  · have cx7_ : vx6_ = 0 := of_decide_eq_true cx7_
    refine sm_T_go 1 (c1 := (22, [some (.inr (.inr (some (13, 0)))), some (.inl x_), some (.inl t_)], [.inl t_], S0_)) rfl ?_
    refine sm_T_b0 (a := 1) (z := 7) rfl (fun cx8_ => ?_) (fun cx8_ => ?_)
    · have cx8_ : t_ ≠ 0 := of_decide_eq_true cx8_
      have bx9_ : 0 ≤ S0_.1 13 0 108 ∧ S0_.1 13 0 108 ≤ 1000000000 := hI_.1 13 0 108 rfl
      refine sm_T_go 2 (c1 := (33, [some (.inr (.inr (some (13, 0)))), some (.inl x_), some (.inl t_)], [.inl (S0_.1 13 0 108)], S0_)) rfl ?_
      refine sm_T_ri rfl ⟨_, _, rfl, rfl, _, rfl, ?_⟩
      refine ⟨?_, by omega, by omega⟩
      unfold cst
      first | rw [if_pos ⟨by omega, by omega⟩] | (rw [if_neg (by omega)]; first | rw [if_pos (by omega)] | rw [if_neg (by omega)])
    · have cx8_ : ¬ (t_ ≠ 0) := of_decide_eq_false cx8_
      refine sm_T_go 2 (c1 := (33, [some (.inr (.inr (some (13, 0)))), some (.inl x_), some (.inl t_)], [.inl 0], S0_)) rfl ?_
      refine sm_T_ri rfl ⟨_, _, rfl, rfl, _, rfl, ?_⟩
      refine ⟨?_, by omega, by omega⟩
      unfold cst
      first | rw [if_pos ⟨by omega, by omega⟩] | (rw [if_neg (by omega)]; first | rw [if_pos (by omega)] | rw [if_neg (by omega)])
  · have cx7_ : ¬ (vx6_ = 0) := of_decide_eq_false cx7_
    refine sm_T_go 4 (c1 := (14, [some (.inr (.inr (some (13, 0)))), some (.inl x_), some (.inl t_)], [.inl x_, .inl 2, .inr (.inr (some (210, 0)))], S0_)) rfl ?_
    refine sm_T_bin (w := 2 * x_) rfl (bi_mul (by omega) (by omega) (by omega)) ?_ -- pc_ 14
    refine sm_T_go 1 (c1 := (16, [some (.inr (.inr (some (13, 0)))), some (.inl x_), some (.inl t_)], [.inl t_, .inl (2 * x_), .inr (.inr (some (210, 0)))], S0_)) rfl ?_
    refine sm_T_bin (w := 2 * x_ + t_) rfl (bi_add (by omega) (by omega) (by omega)) ?_ -- pc_ 16
    refine sm_T_iald (n := 4096) rfl rfl (by omega) (by omega) ?_
    have bx10_ : 0 ≤ S0_.2.2.1 210 0 (2 * x_ + t_).toNat ∧ S0_.2.2.1 210 0 (2 * x_ + t_).toNat ≤ 1000000000 := hI_.2 210 0 _
    refine sm_T_go 1 (c1 := (33, [some (.inr (.inr (some (13, 0)))), some (.inl x_), some (.inl t_)], [.inl (S0_.2.2.1 210 0 (2 * x_ + t_).toNat)], S0_)) rfl ?_
    refine sm_T_ri rfl ⟨_, _, rfl, rfl, _, rfl, ?_⟩
    refine ⟨?_, by omega, by omega⟩
    unfold cst
    first | rw [if_pos ⟨by omega, by omega⟩] | (rw [if_neg (by omega)]; first | rw [if_pos (by omega)] | rw [if_neg (by omega)])
/-! M_.tryWay -/
def vw_406 : sx_Wl := ([], [206, 207, 208, 209], [])
def vq_406 (n_ : Int) (t_ : Int) (c_ : Int) (cu_ : Int) (or9_ : Int) (tu_ : Int) (F_ : Int) (S0_ : sm_S) (u_ : Option sm_V) (S1_ : sm_S) : Prop := u_ = none ∧ gi S1_ ∧ ai_fr (sx_W vw_406) S0_ S1_ ∧ (wyc F_ n_ S1_ (2 * n_) ∧ wyc F_ n_ S1_ (2 * n_ + 1) ∧ wf2 n_ S0_ S1_)
set_option maxHeartbeats 4000000 in
set_option maxRecDepth 20000 in
theorem vl_406 {sc_ : Nat × (Nat → Int)} (n_ : Int) (t_ : Int) (c_ : Int) (cu_ : Int) (or9_ : Int) (tu_ : Int) (F_ : Int) (S0_ : sm_S) (hf_ : S0_.2.2.1 160 0 (S0_.1 13 0 105).toNat = F_) (hn_ : 1 ≤ F_ ∧ F_ ≤ n_ ∧ n_ ≤ 1012) (hh_ : 0 ≤ c_ ∧ c_ ≤ 11 ∧ 0 ≤ cu_ ∧ cu_ < S0_.1 13 0 114 ∧ 0 ≤ or9_ ∧ or9_ ≤ 5 ∧ 0 ≤ tu_ ∧ tu_ ≤ 7) (hct_ : ctp (cnd9 n_ (S0_.2.2.1 202 0)) S0_) (hsz_ : S0_.2.2.1 204 0 cu_.toNat = S0_.2.2.1 185 0 (12 * S0_.1 13 0 106 + c_).toNat) (hw0_ : wyc F_ n_ S0_ (2 * n_)) (hw1_ : wyc F_ n_ S0_ (2 * n_ + 1)) (hx_ : 0 ≤ t_ ∧ t_ ≤ 1) : ∀ nn_ : Nat, (∀ (lt_ : Int) (k_ : Int) (S_ : sm_S), gi S_ → ai_fr (sx_W vw_406) S0_ S_ → ((0 ≤ k_ ∧ k_ ≤ 3 ∧ 0 ≤ lt_ ∧ lt_ ≤ 1000 + 1000000000 * k_ ∧ S0_.1 13 0 114 ≤ 64) ∧ (∀ j9_ : Int, 0 ≤ j9_ → j9_ < k_ → cst F_ S0_ (S0_.2.2.1 205 0 (3 * cu_ + iat (S0_.2.2.1 204 0 cu_.toNat) or9_ j9_).toNat) (i_shr tu_ j9_ % 2) ≤ lt_) ∧ (S_ = S0_) ∧ True) → ((900 - k_).toNat) < nn_ → sm_T (mt_P sc_) 2 406 (20, [some (.inr (.inr (some (13, 0)))), some (.inl n_), some (.inl t_), some (.inl c_), some (.inl cu_), some (.inl or9_), some (.inl tu_), some (.inr (.inl lt_)), none, some (.inl k_), none], [], S_) (fun ro9_ => ∃ u_ S1_, ro9_ = (.inl u_, S1_, 0) ∧ vq_406 n_ t_ c_ cu_ or9_ tu_ F_ S0_ u_ S1_)) ∧ (∀ (w_ : Int) (k_ : Int) (S_ : sm_S), gi S_ → ai_fr (sx_W vw_406) S0_ S_ → ((0 ≤ k_ ∧ k_ ≤ 3 ∧ w_ = 2 * n_ + t_ ∧ S0_.1 13 0 114 ≤ 64 ∧ k_ ≤ S0_.2.2.1 204 0 cu_.toNat) ∧ (∀ j9_ : Int, 0 ≤ j9_ → j9_ < S0_.2.2.1 204 0 cu_.toNat → cst F_ S0_ (S0_.2.2.1 205 0 (3 * cu_ + iat (S0_.2.2.1 204 0 cu_.toNat) or9_ j9_).toNat) (i_shr tu_ j9_ % 2) < 1000000000) ∧ (S_.2.2.1 207 0 w_.toNat = c_ ∧ S_.2.2.1 209 0 w_.toNat = tu_) ∧ (∀ j9_ : Int, 0 ≤ j9_ → j9_ < k_ → S_.2.2.1 208 0 (3 * w_ + j9_).toNat = S0_.2.2.1 205 0 (3 * cu_ + iat (S0_.2.2.1 204 0 cu_.toNat) or9_ j9_).toNat) ∧ (wfr w_ S0_ S_) ∧ True) → ((500 - k_).toNat) < nn_ → sm_T (mt_P sc_) 2 406 (131, [some (.inr (.inr (some (13, 0)))), some (.inl n_), some (.inl t_), some (.inl c_), some (.inl cu_), some (.inl or9_), some (.inl tu_), none, none, some (.inl w_), some (.inl k_)], [], S_) (fun ro9_ => ∃ u_ S1_, ro9_ = (.inl u_, S1_, 0) ∧ vq_406 n_ t_ c_ cu_ or9_ tu_ F_ S0_ u_ S1_)) := by
  intro nn_
  induction nn_ with
  | zero => exact ⟨fun _ _ _ _ _ _ h_ => absurd h_ (Nat.not_lt_zero _), fun _ _ _ _ _ _ h_ => absurd h_ (Nat.not_lt_zero _)⟩
  | succ nn_ ih_ =>
    refine ⟨?_, ?_⟩
    · rintro lt_ k_ S_ hI_ hF_ ⟨h0_, h1_, h4_, -⟩ hm_
      have f204_ : S_.2.2.1 204 0 = S0_.2.2.1 204 0 := fr_arr hF_ rfl
      have f205_ : S_.2.2.1 205 0 = S0_.2.2.1 205 0 := fr_arr hF_ rfl
      have f160_ : S_.2.2.1 160 0 (S_.1 13 0 105).toNat = F_ := by (rw [hF_.1 13 0 105 rfl, fr_arr (t := 160) (i := 0) hF_ rfl]; exact hf_)
      have c9_ : cst F_ S_ = cst F_ S0_ := cst_fr hF_
      have x204_ : S_.2.2.1 204 0 cu_.toNat = S0_.2.2.1 204 0 cu_.toNat := congrFun f204_ _
      have b204_ : 0 ≤ S_.2.2.1 204 0 cu_.toNat ∧ S_.2.2.1 204 0 cu_.toNat ≤ 3 := hI_.2 204 0 _
      have g106_ : S_.1 13 0 106 = S0_.1 13 0 106 := hF_.1 13 0 106 rfl
      refine sm_T_go 4 (c1 := (28, [some (.inr (.inr (some (13, 0)))), some (.inl n_), some (.inl t_), some (.inl c_), some (.inl cu_), some (.inl or9_), some (.inl tu_), some (.inr (.inl lt_)), none, some (.inl k_), none], [.inl cu_, .inr (.inr (some (204, 0))), .inl k_], S_)) rfl ?_
      refine sm_T_iald (n := 64) rfl rfl (by omega) (by omega) ?_
      have bx1_ : 0 ≤ S_.2.2.1 204 0 cu_.toNat ∧ S_.2.2.1 204 0 cu_.toNat ≤ 3 := hI_.2 204 0 _
      refine sm_T_br (a := 3) (z := 50) rfl (fun cx2_ => ?_) (fun cx2_ => ?_)
      · have cx2_ : (S_.2.2.1 204 0 cu_.toNat) ≤ k_ := of_decide_eq_true cx2_
        refine sm_T_go 2 (c1 := (81, [some (.inr (.inr (some (13, 0)))), some (.inl n_), some (.inl t_), some (.inl c_), some (.inl cu_), some (.inl or9_), some (.inl tu_), some (.inr (.inl lt_)), none, some (.inl k_), none], [.inl n_, .inl 2], S_)) rfl ?_
        refine sm_T_bin (w := 2 * n_) rfl (bi_mul (by omega) (by omega) (by omega)) ?_ -- pc_ 81
        refine sm_T_go 1 (c1 := (83, [some (.inr (.inr (some (13, 0)))), some (.inl n_), some (.inl t_), some (.inl c_), some (.inl cu_), some (.inl or9_), some (.inl tu_), some (.inr (.inl lt_)), none, some (.inl k_), none], [.inl t_, .inl (2 * n_)], S_)) rfl ?_
        refine sm_T_bin (w := 2 * n_ + t_) rfl (bi_add (by omega) (by omega) (by omega)) ?_ -- pc_ 83
        refine sm_T_go 5 (c1 := (94, [some (.inr (.inr (some (13, 0)))), some (.inl n_), some (.inl t_), some (.inl c_), some (.inl cu_), some (.inl or9_), some (.inl tu_), some (.inr (.inl lt_)), none, some (.inl (2 * n_ + t_)), none], [.inl (2 * n_ + t_), .inr (.inr (some (206, 0))), .inr (.inl lt_)], S_)) rfl ?_
        refine sm_T_iald (n := 4096) rfl rfl (by omega) (by omega) ?_
        have bx3_ : 0 ≤ S_.2.2.1 206 0 (2 * n_ + t_).toNat ∧ S_.2.2.1 206 0 (2 * n_ + t_).toNat ≤ 1000000000 := hI_.2 206 0 _
        refine sm_T_go 2 (c1 := (97, [some (.inr (.inr (some (13, 0)))), some (.inl n_), some (.inl t_), some (.inl c_), some (.inl cu_), some (.inl or9_), some (.inl tu_), some (.inr (.inl lt_)), none, some (.inl (2 * n_ + t_)), none], [.inl (sm_lcmp lt_ ((l_i2l (S_.2.2.1 206 0 (2 * n_ + t_).toNat))))], S_)) rfl ?_
        refine sm_T_b0 (a := 2) (z := 4) rfl (fun cx4_ => ?_) (fun cx4_ => ?_)
        · have cx4_ : (sm_lcmp lt_ ((l_i2l (S_.2.2.1 206 0 (2 * n_ + t_).toNat)))) < 0 := of_decide_eq_true cx4_
          have L8_ : lt_ < S_.2.2.1 206 0 (2 * n_ + t_).toNat := by (have q9_ := lcmp_lt.mp cx4_; rw [l_i2l_s (by omega) (by omega)] at q9_; exact q9_)
          have L7_ := l2i_s (x_ := lt_) (by omega)
          have bx5_ := l_l2i_n lt_
          refine sm_T_go 5 (c1 := (110, [some (.inr (.inr (some (13, 0)))), some (.inl n_), some (.inl t_), some (.inl c_), some (.inl cu_), some (.inl or9_), some (.inl tu_), some (.inr (.inl lt_)), none, some (.inl (2 * n_ + t_)), none], [.inl (l_l2i lt_), .inl (2 * n_ + t_), .inr (.inr (some (206, 0)))], S_)) rfl ?_
          refine sm_T_iast (n := 4096) rfl rfl (by omega) (by omega) ?_
          have hIx6_ : gi (sm_aI S_ 206 0 (2 * n_ + t_).toNat (l_l2i lt_)) := gi_aI hI_ (show 0 ≤ (l_l2i lt_) ∧ (l_l2i lt_) ≤ 1000000000 from ⟨by omega, by omega⟩)
          have hFx7_ : ai_fr (sx_W vw_406) S0_ (sm_aI S_ 206 0 (2 * n_ + t_).toNat (l_l2i lt_)) := ai_fr_tr hF_ (ai_fr_aI rfl)
          refine sm_T_go 4 (c1 := (118, [some (.inr (.inr (some (13, 0)))), some (.inl n_), some (.inl t_), some (.inl c_), some (.inl cu_), some (.inl or9_), some (.inl tu_), some (.inr (.inl lt_)), none, some (.inl (2 * n_ + t_)), none], [.inl c_, .inl (2 * n_ + t_), .inr (.inr (some (207, 0)))], sm_aI S_ 206 0 (2 * n_ + t_).toNat (l_l2i lt_))) rfl ?_
          refine sm_T_iast (n := 4096) rfl rfl (by omega) (by omega) ?_
          have hIx8_ : gi (sm_aI (sm_aI S_ 206 0 (2 * n_ + t_).toNat (l_l2i lt_)) 207 0 (2 * n_ + t_).toNat c_) := gi_aI hIx6_ (show (-1) ≤ c_ ∧ c_ ≤ 11 from ⟨by omega, by omega⟩)
          have hFx9_ : ai_fr (sx_W vw_406) S0_ (sm_aI (sm_aI S_ 206 0 (2 * n_ + t_).toNat (l_l2i lt_)) 207 0 (2 * n_ + t_).toNat c_) := ai_fr_tr hFx7_ (ai_fr_aI rfl)
          refine sm_T_go 4 (c1 := (127, [some (.inr (.inr (some (13, 0)))), some (.inl n_), some (.inl t_), some (.inl c_), some (.inl cu_), some (.inl or9_), some (.inl tu_), some (.inr (.inl lt_)), none, some (.inl (2 * n_ + t_)), none], [.inl tu_, .inl (2 * n_ + t_), .inr (.inr (some (209, 0)))], sm_aI (sm_aI S_ 206 0 (2 * n_ + t_).toNat (l_l2i lt_)) 207 0 (2 * n_ + t_).toNat c_)) rfl ?_
          refine sm_T_iast (n := 4096) rfl rfl (by omega) (by omega) ?_
          have hIx10_ : gi (sm_aI (sm_aI (sm_aI S_ 206 0 (2 * n_ + t_).toNat (l_l2i lt_)) 207 0 (2 * n_ + t_).toNat c_) 209 0 (2 * n_ + t_).toNat tu_) := gi_aI hIx8_ (show 0 ≤ tu_ ∧ tu_ ≤ 7 from ⟨by omega, by omega⟩)
          have hFx11_ : ai_fr (sx_W vw_406) S0_ (sm_aI (sm_aI (sm_aI S_ 206 0 (2 * n_ + t_).toNat (l_l2i lt_)) 207 0 (2 * n_ + t_).toNat c_) 209 0 (2 * n_ + t_).toNat tu_) := ai_fr_tr hFx9_ (ai_fr_aI rfl)
          refine sm_T_go 2 (c1 := (131, [some (.inr (.inr (some (13, 0)))), some (.inl n_), some (.inl t_), some (.inl c_), some (.inl cu_), some (.inl or9_), some (.inl tu_), some (.inr (.inl lt_)), none, some (.inl (2 * n_ + t_)), some (.inl 0)], [], sm_aI (sm_aI (sm_aI S_ 206 0 (2 * n_ + t_).toNat (l_l2i lt_)) 207 0 (2 * n_ + t_).toNat c_) 209 0 (2 * n_ + t_).toNat tu_)) rfl ?_
          refine sm_T_wk [some (.inr (.inr (some (13, 0)))), some (.inl n_), some (.inl t_), some (.inl c_), some (.inl cu_), some (.inl or9_), some (.inl tu_), none, none, some (.inl (2 * n_ + t_)), some (.inl 0)] (by exact ⟨rfl, rfl, rfl, rfl, rfl, rfl, rfl, rfl, rfl, trivial⟩) ?_
          refine ih_.2 (2 * n_ + t_) 0 (sm_aI (sm_aI (sm_aI S_ 206 0 (2 * n_ + t_).toNat (l_l2i lt_)) 207 0 (2 * n_ + t_).toNat c_) 209 0 (2 * n_ + t_).toNat tu_) hIx10_ hFx11_ ⟨?_, ?_, ?_, ?_, ?_, trivial⟩ ?_
          · omega
          · (intro j9_ u0_ u1_; have w9_ := h1_ j9_ u0_ (by omega); omega)
          · ((try simp only [rd_eq, rd_ne, rf_eq, rf_nk, rf_nt, rd_fa, rd_af, rd_fl, rd_al, rd_lf, rd_la, rd_leq, rd_lne, rd_fr, rd_ar, ne_eq, Nat.reduceEqDiff, not_false_eq_true]); first | exact ⟨if_pos rfl, if_pos rfl⟩ | exact ⟨trivial, trivial⟩ | (constructor <;> first | rfl | rw [if_pos rfl]))
          · (intro j9_ u0_ u1_; exfalso; omega)
          · (rw [← h4_]; exact ⟨fun j9_ h9_ => by ((try simp only [rd_eq, rd_ne, rf_eq, rf_nk, rf_nt, rd_fa, rd_af, rd_fl, rd_al, rd_lf, rd_la, rd_leq, rd_lne, rd_fr, rd_ar, ne_eq, Nat.reduceEqDiff, not_false_eq_true]); rw [if_neg (by omega), if_neg (by omega), if_neg (by omega)]; exact ⟨rfl, rfl, rfl⟩), fun j9_ _ => by (try simp only [rd_eq, rd_ne, rf_eq, rf_nk, rf_nt, rd_fa, rd_af, rd_fl, rd_al, rd_lf, rd_la, rd_leq, rd_lne, rd_fr, rd_ar, ne_eq, Nat.reduceEqDiff, not_false_eq_true])⟩)
          · omega
        · have cx4_ : ¬ ((sm_lcmp lt_ ((l_i2l (S_.2.2.1 206 0 (2 * n_ + t_).toNat)))) < 0) := of_decide_eq_false cx4_
          refine sm_T_rv rfl ⟨_, _, rfl, rfl, hI_, hF_, ?_⟩
          rw [h4_]
          exact ⟨hw0_, hw1_, wf2_rf⟩
      · have cx2_ : ¬ ((S_.2.2.1 204 0 cu_.toNat) ≤ k_) := of_decide_eq_false cx2_
        have b9_ := hct_ cu_ (by omega) (by omega)
        refine sm_T_go 6 (c1 := (42, [some (.inr (.inr (some (13, 0)))), some (.inl n_), some (.inl t_), some (.inl c_), some (.inl cu_), some (.inl or9_), some (.inl tu_), some (.inr (.inl lt_)), none, some (.inl k_), none], [.inl cu_, .inl 3, .inr (.inr (some (205, 0))), .inr (.inr (some (13, 0))), .inr (.inl lt_)], S_)) rfl ?_
        refine sm_T_bin (w := 3 * cu_) rfl (bi_mul (by omega) (by omega) (by omega)) ?_ -- pc_ 42
        refine sm_T_go 3 (c1 := (49, [some (.inr (.inr (some (13, 0)))), some (.inl n_), some (.inl t_), some (.inl c_), some (.inl cu_), some (.inl or9_), some (.inl tu_), some (.inr (.inl lt_)), none, some (.inl k_), none], [.inl cu_, .inr (.inr (some (204, 0))), .inl (3 * cu_), .inr (.inr (some (205, 0))), .inr (.inr (some (13, 0))), .inr (.inl lt_)], S_)) rfl ?_
        refine sm_T_iald (n := 64) rfl rfl (by omega) (by omega) ?_
        refine sm_T_go 2 (c1 := (54, [some (.inr (.inr (some (13, 0)))), some (.inl n_), some (.inl t_), some (.inl c_), some (.inl cu_), some (.inl or9_), some (.inl tu_), some (.inr (.inl lt_)), none, some (.inl k_), none], [.inl k_, .inl or9_, .inl (S_.2.2.1 204 0 cu_.toNat), .inl (3 * cu_), .inr (.inr (some (205, 0))), .inr (.inr (some (13, 0))), .inr (.inl lt_)], S_)) rfl ?_
        refine sm_T_cal (d1 := 0) (Q1 := vq_403 (S_.2.2.1 204 0 cu_.toNat) or9_ k_ S_) rfl rfl (by decide) (vc_403 (S_.2.2.1 204 0 cu_.toNat) or9_ k_ S_ hI_ (by omega)) (fun u_ Sx12_ px15_ => ?_)
        obtain ⟨rfl, vx17_, rfl, px15_⟩ := px15_
        have e54_ := px15_
        rw [x204_] at e54_
        have n9_ := b9_.2 vx17_ (by omega) (by omega)
        rw [← f205_] at n9_
        have n8_ := n9_.1
        have n7_ := n9_.2.1
        refine sm_T_bin (w := 3 * cu_ + vx17_) rfl (bi_add (by omega) (by omega) (by omega)) ?_ -- pc_ 57
        refine sm_T_iald (n := 192) rfl rfl (by omega) (by omega) ?_
        have bx18_ : 0 ≤ S_.2.2.1 205 0 (3 * cu_ + vx17_).toNat ∧ S_.2.2.1 205 0 (3 * cu_ + vx17_).toNat ≤ 1012 := hI_.2 205 0 _
        refine sm_T_go 2 (c1 := (63, [some (.inr (.inr (some (13, 0)))), some (.inl n_), some (.inl t_), some (.inl c_), some (.inl cu_), some (.inl or9_), some (.inl tu_), some (.inr (.inl lt_)), none, some (.inl k_), none], [.inl k_, .inl tu_, .inl (S_.2.2.1 205 0 (3 * cu_ + vx17_).toNat), .inr (.inr (some (13, 0))), .inr (.inl lt_)], S_)) rfl ?_
        refine sm_T_bin (w := (i_shr tu_ k_)) rfl rfl ?_ -- pc_ 63
        refine sm_T_go 1 (c1 := (65, [some (.inr (.inr (some (13, 0)))), some (.inl n_), some (.inl t_), some (.inl c_), some (.inl cu_), some (.inl or9_), some (.inl tu_), some (.inr (.inl lt_)), none, some (.inl k_), none], [.inl 1, .inl (i_shr tu_ k_), .inl (S_.2.2.1 205 0 (3 * cu_ + vx17_).toNat), .inr (.inr (some (13, 0))), .inr (.inl lt_)], S_)) rfl ?_
        refine sm_T_bin (w := ((i_shr tu_ k_) % 2)) rfl (bi_msk (k := 1) (by decide)) ?_ -- pc_ 65
        refine sm_T_cal (d1 := 1) (Q1 := vq_404 (S_.2.2.1 205 0 (3 * cu_ + vx17_).toNat) ((i_shr tu_ k_) % 2) F_ S_) rfl rfl (by decide) (vc_404 (S_.2.2.1 205 0 (3 * cu_ + vx17_).toNat) ((i_shr tu_ k_) % 2) F_ S_ hI_ (by exact f160_) (by omega)) (fun u_ Sx19_ px22_ => ?_)
        obtain ⟨rfl, vx24_, rfl, px22_⟩ := px22_
        have e66_ := px22_
        rw [c9_, f205_, e54_.1] at e66_
        have L9_ := l_0_s (x_ := lt_) (y_ := vx24_) (by omega) (by omega)
        refine sm_T_go 3 (c1 := (73, [some (.inr (.inr (some (13, 0)))), some (.inl n_), some (.inl t_), some (.inl c_), some (.inl cu_), some (.inl or9_), some (.inl tu_), some (.inr (.inl (l_0 lt_ ((l_i2l vx24_))))), none, some (.inl k_), none], [], S_)) rfl ?_
        refine sm_T_inc (a := 9) (z := 1) (v := k_) (w := k_ + 1) rfl rfl (by omega) (by omega) (by omega) ?_ -- pc_ 73
        refine sm_T_go 1 (c1 := (20, [some (.inr (.inr (some (13, 0)))), some (.inl n_), some (.inl t_), some (.inl c_), some (.inl cu_), some (.inl or9_), some (.inl tu_), some (.inr (.inl (l_0 lt_ ((l_i2l vx24_))))), none, some (.inl (k_ + 1)), none], [], S_)) rfl ?_
        refine ih_.1 ((l_0 lt_ ((l_i2l vx24_)))) (k_ + 1) S_ hI_ hF_ ⟨?_, ?_, ?_, trivial⟩ ?_
        · (rw [L9_]; omega)
        · intro j9_ u0_ u1_
          rw [L9_]
          by_cases z9_ : j9_ = k_
          · rw [z9_]; omega
          · have w9_ := h1_ j9_ u0_ (by omega); omega
        · exact h4_
        · omega
    · rintro w_ k_ S_ hI_ hF_ ⟨h0_, h1_, h2_, h3_, h5_, -⟩ hm_
      have f204_ : S_.2.2.1 204 0 = S0_.2.2.1 204 0 := fr_arr hF_ rfl
      have f205_ : S_.2.2.1 205 0 = S0_.2.2.1 205 0 := fr_arr hF_ rfl
      have f160_ : S_.2.2.1 160 0 (S_.1 13 0 105).toNat = F_ := by (rw [hF_.1 13 0 105 rfl, fr_arr (t := 160) (i := 0) hF_ rfl]; exact hf_)
      have c9_ : cst F_ S_ = cst F_ S0_ := cst_fr hF_
      have x204_ : S_.2.2.1 204 0 cu_.toNat = S0_.2.2.1 204 0 cu_.toNat := congrFun f204_ _
      have b204_ : 0 ≤ S_.2.2.1 204 0 cu_.toNat ∧ S_.2.2.1 204 0 cu_.toNat ≤ 3 := hI_.2 204 0 _
      have g106_ : S_.1 13 0 106 = S0_.1 13 0 106 := hF_.1 13 0 106 rfl
      refine sm_T_go 4 (c1 := (139, [some (.inr (.inr (some (13, 0)))), some (.inl n_), some (.inl t_), some (.inl c_), some (.inl cu_), some (.inl or9_), some (.inl tu_), none, none, some (.inl w_), some (.inl k_)], [.inl cu_, .inr (.inr (some (204, 0))), .inl k_], S_)) rfl ?_
      refine sm_T_iald (n := 64) rfl rfl (by omega) (by omega) ?_
      have bx1_ : 0 ≤ S_.2.2.1 204 0 cu_.toNat ∧ S_.2.2.1 204 0 cu_.toNat ≤ 3 := hI_.2 204 0 _
      refine sm_T_br (a := 3) (z := 45) rfl (fun cx2_ => ?_) (fun cx2_ => ?_)
      · have cx2_ : (S_.2.2.1 204 0 cu_.toNat) ≤ k_ := of_decide_eq_true cx2_
        refine sm_T_rv rfl ⟨_, _, rfl, rfl, hI_, hF_, ?_⟩
        have z0_ : S_.2.2.1 185 0 = S0_.2.2.1 185 0 := fr_arr hF_ rfl
        have z2_ : S_.2.2.1 202 0 = S0_.2.2.1 202 0 := fr_arr hF_ rfl
        have own_ : wyc F_ n_ S_ w_ := fun _ => by
          rw [h2_.1, h2_.2, z0_, g106_, ← hsz_]
          refine ⟨by omega, (hct_ cu_ (by omega) (by omega)).1, fun k9_ v0_ v1_ => ?_⟩
          rw [h3_ k9_ v0_ (by omega)]
          refine ⟨by (rw [z2_]; exact (hct_ cu_ (by omega) (by omega)).2 _ (iat_b (by omega) (by omega) (by omega)).1 (iat_b (by omega) (by omega) (by omega)).2), ?_⟩
          rw [c9_]
          exact h1_ k9_ v0_ v1_
        have oth_ : ∀ l9_ : Int, 0 ≤ l9_ → l9_ ≠ w_ → wyc F_ n_ S0_ l9_ → wyc F_ n_ S_ l9_ := fun l9_ u0_ u1_ u2_ => wyc_cg hI_ u2_ u0_ (h5_.1 _ (by omega)).1 (h5_.1 _ (by omega)).2.1 (h5_.1 _ (by omega)).2.2 (fun k9_ v0_ v1_ => h5_.2 _ (by omega)) z0_ g106_ z2_ (fun x9_ t9_ _ _ _ _ => by rw [c9_])
        have v9_ : w_ = 2 * n_ ∨ w_ = 2 * n_ + 1 := by omega
        rcases v9_ with v9_ | v9_
        · exact ⟨by (rw [← v9_]; exact own_), oth_ _ (by omega) (by omega) hw1_, wf2_w h5_ (by omega) (Or.inl v9_)⟩
        · exact ⟨oth_ _ (by omega) (by omega) hw0_, by (rw [← v9_]; exact own_), wf2_w h5_ (by omega) (Or.inr v9_)⟩
      · have cx2_ : ¬ ((S_.2.2.1 204 0 cu_.toNat) ≤ k_) := of_decide_eq_false cx2_
        have b9_ := hct_ cu_ (by omega) (by omega)
        refine sm_T_go 4 (c1 := (150, [some (.inr (.inr (some (13, 0)))), some (.inl n_), some (.inl t_), some (.inl c_), some (.inl cu_), some (.inl or9_), some (.inl tu_), none, none, some (.inl w_), some (.inl k_)], [.inl w_, .inl 3, .inr (.inr (some (208, 0)))], S_)) rfl ?_
        refine sm_T_bin (w := 3 * w_) rfl (bi_mul (by omega) (by omega) (by omega)) ?_ -- pc_ 150
        refine sm_T_go 1 (c1 := (153, [some (.inr (.inr (some (13, 0)))), some (.inl n_), some (.inl t_), some (.inl c_), some (.inl cu_), some (.inl or9_), some (.inl tu_), none, none, some (.inl w_), some (.inl k_)], [.inl k_, .inl (3 * w_), .inr (.inr (some (208, 0)))], S_)) rfl ?_
        refine sm_T_bin (w := 3 * w_ + k_) rfl (bi_add (by omega) (by omega) (by omega)) ?_ -- pc_ 153
        refine sm_T_go 4 (c1 := (161, [some (.inr (.inr (some (13, 0)))), some (.inl n_), some (.inl t_), some (.inl c_), some (.inl cu_), some (.inl or9_), some (.inl tu_), none, none, some (.inl w_), some (.inl k_)], [.inl cu_, .inl 3, .inr (.inr (some (205, 0))), .inl (3 * w_ + k_), .inr (.inr (some (208, 0)))], S_)) rfl ?_
        refine sm_T_bin (w := 3 * cu_) rfl (bi_mul (by omega) (by omega) (by omega)) ?_ -- pc_ 161
        refine sm_T_go 3 (c1 := (168, [some (.inr (.inr (some (13, 0)))), some (.inl n_), some (.inl t_), some (.inl c_), some (.inl cu_), some (.inl or9_), some (.inl tu_), none, none, some (.inl w_), some (.inl k_)], [.inl cu_, .inr (.inr (some (204, 0))), .inl (3 * cu_), .inr (.inr (some (205, 0))), .inl (3 * w_ + k_), .inr (.inr (some (208, 0)))], S_)) rfl ?_
        refine sm_T_iald (n := 64) rfl rfl (by omega) (by omega) ?_
        refine sm_T_go 2 (c1 := (173, [some (.inr (.inr (some (13, 0)))), some (.inl n_), some (.inl t_), some (.inl c_), some (.inl cu_), some (.inl or9_), some (.inl tu_), none, none, some (.inl w_), some (.inl k_)], [.inl k_, .inl or9_, .inl (S_.2.2.1 204 0 cu_.toNat), .inl (3 * cu_), .inr (.inr (some (205, 0))), .inl (3 * w_ + k_), .inr (.inr (some (208, 0)))], S_)) rfl ?_
        refine sm_T_cal (d1 := 0) (Q1 := vq_403 (S_.2.2.1 204 0 cu_.toNat) or9_ k_ S_) rfl rfl (by decide) (vc_403 (S_.2.2.1 204 0 cu_.toNat) or9_ k_ S_ hI_ (by omega)) (fun u_ Sx3_ px6_ => ?_)
        obtain ⟨rfl, vx8_, rfl, px6_⟩ := px6_
        have e173_ := px6_
        rw [x204_] at e173_
        have n9_ := b9_.2 vx8_ (by omega) (by omega)
        rw [← f205_] at n9_
        have n8_ := n9_.1
        have n7_ := n9_.2.1
        refine sm_T_bin (w := 3 * cu_ + vx8_) rfl (bi_add (by omega) (by omega) (by omega)) ?_ -- pc_ 176
        refine sm_T_iald (n := 192) rfl rfl (by omega) (by omega) ?_
        have bx9_ : 0 ≤ S_.2.2.1 205 0 (3 * cu_ + vx8_).toNat ∧ S_.2.2.1 205 0 (3 * cu_ + vx8_).toNat ≤ 1012 := hI_.2 205 0 _
        refine sm_T_iast (n := 12288) rfl rfl (by omega) (by omega) ?_
        have hIx10_ : gi (sm_aI S_ 208 0 (3 * w_ + k_).toNat (S_.2.2.1 205 0 (3 * cu_ + vx8_).toNat)) := gi_aI hI_ (show 0 ≤ (S_.2.2.1 205 0 (3 * cu_ + vx8_).toNat) ∧ (S_.2.2.1 205 0 (3 * cu_ + vx8_).toNat) ≤ 2047 from ⟨by omega, by omega⟩)
        have hFx11_ : ai_fr (sx_W vw_406) S0_ (sm_aI S_ 208 0 (3 * w_ + k_).toNat (S_.2.2.1 205 0 (3 * cu_ + vx8_).toNat)) := ai_fr_tr hF_ (ai_fr_aI rfl)
        refine sm_T_inc (a := 10) (z := 1) (v := k_) (w := k_ + 1) rfl rfl (by omega) (by omega) (by omega) ?_ -- pc_ 179
        refine sm_T_go 1 (c1 := (131, [some (.inr (.inr (some (13, 0)))), some (.inl n_), some (.inl t_), some (.inl c_), some (.inl cu_), some (.inl or9_), some (.inl tu_), none, none, some (.inl w_), some (.inl (k_ + 1))], [], sm_aI S_ 208 0 (3 * w_ + k_).toNat (S_.2.2.1 205 0 (3 * cu_ + vx8_).toNat))) rfl ?_
        refine ih_.2 w_ (k_ + 1) (sm_aI S_ 208 0 (3 * w_ + k_).toNat (S_.2.2.1 205 0 (3 * cu_ + vx8_).toNat)) hIx10_ hFx11_ ⟨?_, ?_, ?_, ?_, ?_, trivial⟩ ?_
        · omega
        · exact h1_
        · ((try simp only [rd_eq, rd_ne, rf_eq, rf_nk, rf_nt, rd_fa, rd_af, rd_fl, rd_al, rd_lf, rd_la, rd_leq, rd_lne, rd_fr, rd_ar, ne_eq, Nat.reduceEqDiff, not_false_eq_true]); exact h2_)
        · intro j9_ u0_ u1_
          rw [rd_eq]
          by_cases z9_ : (3 * w_ + j9_).toNat = (3 * w_ + k_).toNat
          · rw [if_pos z9_, f205_, e173_.1, show j9_ = k_ by omega]
          · rw [if_neg z9_]; exact h3_ j9_ u0_ (by omega)
        · exact ⟨fun j9_ h9_ => by ((try simp only [rd_eq, rd_ne, rf_eq, rf_nk, rf_nt, rd_fa, rd_af, rd_fl, rd_al, rd_lf, rd_la, rd_leq, rd_lne, rd_fr, rd_ar, ne_eq, Nat.reduceEqDiff, not_false_eq_true]); exact h5_.1 j9_ h9_), fun j9_ h9_ => by ((try simp only [rd_eq, rd_ne, rf_eq, rf_nk, rf_nt, rd_fa, rd_af, rd_fl, rd_al, rd_lf, rd_la, rd_leq, rd_lne, rd_fr, rd_ar, ne_eq, Nat.reduceEqDiff, not_false_eq_true]); rw [if_neg (by omega)]; exact h5_.2 j9_ h9_)⟩
        · omega
set_option maxHeartbeats 4000000 in
set_option maxRecDepth 20000 in
theorem vc_406 {sc_ : Nat × (Nat → Int)} (n_ : Int) (t_ : Int) (c_ : Int) (cu_ : Int) (or9_ : Int) (tu_ : Int) (F_ : Int) (S0_ : sm_S) (hI_ : gi S0_) (hf_ : S0_.2.2.1 160 0 (S0_.1 13 0 105).toNat = F_) (hn_ : 1 ≤ F_ ∧ F_ ≤ n_ ∧ n_ ≤ 1012) (hh_ : 0 ≤ c_ ∧ c_ ≤ 11 ∧ 0 ≤ cu_ ∧ cu_ < S0_.1 13 0 114 ∧ 0 ≤ or9_ ∧ or9_ ≤ 5 ∧ 0 ≤ tu_ ∧ tu_ ≤ 7) (hct_ : ctp (cnd9 n_ (S0_.2.2.1 202 0)) S0_) (hsz_ : S0_.2.2.1 204 0 cu_.toNat = S0_.2.2.1 185 0 (12 * S0_.1 13 0 106 + c_).toNat) (hw0_ : wyc F_ n_ S0_ (2 * n_)) (hw1_ : wyc F_ n_ S0_ (2 * n_ + 1)) (hx_ : 0 ≤ t_ ∧ t_ ≤ 1) : sm_T (mt_P sc_) 2 406 (0, [some (.inr (.inr (some (13, 0)))), some (.inl n_), some (.inl t_), some (.inl c_), some (.inl cu_), some (.inl or9_), some (.inl tu_), none, none, none, none], [], S0_) (fun ro9_ => ∃ u_ S1_, ro9_ = (.inl u_, S1_, 0) ∧ vq_406 n_ t_ c_ cu_ or9_ tu_ F_ S0_ u_ S1_) := by
  have hF_ : ai_fr (sx_W vw_406) S0_ S0_ := ai_fr_rf
  have b114_ : S0_.1 13 0 114 ≤ 64 := (hI_.1 13 0 114 rfl).2
  have q204_ : 0 ≤ S0_.2.2.1 204 0 cu_.toNat ∧ S0_.2.2.1 204 0 cu_.toNat ≤ 3 := hI_.2 204 0 _
  have b106_ : 0 ≤ S0_.1 13 0 106 ∧ S0_.1 13 0 106 ≤ 2 := hI_.1 13 0 106 rfl
  have bx1_ : 0 ≤ S0_.1 13 0 106 ∧ S0_.1 13 0 106 ≤ 2 := hI_.1 13 0 106 rfl
  refine sm_T_go 5 (c1 := (10, [some (.inr (.inr (some (13, 0)))), some (.inl n_), some (.inl t_), some (.inl c_), some (.inl cu_), some (.inl or9_), some (.inl tu_), none, none, none, none], [.inl (S0_.1 13 0 106), .inl 12, .inr (.inr (some (187, 0)))], S0_)) rfl ?_
  refine sm_T_bin (w := 12 * (S0_.1 13 0 106)) rfl (bi_mul (by omega) (by omega) (by omega)) ?_ -- pc_ 10
  refine sm_T_go 1 (c1 := (12, [some (.inr (.inr (some (13, 0)))), some (.inl n_), some (.inl t_), some (.inl c_), some (.inl cu_), some (.inl or9_), some (.inl tu_), none, none, none, none], [.inl c_, .inl (12 * (S0_.1 13 0 106)), .inr (.inr (some (187, 0)))], S0_)) rfl ?_
  refine sm_T_bin (w := 12 * (S0_.1 13 0 106) + c_) rfl (bi_add (by omega) (by omega) (by omega)) ?_ -- pc_ 12
  refine sm_T_iald (n := 36) rfl rfl (by omega) (by omega) ?_
  have bx2_ : 0 ≤ S0_.2.2.1 187 0 (12 * (S0_.1 13 0 106) + c_).toNat ∧ S0_.2.2.1 187 0 (12 * (S0_.1 13 0 106) + c_).toNat ≤ 1000 := hI_.2 187 0 _
  refine sm_T_go 4 (c1 := (20, [some (.inr (.inr (some (13, 0)))), some (.inl n_), some (.inl t_), some (.inl c_), some (.inl cu_), some (.inl or9_), some (.inl tu_), some (.inr (.inl (l_i2l (S0_.2.2.1 187 0 (12 * (S0_.1 13 0 106) + c_).toNat)))), none, some (.inl 0), none], [], S0_)) rfl ?_
  refine (vl_406 n_ t_ c_ cu_ or9_ tu_ F_ S0_ hf_ hn_ hh_ hct_ hsz_ hw0_ hw1_ hx_ _).1 ((l_i2l (S0_.2.2.1 187 0 (12 * (S0_.1 13 0 106) + c_).toNat))) 0 S0_ hI_ hF_ ⟨?_, ?_, ?_, trivial⟩ (Nat.lt_succ_self _)
  · (rw [l_i2l_s (by omega) (by omega)]; omega)
  · (intro j9_ u0_ u1_; exfalso; omega)
  · rfl
/-! M_.tryCell -/
def vw_408 : sx_Wl := ([], [206, 207, 208, 209], [])
def vq_408 (n_ : Int) (c_ : Int) (cu_ : Int) (sz_ : Int) (F_ : Int) (S0_ : sm_S) (u_ : Option sm_V) (S1_ : sm_S) : Prop := u_ = none ∧ gi S1_ ∧ ai_fr (sx_W vw_408) S0_ S1_ ∧ (wyc F_ n_ S1_ (2 * n_) ∧ wyc F_ n_ S1_ (2 * n_ + 1) ∧ wf2 n_ S0_ S1_)
set_option maxHeartbeats 2000000 in
set_option maxRecDepth 20000 in
theorem vl_408 {sc_ : Nat × (Nat → Int)} (n_ : Int) (c_ : Int) (cu_ : Int) (sz_ : Int) (F_ : Int) (S0_ : sm_S) (hf_ : S0_.2.2.1 160 0 (S0_.1 13 0 105).toNat = F_) (hn_ : 1 ≤ F_ ∧ F_ ≤ n_ ∧ n_ ≤ 1012) (hh_ : 0 ≤ c_ ∧ c_ ≤ 11 ∧ 0 ≤ cu_ ∧ cu_ < S0_.1 13 0 114 ∧ 1 ≤ sz_ ∧ sz_ ≤ 3) (hct_ : ctp (cnd9 n_ (S0_.2.2.1 202 0)) S0_) (hsz_ : S0_.2.2.1 204 0 cu_.toNat = S0_.2.2.1 185 0 (12 * S0_.1 13 0 106 + c_).toNat) (hw0_ : wyc F_ n_ S0_ (2 * n_)) (hw1_ : wyc F_ n_ S0_ (2 * n_ + 1)) : ∀ nn_ : Nat, (∀ (o_ : Int) (S_ : sm_S), gi S_ → ai_fr (sx_W vw_408) S0_ S_ → ((0 ≤ o_ ∧ o_ ≤ 6) ∧ (wyc F_ n_ S_ (2 * n_)) ∧ (wyc F_ n_ S_ (2 * n_ + 1)) ∧ (wf2 n_ S0_ S_) ∧ True) → ((100 * (50 - o_) + 90).toNat) < nn_ → sm_T (mt_P sc_) 3 408 (3, [some (.inr (.inr (some (13, 0)))), some (.inl n_), some (.inl c_), some (.inl cu_), some (.inl sz_), some (.inl o_), none, none], [], S_) (fun ro9_ => ∃ u_ S1_, ro9_ = (.inl u_, S1_, 0) ∧ vq_408 n_ c_ cu_ sz_ F_ S0_ u_ S1_)) ∧ (∀ (o_ : Int) (tu_ : Int) (S_ : sm_S), gi S_ → ai_fr (sx_W vw_408) S0_ S_ → ((0 ≤ o_ ∧ o_ ≤ 5 ∧ 0 ≤ tu_ ∧ tu_ ≤ 8) ∧ (wyc F_ n_ S_ (2 * n_)) ∧ (wyc F_ n_ S_ (2 * n_ + 1)) ∧ (wf2 n_ S0_ S_) ∧ True) → ((100 * (50 - o_) + 80 - tu_).toNat) < nn_ → sm_T (mt_P sc_) 3 408 (24, [some (.inr (.inr (some (13, 0)))), some (.inl n_), some (.inl c_), some (.inl cu_), some (.inl sz_), some (.inl o_), some (.inl tu_), none], [], S_) (fun ro9_ => ∃ u_ S1_, ro9_ = (.inl u_, S1_, 0) ∧ vq_408 n_ c_ cu_ sz_ F_ S0_ u_ S1_)) := by
  intro nn_
  induction nn_ with
  | zero => exact ⟨fun _ _ _ _ _ h_ => absurd h_ (Nat.not_lt_zero _), fun _ _ _ _ _ _ h_ => absurd h_ (Nat.not_lt_zero _)⟩
  | succ nn_ ih_ =>
    refine ⟨?_, ?_⟩
    · rintro o_ S_ hI_ hF_ ⟨h0_, k0_, k1_, k2_, -⟩ hm_
      have f160_ : S_.2.2.1 160 0 (S_.1 13 0 105).toNat = F_ := by (rw [hF_.1 13 0 105 rfl, fr_arr (t := 160) (i := 0) hF_ rfl]; exact hf_)
      have g106_ : S_.1 13 0 106 = S0_.1 13 0 106 := hF_.1 13 0 106 rfl
      have g114_ : S_.1 13 0 114 = S0_.1 13 0 114 := hF_.1 13 0 114 rfl
      have f202_ : S_.2.2.1 202 0 = S0_.2.2.1 202 0 := fr_arr hF_ rfl
      have f204_ : S_.2.2.1 204 0 = S0_.2.2.1 204 0 := fr_arr hF_ rfl
      have f185_ : S_.2.2.1 185 0 = S0_.2.2.1 185 0 := fr_arr hF_ rfl
      have ct9_ : ctp (cnd9 n_ (S0_.2.2.1 202 0)) S_ := ctp_fr hct_ hF_
      have b114_ : S_.1 13 0 114 ≤ 64 := (hI_.1 13 0 114 rfl).2
      have b106_ : 0 ≤ S_.1 13 0 106 ∧ S_.1 13 0 106 ≤ 2 := hI_.1 13 0 106 rfl
      refine sm_T_go 3 (c1 := (8, [some (.inr (.inr (some (13, 0)))), some (.inl n_), some (.inl c_), some (.inl cu_), some (.inl sz_), some (.inl o_), none, none], [.inl 3, .inl sz_, .inl o_], S_)) rfl ?_
      refine sm_T_br (a := 1) (z := 8) rfl (fun cx1_ => ?_) (fun cx1_ => ?_)
      · have cx1_ : sz_ ≠ 3 := of_decide_eq_true cx1_
        refine sm_T_go 1 (c1 := (18, [some (.inr (.inr (some (13, 0)))), some (.inl n_), some (.inl c_), some (.inl cu_), some (.inl sz_), some (.inl o_), none, none], [.inl sz_, .inl o_], S_)) rfl ?_
        refine sm_T_br (a := 3) (z := 102) rfl (fun cx2_ => ?_) (fun cx2_ => ?_)
        · have cx2_ : sz_ ≤ o_ := of_decide_eq_true cx2_
          refine sm_T_rv rfl ⟨_, _, rfl, rfl, hI_, hF_, ?_⟩
          exact ⟨k0_, k1_, k2_⟩
        · have cx2_ : ¬ (sz_ ≤ o_) := of_decide_eq_false cx2_
          refine sm_T_go 2 (c1 := (24, [some (.inr (.inr (some (13, 0)))), some (.inl n_), some (.inl c_), some (.inl cu_), some (.inl sz_), some (.inl o_), some (.inl 0), none], [], S_)) rfl ?_
          refine ih_.2 o_ 0 S_ hI_ hF_ ⟨?_, ?_, ?_, ?_, trivial⟩ ?_
          · omega
          · first | exact p105_.1 | exact p78_.1 | exact k0_
          · first | exact p105_.2.1 | exact p78_.2.1 | exact k1_
          · first | exact wf2_tr (wf2_tr k2_ p78_.2.2) p105_.2.2 | exact wf2_tr k2_ p105_.2.2 | exact wf2_tr k2_ p78_.2.2 | exact k2_
          · omega
      · have cx1_ : ¬ (sz_ ≠ 3) := of_decide_eq_false cx1_
        refine sm_T_go 2 (c1 := (18, [some (.inr (.inr (some (13, 0)))), some (.inl n_), some (.inl c_), some (.inl cu_), some (.inl sz_), some (.inl o_), none, none], [.inl 6, .inl o_], S_)) rfl ?_
        refine sm_T_br (a := 3) (z := 102) rfl (fun cx3_ => ?_) (fun cx3_ => ?_)
        · have cx3_ : 6 ≤ o_ := of_decide_eq_true cx3_
          refine sm_T_rv rfl ⟨_, _, rfl, rfl, hI_, hF_, ?_⟩
          exact ⟨k0_, k1_, k2_⟩
        · have cx3_ : ¬ (6 ≤ o_) := of_decide_eq_false cx3_
          refine sm_T_go 2 (c1 := (24, [some (.inr (.inr (some (13, 0)))), some (.inl n_), some (.inl c_), some (.inl cu_), some (.inl sz_), some (.inl o_), some (.inl 0), none], [], S_)) rfl ?_
          refine ih_.2 o_ 0 S_ hI_ hF_ ⟨?_, ?_, ?_, ?_, trivial⟩ ?_
          · omega
          · first | exact p105_.1 | exact p78_.1 | exact k0_
          · first | exact p105_.2.1 | exact p78_.2.1 | exact k1_
          · first | exact wf2_tr (wf2_tr k2_ p78_.2.2) p105_.2.2 | exact wf2_tr k2_ p105_.2.2 | exact wf2_tr k2_ p78_.2.2 | exact k2_
          · omega
    · rintro o_ tu_ S_ hI_ hF_ ⟨h0_, k0_, k1_, k2_, -⟩ hm_
      have f160_ : S_.2.2.1 160 0 (S_.1 13 0 105).toNat = F_ := by (rw [hF_.1 13 0 105 rfl, fr_arr (t := 160) (i := 0) hF_ rfl]; exact hf_)
      have g106_ : S_.1 13 0 106 = S0_.1 13 0 106 := hF_.1 13 0 106 rfl
      have g114_ : S_.1 13 0 114 = S0_.1 13 0 114 := hF_.1 13 0 114 rfl
      have f202_ : S_.2.2.1 202 0 = S0_.2.2.1 202 0 := fr_arr hF_ rfl
      have f204_ : S_.2.2.1 204 0 = S0_.2.2.1 204 0 := fr_arr hF_ rfl
      have f185_ : S_.2.2.1 185 0 = S0_.2.2.1 185 0 := fr_arr hF_ rfl
      have ct9_ : ctp (cnd9 n_ (S0_.2.2.1 202 0)) S_ := ctp_fr hct_ hF_
      have b114_ : S_.1 13 0 114 ≤ 64 := (hI_.1 13 0 114 rfl).2
      have b106_ : 0 ≤ S_.1 13 0 106 ∧ S_.1 13 0 106 ≤ 2 := hI_.1 13 0 106 rfl
      have s9_ := i_shl1 (e := sz_) (by omega) (by omega)
      have w9_ := pw_le (n := sz_.toNat) (m := 3) (by omega)
      refine sm_T_go 3 (c1 := (29, [some (.inr (.inr (some (13, 0)))), some (.inl n_), some (.inl c_), some (.inl cu_), some (.inl sz_), some (.inl o_), some (.inl tu_), none], [.inl sz_, .inl 1, .inl tu_], S_)) rfl ?_
      refine sm_T_bin (w := (i_shl 1 sz_)) rfl rfl ?_ -- pc_ 29
      refine sm_T_br (a := 3) (z := 84) rfl (fun cx1_ => ?_) (fun cx1_ => ?_)
      · have cx1_ : (i_shl 1 sz_) ≤ tu_ := of_decide_eq_true cx1_
        refine sm_T_inc (a := 5) (z := 1) (v := o_) (w := o_ + 1) rfl rfl (by omega) (by omega) (by omega) ?_ -- pc_ 114
        refine sm_T_go 1 (c1 := (3, [some (.inr (.inr (some (13, 0)))), some (.inl n_), some (.inl c_), some (.inl cu_), some (.inl sz_), some (.inl (o_ + 1)), some (.inl tu_), none], [], S_)) rfl ?_
        refine sm_T_wk [some (.inr (.inr (some (13, 0)))), some (.inl n_), some (.inl c_), some (.inl cu_), some (.inl sz_), some (.inl (o_ + 1)), none, none] (by exact ⟨rfl, rfl, rfl, rfl, rfl, rfl, trivial⟩) ?_
        refine ih_.1 (o_ + 1) S_ hI_ hF_ ⟨?_, ?_, ?_, ?_, trivial⟩ ?_
        · omega
        · first | exact p105_.1 | exact p78_.1 | exact k0_
        · first | exact p105_.2.1 | exact p78_.2.1 | exact k1_
        · first | exact wf2_tr (wf2_tr k2_ p78_.2.2) p105_.2.2 | exact wf2_tr k2_ p105_.2.2 | exact wf2_tr k2_ p78_.2.2 | exact k2_
        · omega
      · have cx1_ : ¬ ((i_shl 1 sz_) ≤ tu_) := of_decide_eq_false cx1_
        have bx2_ : 0 ≤ S_.1 13 0 106 ∧ S_.1 13 0 106 ≤ 2 := hI_.1 13 0 106 rfl
        refine sm_T_go 5 (c1 := (43, [some (.inr (.inr (some (13, 0)))), some (.inl n_), some (.inl c_), some (.inl cu_), some (.inl sz_), some (.inl o_), some (.inl tu_), none], [.inl (S_.1 13 0 106), .inl 12, .inr (.inr (some (186, 0)))], S_)) rfl ?_
        refine sm_T_bin (w := 12 * (S_.1 13 0 106)) rfl (bi_mul (by omega) (by omega) (by omega)) ?_ -- pc_ 43
        refine sm_T_go 1 (c1 := (45, [some (.inr (.inr (some (13, 0)))), some (.inl n_), some (.inl c_), some (.inl cu_), some (.inl sz_), some (.inl o_), some (.inl tu_), none], [.inl c_, .inl (12 * (S_.1 13 0 106)), .inr (.inr (some (186, 0)))], S_)) rfl ?_
        refine sm_T_bin (w := 12 * (S_.1 13 0 106) + c_) rfl (bi_add (by omega) (by omega) (by omega)) ?_ -- pc_ 45
        refine sm_T_iald (n := 36) rfl rfl (by omega) (by omega) ?_
        have bx3_ : 0 ≤ S_.2.2.1 186 0 (12 * (S_.1 13 0 106) + c_).toNat ∧ S_.2.2.1 186 0 (12 * (S_.1 13 0 106) + c_).toNat ≤ 255 := hI_.2 186 0 _
        refine sm_T_go 3 (c1 := (53, [some (.inr (.inr (some (13, 0)))), some (.inl n_), some (.inl c_), some (.inl cu_), some (.inl sz_), some (.inl o_), some (.inl tu_), none], [.inl tu_, .inl o_, .inl sz_, .inl (S_.2.2.1 186 0 (12 * (S_.1 13 0 106) + c_).toNat)], S_)) rfl ?_
        refine sm_T_cal (d1 := 1) (Q1 := vq_405 (S_.2.2.1 186 0 (12 * (S_.1 13 0 106) + c_).toNat) sz_ o_ tu_ S_) rfl rfl (by decide) (vc_405 (S_.2.2.1 186 0 (12 * (S_.1 13 0 106) + c_).toNat) sz_ o_ tu_ S_ hI_ (by omega)) (fun u_ Sx4_ px7_ => ?_)
        obtain ⟨rfl, vx9_, rfl, px7_⟩ := px7_
        refine sm_T_go 5 (c1 := (65, [some (.inr (.inr (some (13, 0)))), some (.inl n_), some (.inl c_), some (.inl cu_), some (.inl sz_), some (.inl o_), some (.inl tu_), some (.inl vx9_)], [.inl cu_, .inr (.inr (some (215, 0))), .inl vx9_], S_)) rfl ?_
        refine sm_T_iald (n := 64) rfl rfl (by omega) (by omega) ?_
        have bx10_ : 0 ≤ S_.2.2.1 215 0 cu_.toNat ∧ S_.2.2.1 215 0 cu_.toNat ≤ 255 := hI_.2 215 0 _
        refine sm_T_br (a := 1) (z := 15) rfl (fun cx11_ => ?_) (fun cx11_ => ?_)
        · have cx11_ : vx9_ ≠ (S_.2.2.1 215 0 cu_.toNat) := of_decide_eq_true cx11_
          refine sm_T_go 4 (c1 := (88, [some (.inr (.inr (some (13, 0)))), some (.inl n_), some (.inl c_), some (.inl cu_), some (.inl sz_), some (.inl o_), some (.inl tu_), some (.inl vx9_)], [.inl cu_, .inr (.inr (some (215, 0))), .inl vx9_], S_)) rfl ?_
          refine sm_T_iald (n := 64) rfl rfl (by omega) (by omega) ?_
          refine sm_T_go 1 (c1 := (92, [some (.inr (.inr (some (13, 0)))), some (.inl n_), some (.inl c_), some (.inl cu_), some (.inl sz_), some (.inl o_), some (.inl tu_), some (.inl vx9_)], [.inl 255, .inl (S_.2.2.1 215 0 cu_.toNat), .inl vx9_], S_)) rfl ?_
          refine sm_T_bin (w := (i_xor (S_.2.2.1 215 0 cu_.toNat) 255)) rfl rfl ?_ -- pc_ 92
          have bx12_ := i_xor_n (S_.2.2.1 215 0 cu_.toNat) 255
          refine sm_T_br (a := 1) (z := 15) rfl (fun cx13_ => ?_) (fun cx13_ => ?_)
          · have cx13_ : vx9_ ≠ (i_xor (S_.2.2.1 215 0 cu_.toNat) 255) := of_decide_eq_true cx13_
            refine sm_T_inc (a := 6) (z := 1) (v := tu_) (w := tu_ + 1) rfl rfl (by omega) (by omega) (by omega) ?_ -- pc_ 108
            refine sm_T_go 1 (c1 := (24, [some (.inr (.inr (some (13, 0)))), some (.inl n_), some (.inl c_), some (.inl cu_), some (.inl sz_), some (.inl o_), some (.inl (tu_ + 1)), some (.inl vx9_)], [], S_)) rfl ?_
            refine sm_T_wk [some (.inr (.inr (some (13, 0)))), some (.inl n_), some (.inl c_), some (.inl cu_), some (.inl sz_), some (.inl o_), some (.inl (tu_ + 1)), none] (by exact ⟨rfl, rfl, rfl, rfl, rfl, rfl, rfl, trivial⟩) ?_
            refine ih_.2 o_ (tu_ + 1) S_ hI_ hF_ ⟨?_, ?_, ?_, ?_, trivial⟩ ?_
            · omega
            · first | exact p105_.1 | exact p78_.1 | exact k0_
            · first | exact p105_.2.1 | exact p78_.2.1 | exact k1_
            · first | exact wf2_tr (wf2_tr k2_ p78_.2.2) p105_.2.2 | exact wf2_tr k2_ p105_.2.2 | exact wf2_tr k2_ p78_.2.2 | exact k2_
            · omega
          · have cx13_ : ¬ (vx9_ ≠ (i_xor (S_.2.2.1 215 0 cu_.toNat) 255)) := of_decide_eq_false cx13_
            refine sm_T_go 7 (c1 := (105, [some (.inr (.inr (some (13, 0)))), some (.inl n_), some (.inl c_), some (.inl cu_), some (.inl sz_), some (.inl o_), some (.inl tu_), some (.inl vx9_)], [.inl tu_, .inl o_, .inl cu_, .inl c_, .inl 1, .inl n_, .inr (.inr (some (13, 0)))], S_)) rfl ?_
            refine sm_T_cal (d1 := 2) (Q1 := vq_406 n_ 1 c_ cu_ o_ tu_ F_ S_) rfl rfl (by decide) (vc_406 n_ 1 c_ cu_ o_ tu_ F_ S_ hI_ (by first | exact y160_ | exact f160_) (by omega) (by omega) (by first | (rw [y202_, f202_]; exact yct_) | (rw [f202_]; exact ct9_)) (by first | (rw [y204_, y185_, y106_, f204_, f185_, g106_]; exact hsz_) | (rw [f204_, f185_, g106_]; exact hsz_)) (by first | exact p78_.1 | exact k0_) (by first | exact p78_.2.1 | exact k1_) (by omega)) (fun u_ Sx14_ px17_ => ?_)
            obtain ⟨rfl, hIx15_, hFx16_, px17_⟩ := px17_
            have hFx18_ : ai_fr (sx_W vw_408) S0_ Sx14_ := ai_fr_tr hF_ (fr_le hFx16_ rfl)
            have ex19_ : Sx14_.1 13 0 106 = S_.1 13 0 106 := hFx16_.1 13 0 106 rfl
            have p105_ := px17_
            refine sm_T_inc (a := 6) (z := 1) (v := tu_) (w := tu_ + 1) rfl rfl (by omega) (by omega) (by omega) ?_ -- pc_ 108
            refine sm_T_go 1 (c1 := (24, [some (.inr (.inr (some (13, 0)))), some (.inl n_), some (.inl c_), some (.inl cu_), some (.inl sz_), some (.inl o_), some (.inl (tu_ + 1)), some (.inl vx9_)], [], Sx14_)) rfl ?_
            refine sm_T_wk [some (.inr (.inr (some (13, 0)))), some (.inl n_), some (.inl c_), some (.inl cu_), some (.inl sz_), some (.inl o_), some (.inl (tu_ + 1)), none] (by exact ⟨rfl, rfl, rfl, rfl, rfl, rfl, rfl, trivial⟩) ?_
            refine ih_.2 o_ (tu_ + 1) Sx14_ hIx15_ hFx18_ ⟨?_, ?_, ?_, ?_, trivial⟩ ?_
            · omega
            · first | exact p105_.1 | exact p78_.1 | exact k0_
            · first | exact p105_.2.1 | exact p78_.2.1 | exact k1_
            · first | exact wf2_tr (wf2_tr k2_ p78_.2.2) p105_.2.2 | exact wf2_tr k2_ p105_.2.2 | exact wf2_tr k2_ p78_.2.2 | exact k2_
            · omega
        · have cx11_ : ¬ (vx9_ ≠ (S_.2.2.1 215 0 cu_.toNat)) := of_decide_eq_false cx11_
          refine sm_T_go 7 (c1 := (78, [some (.inr (.inr (some (13, 0)))), some (.inl n_), some (.inl c_), some (.inl cu_), some (.inl sz_), some (.inl o_), some (.inl tu_), some (.inl vx9_)], [.inl tu_, .inl o_, .inl cu_, .inl c_, .inl 0, .inl n_, .inr (.inr (some (13, 0)))], S_)) rfl ?_
          refine sm_T_cal (d1 := 2) (Q1 := vq_406 n_ 0 c_ cu_ o_ tu_ F_ S_) rfl rfl (by decide) (vc_406 n_ 0 c_ cu_ o_ tu_ F_ S_ hI_ (by exact f160_) (by omega) (by omega) (by (rw [f202_]; exact ct9_)) (by (rw [f204_, f185_, g106_]; exact hsz_)) (by exact k0_) (by exact k1_) (by omega)) (fun u_ Sx20_ px23_ => ?_)
          obtain ⟨rfl, hIx21_, hFx22_, px23_⟩ := px23_
          have hFx24_ : ai_fr (sx_W vw_408) S0_ Sx20_ := ai_fr_tr hF_ (fr_le hFx22_ rfl)
          have ex25_ : Sx20_.1 13 0 106 = S_.1 13 0 106 := hFx22_.1 13 0 106 rfl
          have p78_ := px23_
          have y160_ : Sx20_.2.2.1 160 0 (Sx20_.1 13 0 105).toNat = F_ := by (rw [hFx22_.1 13 0 105 rfl, fr_arr (t := 160) (i := 0) hFx22_ rfl]; exact f160_)
          have y202_ : Sx20_.2.2.1 202 0 = S_.2.2.1 202 0 := fr_arr hFx22_ rfl
          have y204_ : Sx20_.2.2.1 204 0 = S_.2.2.1 204 0 := fr_arr hFx22_ rfl
          have y185_ : Sx20_.2.2.1 185 0 = S_.2.2.1 185 0 := fr_arr hFx22_ rfl
          have y106_ := hFx22_.1 13 0 106 rfl
          have y114_ := hFx22_.1 13 0 114 rfl
          have yct_ : ctp (cnd9 n_ (S0_.2.2.1 202 0)) Sx20_ := ctp_fr ct9_ hFx22_
          refine sm_T_go 4 (c1 := (88, [some (.inr (.inr (some (13, 0)))), some (.inl n_), some (.inl c_), some (.inl cu_), some (.inl sz_), some (.inl o_), some (.inl tu_), some (.inl vx9_)], [.inl cu_, .inr (.inr (some (215, 0))), .inl vx9_], Sx20_)) rfl ?_
          refine sm_T_iald (n := 64) rfl rfl (by omega) (by omega) ?_
          have bx26_ : 0 ≤ Sx20_.2.2.1 215 0 cu_.toNat ∧ Sx20_.2.2.1 215 0 cu_.toNat ≤ 255 := hIx21_.2 215 0 _
          refine sm_T_go 1 (c1 := (92, [some (.inr (.inr (some (13, 0)))), some (.inl n_), some (.inl c_), some (.inl cu_), some (.inl sz_), some (.inl o_), some (.inl tu_), some (.inl vx9_)], [.inl 255, .inl (Sx20_.2.2.1 215 0 cu_.toNat), .inl vx9_], Sx20_)) rfl ?_
          refine sm_T_bin (w := (i_xor (Sx20_.2.2.1 215 0 cu_.toNat) 255)) rfl rfl ?_ -- pc_ 92
          have bx27_ := i_xor_n (Sx20_.2.2.1 215 0 cu_.toNat) 255
          refine sm_T_br (a := 1) (z := 15) rfl (fun cx28_ => ?_) (fun cx28_ => ?_)
          · have cx28_ : vx9_ ≠ (i_xor (Sx20_.2.2.1 215 0 cu_.toNat) 255) := of_decide_eq_true cx28_
            refine sm_T_inc (a := 6) (z := 1) (v := tu_) (w := tu_ + 1) rfl rfl (by omega) (by omega) (by omega) ?_ -- pc_ 108
            refine sm_T_go 1 (c1 := (24, [some (.inr (.inr (some (13, 0)))), some (.inl n_), some (.inl c_), some (.inl cu_), some (.inl sz_), some (.inl o_), some (.inl (tu_ + 1)), some (.inl vx9_)], [], Sx20_)) rfl ?_
            refine sm_T_wk [some (.inr (.inr (some (13, 0)))), some (.inl n_), some (.inl c_), some (.inl cu_), some (.inl sz_), some (.inl o_), some (.inl (tu_ + 1)), none] (by exact ⟨rfl, rfl, rfl, rfl, rfl, rfl, rfl, trivial⟩) ?_
            refine ih_.2 o_ (tu_ + 1) Sx20_ hIx21_ hFx24_ ⟨?_, ?_, ?_, ?_, trivial⟩ ?_
            · omega
            · first | exact p105_.1 | exact p78_.1 | exact k0_
            · first | exact p105_.2.1 | exact p78_.2.1 | exact k1_
            · first | exact wf2_tr (wf2_tr k2_ p78_.2.2) p105_.2.2 | exact wf2_tr k2_ p105_.2.2 | exact wf2_tr k2_ p78_.2.2 | exact k2_
            · omega
          · have cx28_ : ¬ (vx9_ ≠ (i_xor (Sx20_.2.2.1 215 0 cu_.toNat) 255)) := of_decide_eq_false cx28_
            refine sm_T_go 7 (c1 := (105, [some (.inr (.inr (some (13, 0)))), some (.inl n_), some (.inl c_), some (.inl cu_), some (.inl sz_), some (.inl o_), some (.inl tu_), some (.inl vx9_)], [.inl tu_, .inl o_, .inl cu_, .inl c_, .inl 1, .inl n_, .inr (.inr (some (13, 0)))], Sx20_)) rfl ?_
            refine sm_T_cal (d1 := 2) (Q1 := vq_406 n_ 1 c_ cu_ o_ tu_ F_ Sx20_) rfl rfl (by decide) (vc_406 n_ 1 c_ cu_ o_ tu_ F_ Sx20_ hIx21_ (by first | exact y160_ | exact f160_) (by omega) (by omega) (by first | (rw [y202_, f202_]; exact yct_) | (rw [f202_]; exact ct9_)) (by first | (rw [y204_, y185_, y106_, f204_, f185_, g106_]; exact hsz_) | (rw [f204_, f185_, g106_]; exact hsz_)) (by first | exact p78_.1 | exact k0_) (by first | exact p78_.2.1 | exact k1_) (by omega)) (fun u_ Sx29_ px32_ => ?_)
            obtain ⟨rfl, hIx30_, hFx31_, px32_⟩ := px32_
            have hFx33_ : ai_fr (sx_W vw_408) S0_ Sx29_ := ai_fr_tr hFx24_ (fr_le hFx31_ rfl)
            have p105_ := px32_
            refine sm_T_inc (a := 6) (z := 1) (v := tu_) (w := tu_ + 1) rfl rfl (by omega) (by omega) (by omega) ?_ -- pc_ 108
            refine sm_T_go 1 (c1 := (24, [some (.inr (.inr (some (13, 0)))), some (.inl n_), some (.inl c_), some (.inl cu_), some (.inl sz_), some (.inl o_), some (.inl (tu_ + 1)), some (.inl vx9_)], [], Sx29_)) rfl ?_
            refine sm_T_wk [some (.inr (.inr (some (13, 0)))), some (.inl n_), some (.inl c_), some (.inl cu_), some (.inl sz_), some (.inl o_), some (.inl (tu_ + 1)), none] (by exact ⟨rfl, rfl, rfl, rfl, rfl, rfl, rfl, trivial⟩) ?_
            refine ih_.2 o_ (tu_ + 1) Sx29_ hIx30_ hFx33_ ⟨?_, ?_, ?_, ?_, trivial⟩ ?_
            · omega
            · first | exact p105_.1 | exact p78_.1 | exact k0_
            · first | exact p105_.2.1 | exact p78_.2.1 | exact k1_
            · first | exact wf2_tr (wf2_tr k2_ p78_.2.2) p105_.2.2 | exact wf2_tr k2_ p105_.2.2 | exact wf2_tr k2_ p78_.2.2 | exact k2_
            · omega
set_option maxHeartbeats 2000000 in
set_option maxRecDepth 20000 in
theorem vc_408 {sc_ : Nat × (Nat → Int)} (n_ : Int) (c_ : Int) (cu_ : Int) (sz_ : Int) (F_ : Int) (S0_ : sm_S) (hI_ : gi S0_) (hf_ : S0_.2.2.1 160 0 (S0_.1 13 0 105).toNat = F_) (hn_ : 1 ≤ F_ ∧ F_ ≤ n_ ∧ n_ ≤ 1012) (hh_ : 0 ≤ c_ ∧ c_ ≤ 11 ∧ 0 ≤ cu_ ∧ cu_ < S0_.1 13 0 114 ∧ 1 ≤ sz_ ∧ sz_ ≤ 3) (hct_ : ctp (cnd9 n_ (S0_.2.2.1 202 0)) S0_) (hsz_ : S0_.2.2.1 204 0 cu_.toNat = S0_.2.2.1 185 0 (12 * S0_.1 13 0 106 + c_).toNat) (hw0_ : wyc F_ n_ S0_ (2 * n_)) (hw1_ : wyc F_ n_ S0_ (2 * n_ + 1)) : sm_T (mt_P sc_) 3 408 (0, [some (.inr (.inr (some (13, 0)))), some (.inl n_), some (.inl c_), some (.inl cu_), some (.inl sz_), none, none, none], [], S0_) (fun ro9_ => ∃ u_ S1_, ro9_ = (.inl u_, S1_, 0) ∧ vq_408 n_ c_ cu_ sz_ F_ S0_ u_ S1_) := by
  have hF_ : ai_fr (sx_W vw_408) S0_ S0_ := ai_fr_rf
  refine sm_T_go 2 (c1 := (3, [some (.inr (.inr (some (13, 0)))), some (.inl n_), some (.inl c_), some (.inl cu_), some (.inl sz_), some (.inl 0), none, none], [], S0_)) rfl ?_
  refine (vl_408 n_ c_ cu_ sz_ F_ S0_ hf_ hn_ hh_ hct_ hsz_ hw0_ hw1_ _).1 0 S0_ hI_ hF_ ⟨?_, ?_, ?_, ?_, trivial⟩ (Nat.lt_succ_self _)
  · omega
  · exact hw0_
  · exact hw1_
  · exact wf2_rf

/-- what making a_ literal costs, and how_ -/
def ned (S_ : sm_S) (w_ o_ : Int) : Prop := (S_.2.2.1 211 0 w_.toNat = 1 ∧ S_.2.2.1 206 0 o_.toNat + S_.1 13 0 108 < S_.2.2.1 206 0 w_.toNat ∧ S_.2.2.1 210 0 w_.toNat = S_.2.2.1 206 0 o_.toNat + S_.1 13 0 108) ∨ (S_.2.2.1 211 0 w_.toNat = 0 ∧ S_.2.2.1 210 0 w_.toNat = S_.2.2.1 206 0 w_.toNat)
def wok2 (F_ n_ : Int) (S_ : sm_S) : Prop := wyc F_ n_ S_ (2 * n_) ∧ wyc F_ n_ S_ (2 * n_ + 1) ∧ ned S_ (2 * n_) (2 * n_ + 1) ∧ ned S_ (2 * n_ + 1) (2 * n_)
def wf3 (n_ : Int) (S_ S'_ : sm_S) : Prop := wf2 n_ S_ S'_ ∧ ∀ j_, (j_ < 2 * n_.toNat ∨ 2 * n_.toNat + 2 ≤ j_) → S'_.2.2.1 210 0 j_ = S_.2.2.1 210 0 j_ ∧ S'_.2.2.1 211 0 j_ = S_.2.2.1 211 0 j_
def wal9 (F_ N_ : Int) (S_ : sm_S) : Prop := ∀ n_ : Int, F_ ≤ n_ → n_ < N_ → S_.2.2.1 202 0 n_.toNat = 1 → wok2 F_ n_ S_
theorem wok2_cg {F_ n_ m_ : Int} {S_ S'_ : sm_S} (hI_ : gi S'_) (h_ : wok2 F_ m_ S_) (g_ : wf3 n_ S_ S'_) (hm_ : 0 ≤ m_) (hn_ : m_ < n_) (e5_ : S'_.2.2.1 185 0 = S_.2.2.1 185 0) (e106_ : S'_.1 13 0 106 = S_.1 13 0 106) (e108_ : S'_.1 13 0 108 = S_.1 13 0 108) (e2_ : S'_.2.2.1 202 0 = S_.2.2.1 202 0) (e3_ : S'_.2.2.1 203 0 = S_.2.2.1 203 0) : wok2 F_ m_ S'_ := by
  have ec : ∀ x_ t_ : Int, 1 ≤ x_ → x_ < m_ → 0 ≤ t_ → t_ ≤ 1 → cst F_ S'_ x_ t_ = cst F_ S_ x_ t_ := fun x_ t_ a_ b_ c_ d_ => by
    unfold cst
    rw [e3_, e108_, (g_.2 (2 * x_ + t_).toNat (by omega)).1]
  have q_ : ∀ l_ : Int, l_ = 2 * m_ ∨ l_ = 2 * m_ + 1 → wyc F_ m_ S_ l_ → wyc F_ m_ S'_ l_ := fun l_ hl_ k_ => by
    have w_ := g_.1.1 l_.toNat (by omega)
    exact wyc_cg hI_ k_ (by omega) w_.1 w_.2.1 w_.2.2 (fun k_ k0_ k1_ => g_.1.2 _ (by omega)) e5_ e106_ e2_ ec
  have r_ : ∀ l_ o_ : Int, (l_ = 2 * m_ ∨ l_ = 2 * m_ + 1) → (o_ = 2 * m_ ∨ o_ = 2 * m_ + 1) → ned S_ l_ o_ → ned S'_ l_ o_ := fun l_ o_ hl_ ho_ k_ => by
    unfold ned
    rw [(g_.2 l_.toNat (by omega)).1, (g_.2 l_.toNat (by omega)).2, (g_.1.1 l_.toNat (by omega)).1, (g_.1.1 o_.toNat (by omega)).1, e108_]
    exact k_
  exact ⟨q_ _ (Or.inl rfl) h_.1, q_ _ (Or.inr rfl) h_.2.1, r_ _ _ (Or.inl rfl) (Or.inr rfl) h_.2.2.1, r_ _ _ (Or.inr rfl) (Or.inl rfl) h_.2.2.2⟩
/-! M_.findWays -/
def vw_407 : sx_Wl := ([(13, 114), (13, 123), (13, 127)], [204, 205, 206, 207, 208, 209, 210, 211, 212, 213, 214, 215], [])
def vq_407 (n_ : Int) (F_ : Int) (N_ : Int) (S0_ : sm_S) (u_ : Option sm_V) (S1_ : sm_S) : Prop := u_ = none ∧ gi S1_ ∧ ai_fr (sx_W vw_407) S0_ S1_ ∧ (wok2 F_ n_ S1_ ∧ wf3 n_ S0_ S1_)
set_option maxHeartbeats 4000000 in
set_option maxRecDepth 20000 in
theorem vl_407 {sc_ : Nat × (Nat → Int)} (n_ : Int) (F_ : Int) (N_ : Int) (S0_ : sm_S) (hf_ : S0_.2.2.1 160 0 (S0_.1 13 0 105).toNat = F_) (hn_ : 1 ≤ F_ ∧ F_ ≤ n_ ∧ n_ < N_ ∧ N_ ≤ 1013) (hw_ : S0_.2.2.1 202 0 n_.toNat = 1) (hl_ : lgn F_ N_ S0_) : ∀ nn_ : Nat, (∀ (u_ : Int) (S_ : sm_S), gi S_ → ai_fr (sx_W vw_407) S0_ S_ → ((0 ≤ u_ ∧ u_ ≤ 64) ∧ (wyc F_ n_ S_ (2 * n_)) ∧ (wyc F_ n_ S_ (2 * n_ + 1)) ∧ (wf2 n_ S0_ S_) ∧ (ctp (cnd9 n_ (S0_.2.2.1 202 0)) S_) ∧ (S_.2.2.1 210 0 = S0_.2.2.1 210 0 ∧ S_.2.2.1 211 0 = S0_.2.2.1 211 0) ∧ True) → ((90000 - u_).toNat) < nn_ → sm_T (mt_P sc_) 4 407 (31, [some (.inr (.inr (some (13, 0)))), some (.inl n_), some (.inl u_), none, none], [], S_) (fun ro9_ => ∃ u_ S1_, ro9_ = (.inl u_, S1_, 0) ∧ vq_407 n_ F_ N_ S0_ u_ S1_)) ∧ (∀ (c_ : Int) (S_ : sm_S), gi S_ → ai_fr (sx_W vw_407) S0_ S_ → ((0 ≤ c_ ∧ c_ ≤ 12) ∧ (wyc F_ n_ S_ (2 * n_)) ∧ (wyc F_ n_ S_ (2 * n_ + 1)) ∧ (wf2 n_ S0_ S_) ∧ (ctp (cnd9 n_ (S0_.2.2.1 202 0)) S_) ∧ (S_.2.2.1 210 0 = S0_.2.2.1 210 0 ∧ S_.2.2.1 211 0 = S0_.2.2.1 211 0) ∧ True) → ((1000 * (50 - c_) + 900).toNat) < nn_ → sm_T (mt_P sc_) 4 407 (59, [some (.inr (.inr (some (13, 0)))), some (.inl n_), some (.inl c_), none, none], [], S_) (fun ro9_ => ∃ u_ S1_, ro9_ = (.inl u_, S1_, 0) ∧ vq_407 n_ F_ N_ S0_ u_ S1_)) ∧ (∀ (c_ : Int) (sz_ : Int) (u_ : Int) (S_ : sm_S), gi S_ → ai_fr (sx_W vw_407) S0_ S_ → ((0 ≤ c_ ∧ c_ ≤ 11 ∧ 0 ≤ u_ ∧ u_ ≤ 64 ∧ sz_ = S_.2.2.1 185 0 (12 * S_.1 13 0 106 + c_).toNat) ∧ (wyc F_ n_ S_ (2 * n_)) ∧ (wyc F_ n_ S_ (2 * n_ + 1)) ∧ (wf2 n_ S0_ S_) ∧ (ctp (cnd9 n_ (S0_.2.2.1 202 0)) S_) ∧ (S_.2.2.1 210 0 = S0_.2.2.1 210 0 ∧ S_.2.2.1 211 0 = S0_.2.2.1 211 0) ∧ True) → ((1000 * (50 - c_) + 800 - u_).toNat) < nn_ → sm_T (mt_P sc_) 4 407 (90, [some (.inr (.inr (some (13, 0)))), some (.inl n_), some (.inl c_), some (.inl sz_), some (.inl u_)], [], S_) (fun ro9_ => ∃ u_ S1_, ro9_ = (.inl u_, S1_, 0) ∧ vq_407 n_ F_ N_ S0_ u_ S1_)) ∧ (∀ (t_ : Int) (S_ : sm_S), gi S_ → ai_fr (sx_W vw_407) S0_ S_ → ((0 ≤ t_ ∧ t_ ≤ 2) ∧ (wyc F_ n_ S_ (2 * n_) ∧ wyc F_ n_ S_ (2 * n_ + 1) ∧ ∀ s9_ : Int, 0 ≤ s9_ → s9_ < t_ → ned S_ (2 * n_ + s9_) (2 * n_ + 1 - s9_)) ∧ (wf3 n_ S0_ S_) ∧ True) → ((500 - t_).toNat) < nn_ → sm_T (mt_P sc_) 4 407 (133, [some (.inr (.inr (some (13, 0)))), some (.inl n_), some (.inl t_), none, none], [], S_) (fun ro9_ => ∃ u_ S1_, ro9_ = (.inl u_, S1_, 0) ∧ vq_407 n_ F_ N_ S0_ u_ S1_)) := by
  intro nn_
  induction nn_ with
  | zero => exact ⟨fun _ _ _ _ _ h_ => absurd h_ (Nat.not_lt_zero _), fun _ _ _ _ _ h_ => absurd h_ (Nat.not_lt_zero _), fun _ _ _ _ _ _ _ h_ => absurd h_ (Nat.not_lt_zero _), fun _ _ _ _ _ h_ => absurd h_ (Nat.not_lt_zero _)⟩
  | succ nn_ ih_ =>
    refine ⟨?_, ?_, ?_, ?_⟩
    · rintro u_ S_ hI_ hF_ ⟨h0_, k0_, k1_, k2_, hct_, h4_, -⟩ hm_
      have f160_ : S_.2.2.1 160 0 (S_.1 13 0 105).toNat = F_ := by (rw [hF_.1 13 0 105 rfl, fr_arr (t := 160) (i := 0) hF_ rfl]; exact hf_)
      have f202_ : S_.2.2.1 202 0 = S0_.2.2.1 202 0 := fr_arr hF_ rfl
      have b114_ : 0 ≤ S_.1 13 0 114 ∧ S_.1 13 0 114 ≤ 64 := hI_.1 13 0 114 rfl
      have b106_ : 0 ≤ S_.1 13 0 106 ∧ S_.1 13 0 106 ≤ 2 := hI_.1 13 0 106 rfl
      have bx1_ : 0 ≤ S_.1 13 0 114 ∧ S_.1 13 0 114 ≤ 64 := hI_.1 13 0 114 rfl
      refine sm_T_go 3 (c1 := (36, [some (.inr (.inr (some (13, 0)))), some (.inl n_), some (.inl u_), none, none], [.inl (S_.1 13 0 114), .inl u_], S_)) rfl ?_
      refine sm_T_br (a := 3) (z := 21) rfl (fun cx2_ => ?_) (fun cx2_ => ?_)
      · have cx2_ : (S_.1 13 0 114) ≤ u_ := of_decide_eq_true cx2_
        refine sm_T_go 2 (c1 := (59, [some (.inr (.inr (some (13, 0)))), some (.inl n_), some (.inl 0), none, none], [], S_)) rfl ?_
        refine ih_.2.1 0 S_ hI_ hF_ ⟨?_, ?_, ?_, ?_, ?_, ?_, trivial⟩ ?_
        · omega
        · exact k0_
        · exact k1_
        · exact k2_
        · exact hct_
        · exact h4_
        · omega
      · have cx2_ : ¬ ((S_.1 13 0 114) ≤ u_) := of_decide_eq_false cx2_
        refine sm_T_go 6 (c1 := (47, [some (.inr (.inr (some (13, 0)))), some (.inl n_), some (.inl u_), none, none], [.inl u_, .inl n_, .inr (.inr (some (13, 0))), .inl u_, .inr (.inr (some (215, 0)))], S_)) rfl ?_
        refine sm_T_cal (d1 := 1) (Q1 := vq_402 n_ u_ S_) rfl rfl (by decide) (vc_402 n_ u_ S_ hI_ (by omega) (by omega)) (fun u_ Sx3_ px6_ => ?_)
        obtain ⟨vx8_, rfl, hIx4_, hFx5_, px6_⟩ := px6_
        have hFx7_ : ai_fr (sx_W vw_407) S0_ Sx3_ := ai_fr_tr hF_ (fr_le hFx5_ rfl)
        have ex9_ : Sx3_.1 13 0 114 = S_.1 13 0 114 := hFx5_.1 13 0 114 rfl
        have e47_ := px6_
        have w47_ : ∀ l9_ : Int, 0 ≤ l9_ → wyc F_ n_ S_ l9_ → wyc F_ n_ Sx3_ l9_ := fun l9_ u0_ u1_ => wyc_fr hIx4_ u1_ u0_ hFx5_
        have c47_ : ctp (cnd9 n_ (S0_.2.2.1 202 0)) Sx3_ := ctp_fr hct_ hFx5_
        have f47_ : wf2 n_ S_ Sx3_ := wf2_fr hFx5_
        have y47_ : Sx3_.2.2.1 210 0 = S_.2.2.1 210 0 := fr_arr hFx5_ rfl
        have z47_ : Sx3_.2.2.1 211 0 = S_.2.2.1 211 0 := fr_arr hFx5_ rfl
        refine sm_T_iast (n := 64) rfl rfl (by omega) (by omega) ?_
        have hIx10_ : gi (sm_aI Sx3_ 215 0 u_.toNat vx8_) := gi_aI hIx4_ (show 0 ≤ vx8_ ∧ vx8_ ≤ 255 from ⟨by omega, by omega⟩)
        have hFx11_ : ai_fr (sx_W vw_407) S0_ (sm_aI Sx3_ 215 0 u_.toNat vx8_) := ai_fr_tr hFx7_ (ai_fr_aI rfl)
        refine sm_T_inc (a := 2) (z := 1) (v := u_) (w := u_ + 1) rfl rfl (by omega) (by omega) (by omega) ?_ -- pc_ 51
        refine sm_T_go 1 (c1 := (31, [some (.inr (.inr (some (13, 0)))), some (.inl n_), some (.inl (u_ + 1)), none, none], [], sm_aI Sx3_ 215 0 u_.toNat vx8_)) rfl ?_
        refine ih_.1 (u_ + 1) (sm_aI Sx3_ 215 0 u_.toNat vx8_) hIx10_ hFx11_ ⟨?_, ?_, ?_, ?_, ?_, ?_, trivial⟩ ?_
        · omega
        · exact wyc_fr (w_ := ([], [215], [])) hIx10_ (w47_ _ (by omega) k0_) (by omega) (ai_fr_aI rfl)
        · exact wyc_fr (w_ := ([], [215], [])) hIx10_ (w47_ _ (by omega) k1_) (by omega) (ai_fr_aI rfl)
        · exact wf2_tr (wf2_tr k2_ f47_) (wf2_fr (w_ := ([], [215], [])) (ai_fr_aI rfl))
        · exact ctp_fr (w_ := ([], [215], [])) c47_ (ai_fr_aI rfl)
        · exact ⟨by (funext j9_; (try simp only [rd_eq, rd_ne, rf_eq, rf_nk, rf_nt, rd_fa, rd_af, rd_fl, rd_al, rd_lf, rd_la, rd_leq, rd_lne, rd_fr, rd_ar, ne_eq, Nat.reduceEqDiff, not_false_eq_true]); rw [y47_, h4_.1]), by (funext j9_; (try simp only [rd_eq, rd_ne, rf_eq, rf_nk, rf_nt, rd_fa, rd_af, rd_fl, rd_al, rd_lf, rd_la, rd_leq, rd_lne, rd_fr, rd_ar, ne_eq, Nat.reduceEqDiff, not_false_eq_true]); rw [z47_, h4_.2])⟩
        · omega
    · rintro c_ S_ hI_ hF_ ⟨h0_, k0_, k1_, k2_, hct_, h4_, -⟩ hm_
      have f160_ : S_.2.2.1 160 0 (S_.1 13 0 105).toNat = F_ := by (rw [hF_.1 13 0 105 rfl, fr_arr (t := 160) (i := 0) hF_ rfl]; exact hf_)
      have f202_ : S_.2.2.1 202 0 = S0_.2.2.1 202 0 := fr_arr hF_ rfl
      have b114_ : 0 ≤ S_.1 13 0 114 ∧ S_.1 13 0 114 ≤ 64 := hI_.1 13 0 114 rfl
      have b106_ : 0 ≤ S_.1 13 0 106 ∧ S_.1 13 0 106 ≤ 2 := hI_.1 13 0 106 rfl
      have bx1_ : 0 ≤ S_.1 13 0 106 ∧ S_.1 13 0 106 ≤ 2 := hI_.1 13 0 106 rfl
      refine sm_T_go 5 (c1 := (68, [some (.inr (.inr (some (13, 0)))), some (.inl n_), some (.inl c_), none, none], [.inl (S_.1 13 0 106), .inr (.inr (some (184, 0))), .inl c_], S_)) rfl ?_
      refine sm_T_iald (n := 3) rfl rfl (by omega) (by omega) ?_
      have bx2_ : 0 ≤ S_.2.2.1 184 0 (S_.1 13 0 106).toNat ∧ S_.2.2.1 184 0 (S_.1 13 0 106).toNat ≤ 12 := hI_.2 184 0 _
      refine sm_T_br (a := 3) (z := 62) rfl (fun cx3_ => ?_) (fun cx3_ => ?_)
      · have cx3_ : (S_.2.2.1 184 0 (S_.1 13 0 106).toNat) ≤ c_ := of_decide_eq_true cx3_
        refine sm_T_go 2 (c1 := (133, [some (.inr (.inr (some (13, 0)))), some (.inl n_), some (.inl 0), none, none], [], S_)) rfl ?_
        refine ih_.2.2.2 0 S_ hI_ hF_ ⟨?_, ?_, ?_, trivial⟩ ?_
        · omega
        · exact ⟨k0_, k1_, fun s9_ u0_ u1_ => absurd u1_ (by omega)⟩
        · exact ⟨k2_, fun j9_ _ => ⟨congrFun h4_.1 j9_, congrFun h4_.2 j9_⟩⟩
        · omega
      · have cx3_ : ¬ ((S_.2.2.1 184 0 (S_.1 13 0 106).toNat) ≤ c_) := of_decide_eq_false cx3_
        refine sm_T_go 5 (c1 := (82, [some (.inr (.inr (some (13, 0)))), some (.inl n_), some (.inl c_), none, none], [.inl (S_.1 13 0 106), .inl 12, .inr (.inr (some (185, 0)))], S_)) rfl ?_
        refine sm_T_bin (w := 12 * (S_.1 13 0 106)) rfl (bi_mul (by omega) (by omega) (by omega)) ?_ -- pc_ 82
        refine sm_T_go 1 (c1 := (84, [some (.inr (.inr (some (13, 0)))), some (.inl n_), some (.inl c_), none, none], [.inl c_, .inl (12 * (S_.1 13 0 106)), .inr (.inr (some (185, 0)))], S_)) rfl ?_
        refine sm_T_bin (w := 12 * (S_.1 13 0 106) + c_) rfl (bi_add (by omega) (by omega) (by omega)) ?_ -- pc_ 84
        refine sm_T_iald (n := 36) rfl rfl (by omega) (by omega) ?_
        have bx4_ : 0 ≤ S_.2.2.1 185 0 (12 * (S_.1 13 0 106) + c_).toNat ∧ S_.2.2.1 185 0 (12 * (S_.1 13 0 106) + c_).toNat ≤ 3 := hI_.2 185 0 _
        refine sm_T_go 3 (c1 := (90, [some (.inr (.inr (some (13, 0)))), some (.inl n_), some (.inl c_), some (.inl (S_.2.2.1 185 0 (12 * (S_.1 13 0 106) + c_).toNat)), some (.inl 0)], [], S_)) rfl ?_
        refine ih_.2.2.1 c_ (S_.2.2.1 185 0 (12 * (S_.1 13 0 106) + c_).toNat) 0 S_ hI_ hF_ ⟨?_, ?_, ?_, ?_, ?_, ?_, trivial⟩ ?_
        · omega
        · exact k0_
        · exact k1_
        · exact k2_
        · exact hct_
        · exact h4_
        · omega
    · rintro c_ sz_ u_ S_ hI_ hF_ ⟨h0_, k0_, k1_, k2_, hct_, h4_, -⟩ hm_
      have f160_ : S_.2.2.1 160 0 (S_.1 13 0 105).toNat = F_ := by (rw [hF_.1 13 0 105 rfl, fr_arr (t := 160) (i := 0) hF_ rfl]; exact hf_)
      have f202_ : S_.2.2.1 202 0 = S0_.2.2.1 202 0 := fr_arr hF_ rfl
      have b114_ : 0 ≤ S_.1 13 0 114 ∧ S_.1 13 0 114 ≤ 64 := hI_.1 13 0 114 rfl
      have b106_ : 0 ≤ S_.1 13 0 106 ∧ S_.1 13 0 106 ≤ 2 := hI_.1 13 0 106 rfl
      have bx1_ : 0 ≤ S_.1 13 0 114 ∧ S_.1 13 0 114 ≤ 64 := hI_.1 13 0 114 rfl
      refine sm_T_go 3 (c1 := (96, [some (.inr (.inr (some (13, 0)))), some (.inl n_), some (.inl c_), some (.inl sz_), some (.inl u_)], [.inl (S_.1 13 0 114), .inl u_], S_)) rfl ?_
      refine sm_T_br (a := 3) (z := 29) rfl (fun cx2_ => ?_) (fun cx2_ => ?_)
      · have cx2_ : (S_.1 13 0 114) ≤ u_ := of_decide_eq_true cx2_
        refine sm_T_inc (a := 2) (z := 1) (v := c_) (w := c_ + 1) rfl rfl (by omega) (by omega) (by omega) ?_ -- pc_ 125
        refine sm_T_go 1 (c1 := (59, [some (.inr (.inr (some (13, 0)))), some (.inl n_), some (.inl (c_ + 1)), some (.inl sz_), some (.inl u_)], [], S_)) rfl ?_
        refine sm_T_wk [some (.inr (.inr (some (13, 0)))), some (.inl n_), some (.inl (c_ + 1)), none, none] (by exact ⟨rfl, rfl, rfl, trivial⟩) ?_
        refine ih_.2.1 (c_ + 1) S_ hI_ hF_ ⟨?_, ?_, ?_, ?_, ?_, ?_, trivial⟩ ?_
        · omega
        · exact k0_
        · exact k1_
        · exact k2_
        · exact hct_
        · exact h4_
        · omega
      · have cx2_ : ¬ ((S_.1 13 0 114) ≤ u_) := of_decide_eq_false cx2_
        refine sm_T_go 3 (c1 := (105, [some (.inr (.inr (some (13, 0)))), some (.inl n_), some (.inl c_), some (.inl sz_), some (.inl u_)], [.inl u_, .inr (.inr (some (204, 0)))], S_)) rfl ?_
        refine sm_T_iald (n := 64) rfl rfl (by omega) (by omega) ?_
        have bx3_ : 0 ≤ S_.2.2.1 204 0 u_.toNat ∧ S_.2.2.1 204 0 u_.toNat ≤ 3 := hI_.2 204 0 _
        refine sm_T_go 1 (c1 := (107, [some (.inr (.inr (some (13, 0)))), some (.inl n_), some (.inl c_), some (.inl sz_), some (.inl u_)], [.inl sz_, .inl (S_.2.2.1 204 0 u_.toNat)], S_)) rfl ?_
        refine sm_T_br (a := 1) (z := 12) rfl (fun cx4_ => ?_) (fun cx4_ => ?_)
        · have cx4_ : (S_.2.2.1 204 0 u_.toNat) ≠ sz_ := of_decide_eq_true cx4_
          refine sm_T_inc (a := 4) (z := 1) (v := u_) (w := u_ + 1) rfl rfl (by omega) (by omega) (by omega) ?_ -- pc_ 119
          refine sm_T_go 1 (c1 := (90, [some (.inr (.inr (some (13, 0)))), some (.inl n_), some (.inl c_), some (.inl sz_), some (.inl (u_ + 1))], [], S_)) rfl ?_
          refine ih_.2.2.1 c_ sz_ (u_ + 1) S_ hI_ hF_ ⟨?_, ?_, ?_, ?_, ?_, ?_, trivial⟩ ?_
          · first | omega | (rw [x116_, t116_]; omega)
          · first | exact p116_.1 | exact k0_
          · first | exact p116_.2.1 | exact k1_
          · first | exact wf2_tr k2_ p116_.2.2 | exact k2_
          · first | exact c116_ | exact hct_
          · first | exact ⟨y116_.trans h4_.1, z116_.trans h4_.2⟩ | exact h4_
          · omega
        · have cx4_ : ¬ ((S_.2.2.1 204 0 u_.toNat) ≠ sz_) := of_decide_eq_false cx4_
          have s9_ := (hct_ u_ (by omega) (by omega)).1
          have s8_ : S_.2.2.1 204 0 u_.toNat ≤ 3 := (hI_.2 204 0 _).2
          refine sm_T_go 5 (c1 := (116, [some (.inr (.inr (some (13, 0)))), some (.inl n_), some (.inl c_), some (.inl sz_), some (.inl u_)], [.inl sz_, .inl u_, .inl c_, .inl n_, .inr (.inr (some (13, 0)))], S_)) rfl ?_
          refine sm_T_cal (d1 := 3) (Q1 := vq_408 n_ c_ u_ sz_ F_ S_) rfl rfl (by decide) (vc_408 n_ c_ u_ sz_ F_ S_ hI_ (by exact f160_) (by omega) (by omega) (by (rw [f202_]; exact hct_)) (by omega) (by exact k0_) (by exact k1_)) (fun u_ Sx5_ px8_ => ?_)
          obtain ⟨rfl, hIx6_, hFx7_, px8_⟩ := px8_
          have hFx9_ : ai_fr (sx_W vw_407) S0_ Sx5_ := ai_fr_tr hF_ (fr_le hFx7_ rfl)
          have ex10_ : Sx5_.1 13 0 114 = S_.1 13 0 114 := hFx7_.1 13 0 114 rfl
          have p116_ := px8_
          have c116_ : ctp (cnd9 n_ (S0_.2.2.1 202 0)) Sx5_ := ctp_fr hct_ hFx7_
          have y116_ : Sx5_.2.2.1 210 0 = S_.2.2.1 210 0 := fr_arr hFx7_ rfl
          have z116_ : Sx5_.2.2.1 211 0 = S_.2.2.1 211 0 := fr_arr hFx7_ rfl
          have x116_ : Sx5_.2.2.1 185 0 = S_.2.2.1 185 0 := fr_arr hFx7_ rfl
          have t116_ := hFx7_.1 13 0 106 rfl
          refine sm_T_inc (a := 4) (z := 1) (v := u_) (w := u_ + 1) rfl rfl (by omega) (by omega) (by omega) ?_ -- pc_ 119
          refine sm_T_go 1 (c1 := (90, [some (.inr (.inr (some (13, 0)))), some (.inl n_), some (.inl c_), some (.inl sz_), some (.inl (u_ + 1))], [], Sx5_)) rfl ?_
          refine ih_.2.2.1 c_ sz_ (u_ + 1) Sx5_ hIx6_ hFx9_ ⟨?_, ?_, ?_, ?_, ?_, ?_, trivial⟩ ?_
          · first | omega | (rw [x116_, t116_]; omega)
          · first | exact p116_.1 | exact k0_
          · first | exact p116_.2.1 | exact k1_
          · first | exact wf2_tr k2_ p116_.2.2 | exact k2_
          · first | exact c116_ | exact hct_
          · first | exact ⟨y116_.trans h4_.1, z116_.trans h4_.2⟩ | exact h4_
          · omega
    · rintro t_ S_ hI_ hF_ ⟨h0_, hz_, h5_, -⟩ hm_
      have f160_ : S_.2.2.1 160 0 (S_.1 13 0 105).toNat = F_ := by (rw [hF_.1 13 0 105 rfl, fr_arr (t := 160) (i := 0) hF_ rfl]; exact hf_)
      have f202_ : S_.2.2.1 202 0 = S0_.2.2.1 202 0 := fr_arr hF_ rfl
      have b114_ : 0 ≤ S_.1 13 0 114 ∧ S_.1 13 0 114 ≤ 64 := hI_.1 13 0 114 rfl
      have b106_ : 0 ≤ S_.1 13 0 106 ∧ S_.1 13 0 106 ≤ 2 := hI_.1 13 0 106 rfl
      have b108_ : 0 ≤ S_.1 13 0 108 ∧ S_.1 13 0 108 ≤ 1000000000 := hI_.1 13 0 108 rfl
      have c0_ : 0 ≤ S_.2.2.1 206 0 (2 * n_).toNat ∧ S_.2.2.1 206 0 (2 * n_).toNat ≤ 1000000000 := hI_.2 206 0 _
      have c1_ : 0 ≤ S_.2.2.1 206 0 (2 * n_ + 1).toNat ∧ S_.2.2.1 206 0 (2 * n_ + 1).toNat ≤ 1000000000 := hI_.2 206 0 _
      refine sm_T_go 2 (c1 := (135, [some (.inr (.inr (some (13, 0)))), some (.inl n_), some (.inl t_), none, none], [.inl 2, .inl t_], S_)) rfl ?_
      refine sm_T_br (a := 3) (z := 101) rfl (fun cx1_ => ?_) (fun cx1_ => ?_)
      · have cx1_ : 2 ≤ t_ := of_decide_eq_true cx1_
        refine sm_T_rv rfl ⟨_, _, rfl, rfl, hI_, hF_, ?_⟩
        have n0_ := hz_.2.2 0 (by omega) (by omega)
        have n1_ := hz_.2.2 1 (by omega) (by omega)
        rw [show 2 * n_ + 0 = 2 * n_ by omega, show 2 * n_ + 1 - 0 = 2 * n_ + 1 by omega] at n0_
        rw [show 2 * n_ + 1 - 1 = 2 * n_ by omega] at n1_
        exact ⟨⟨hz_.1, hz_.2.1, n0_, n1_⟩, h5_⟩
      · have cx1_ : ¬ (2 ≤ t_) := of_decide_eq_false cx1_
        have cX_ : 0 ≤ S_.2.2.1 206 0 (2 * n_ - t_ + 1).toNat ∧ S_.2.2.1 206 0 (2 * n_ - t_ + 1).toNat ≤ 1000000000 := hI_.2 206 0 _
        have cZ_ : 0 ≤ S_.2.2.1 206 0 (2 * n_ + t_).toNat ∧ S_.2.2.1 206 0 (2 * n_ + t_).toNat ≤ 1000000000 := hI_.2 206 0 _
        have L9_ : l_0 (l_i2l (S_.2.2.1 206 0 (2 * n_ - t_ + 1).toNat)) (l_i2l (S_.1 13 0 108)) = S_.2.2.1 206 0 (2 * n_ - t_ + 1).toNat + S_.1 13 0 108 := by (rw [l_i2l_s (x := S_.2.2.1 206 0 (2 * n_ - t_ + 1).toNat) (by omega) (by omega)]; exact l_0_s (by omega) (by omega))
        have L8_ : l_i2l (S_.2.2.1 206 0 (2 * n_ + t_).toNat) = S_.2.2.1 206 0 (2 * n_ + t_).toNat := l_i2l_s (by omega) (by omega)
        refine sm_T_go 4 (c1 := (144, [some (.inr (.inr (some (13, 0)))), some (.inl n_), some (.inl t_), none, none], [.inl n_, .inl 2, .inr (.inr (some (206, 0)))], S_)) rfl ?_
        refine sm_T_bin (w := 2 * n_) rfl (bi_mul (by omega) (by omega) (by omega)) ?_ -- pc_ 144
        refine sm_T_go 1 (c1 := (146, [some (.inr (.inr (some (13, 0)))), some (.inl n_), some (.inl t_), none, none], [.inl 1, .inl (2 * n_), .inr (.inr (some (206, 0)))], S_)) rfl ?_
        refine sm_T_bin (w := 2 * n_ + 1) rfl (bi_add (by omega) (by omega) (by omega)) ?_ -- pc_ 146
        refine sm_T_go 1 (c1 := (148, [some (.inr (.inr (some (13, 0)))), some (.inl n_), some (.inl t_), none, none], [.inl t_, .inl (2 * n_ + 1), .inr (.inr (some (206, 0)))], S_)) rfl ?_
        refine sm_T_bin (w := 2 * n_ - t_ + 1) rfl (bi_sub (by omega) (by omega) (by omega)) ?_ -- pc_ 148
        refine sm_T_iald (n := 4096) rfl rfl (by omega) (by omega) ?_
        have bx2_ : 0 ≤ S_.2.2.1 206 0 (2 * n_ - t_ + 1).toNat ∧ S_.2.2.1 206 0 (2 * n_ - t_ + 1).toNat ≤ 1000000000 := hI_.2 206 0 _
        have bx3_ : 0 ≤ S_.1 13 0 108 ∧ S_.1 13 0 108 ≤ 1000000000 := hI_.1 13 0 108 rfl
        refine sm_T_go 10 (c1 := (164, [some (.inr (.inr (some (13, 0)))), some (.inl n_), some (.inl t_), some (.inr (.inl (l_0 ((l_i2l (S_.2.2.1 206 0 (2 * n_ - t_ + 1).toNat))) ((l_i2l (S_.1 13 0 108)))))), none], [.inl n_, .inl 2, .inr (.inr (some (211, 0)))], S_)) rfl ?_
        refine sm_T_bin (w := 2 * n_) rfl (bi_mul (by omega) (by omega) (by omega)) ?_ -- pc_ 164
        refine sm_T_go 1 (c1 := (166, [some (.inr (.inr (some (13, 0)))), some (.inl n_), some (.inl t_), some (.inr (.inl (l_0 ((l_i2l (S_.2.2.1 206 0 (2 * n_ - t_ + 1).toNat))) ((l_i2l (S_.1 13 0 108)))))), none], [.inl t_, .inl (2 * n_), .inr (.inr (some (211, 0)))], S_)) rfl ?_
        refine sm_T_bin (w := 2 * n_ + t_) rfl (bi_add (by omega) (by omega) (by omega)) ?_ -- pc_ 166
        refine sm_T_go 5 (c1 := (174, [some (.inr (.inr (some (13, 0)))), some (.inl n_), some (.inl t_), some (.inr (.inl (l_0 ((l_i2l (S_.2.2.1 206 0 (2 * n_ - t_ + 1).toNat))) ((l_i2l (S_.1 13 0 108)))))), none], [.inl n_, .inl 2, .inr (.inr (some (206, 0))), .inr (.inl (l_0 ((l_i2l (S_.2.2.1 206 0 (2 * n_ - t_ + 1).toNat))) ((l_i2l (S_.1 13 0 108))))), .inl (2 * n_ + t_), .inr (.inr (some (211, 0)))], S_)) rfl ?_
        refine sm_T_bin (w := 2 * n_) rfl (bi_mul (by omega) (by omega) (by omega)) ?_ -- pc_ 174
        refine sm_T_go 1 (c1 := (176, [some (.inr (.inr (some (13, 0)))), some (.inl n_), some (.inl t_), some (.inr (.inl (l_0 ((l_i2l (S_.2.2.1 206 0 (2 * n_ - t_ + 1).toNat))) ((l_i2l (S_.1 13 0 108)))))), none], [.inl t_, .inl (2 * n_), .inr (.inr (some (206, 0))), .inr (.inl (l_0 ((l_i2l (S_.2.2.1 206 0 (2 * n_ - t_ + 1).toNat))) ((l_i2l (S_.1 13 0 108))))), .inl (2 * n_ + t_), .inr (.inr (some (211, 0)))], S_)) rfl ?_
        refine sm_T_bin (w := 2 * n_ + t_) rfl (bi_add (by omega) (by omega) (by omega)) ?_ -- pc_ 176
        refine sm_T_iald (n := 4096) rfl rfl (by omega) (by omega) ?_
        have bx4_ : 0 ≤ S_.2.2.1 206 0 (2 * n_ + t_).toNat ∧ S_.2.2.1 206 0 (2 * n_ + t_).toNat ≤ 1000000000 := hI_.2 206 0 _
        refine sm_T_go 2 (c1 := (180, [some (.inr (.inr (some (13, 0)))), some (.inl n_), some (.inl t_), some (.inr (.inl (l_0 ((l_i2l (S_.2.2.1 206 0 (2 * n_ - t_ + 1).toNat))) ((l_i2l (S_.1 13 0 108)))))), none], [.inl (sm_lcmp ((l_0 ((l_i2l (S_.2.2.1 206 0 (2 * n_ - t_ + 1).toNat))) ((l_i2l (S_.1 13 0 108))))) ((l_i2l (S_.2.2.1 206 0 (2 * n_ + t_).toNat)))), .inl (2 * n_ + t_), .inr (.inr (some (211, 0)))], S_)) rfl ?_
        refine sm_T_b0 (a := 3) (z := 7) rfl (fun cx5_ => ?_) (fun cx5_ => ?_)
        · have cx5_ : 0 ≤ (sm_lcmp ((l_0 ((l_i2l (S_.2.2.1 206 0 (2 * n_ - t_ + 1).toNat))) ((l_i2l (S_.1 13 0 108))))) ((l_i2l (S_.2.2.1 206 0 (2 * n_ + t_).toNat)))) := of_decide_eq_true cx5_
          have Q9_ : ¬ (S_.2.2.1 206 0 (2 * n_ - t_ + 1).toNat + S_.1 13 0 108 < S_.2.2.1 206 0 (2 * n_ + t_).toNat) := fun q8_ => by (have q9_ := lcmp_lt.mpr (show l_0 (l_i2l (S_.2.2.1 206 0 (2 * n_ - t_ + 1).toNat)) (l_i2l (S_.1 13 0 108)) < l_i2l (S_.2.2.1 206 0 (2 * n_ + t_).toNat) by (rw [L9_, L8_]; exact q8_)); omega)
          refine sm_T_go 1 (c1 := (188, [some (.inr (.inr (some (13, 0)))), some (.inl n_), some (.inl t_), some (.inr (.inl (l_0 ((l_i2l (S_.2.2.1 206 0 (2 * n_ - t_ + 1).toNat))) ((l_i2l (S_.1 13 0 108)))))), none], [.inl 0, .inl (2 * n_ + t_), .inr (.inr (some (211, 0)))], S_)) rfl ?_
          refine sm_T_zas1 (n := 4096) rfl rfl (by omega) (by omega) (by omega) ?_
          have hIx6_ : gi (sm_aI S_ 211 0 (2 * n_ + t_).toNat 0) := gi_aI hI_ (show 0 ≤ 0 ∧ 0 ≤ 1 from ⟨by omega, by omega⟩)
          have hFx7_ : ai_fr (sx_W vw_407) S0_ (sm_aI S_ 211 0 (2 * n_ + t_).toNat 0) := ai_fr_tr hF_ (ai_fr_aI rfl)
          refine sm_T_go 4 (c1 := (195, [some (.inr (.inr (some (13, 0)))), some (.inl n_), some (.inl t_), some (.inr (.inl (l_0 ((l_i2l (S_.2.2.1 206 0 (2 * n_ - t_ + 1).toNat))) ((l_i2l (S_.1 13 0 108)))))), none], [.inl n_, .inl 2, .inr (.inr (some (210, 0)))], sm_aI S_ 211 0 (2 * n_ + t_).toNat 0)) rfl ?_
          refine sm_T_bin (w := 2 * n_) rfl (bi_mul (by omega) (by omega) (by omega)) ?_ -- pc_ 195
          refine sm_T_go 1 (c1 := (197, [some (.inr (.inr (some (13, 0)))), some (.inl n_), some (.inl t_), some (.inr (.inl (l_0 ((l_i2l (S_.2.2.1 206 0 (2 * n_ - t_ + 1).toNat))) ((l_i2l (S_.1 13 0 108)))))), none], [.inl t_, .inl (2 * n_), .inr (.inr (some (210, 0)))], sm_aI S_ 211 0 (2 * n_ + t_).toNat 0)) rfl ?_
          refine sm_T_bin (w := 2 * n_ + t_) rfl (bi_add (by omega) (by omega) (by omega)) ?_ -- pc_ 197
          refine sm_T_go 5 (c1 := (205, [some (.inr (.inr (some (13, 0)))), some (.inl n_), some (.inl t_), some (.inr (.inl (l_0 ((l_i2l (S_.2.2.1 206 0 (2 * n_ - t_ + 1).toNat))) ((l_i2l (S_.1 13 0 108)))))), none], [.inl n_, .inl 2, .inr (.inr (some (206, 0))), .inr (.inl (l_0 ((l_i2l (S_.2.2.1 206 0 (2 * n_ - t_ + 1).toNat))) ((l_i2l (S_.1 13 0 108))))), .inl (2 * n_ + t_), .inr (.inr (some (210, 0)))], sm_aI S_ 211 0 (2 * n_ + t_).toNat 0)) rfl ?_
          refine sm_T_bin (w := 2 * n_) rfl (bi_mul (by omega) (by omega) (by omega)) ?_ -- pc_ 205
          refine sm_T_go 1 (c1 := (207, [some (.inr (.inr (some (13, 0)))), some (.inl n_), some (.inl t_), some (.inr (.inl (l_0 ((l_i2l (S_.2.2.1 206 0 (2 * n_ - t_ + 1).toNat))) ((l_i2l (S_.1 13 0 108)))))), none], [.inl t_, .inl (2 * n_), .inr (.inr (some (206, 0))), .inr (.inl (l_0 ((l_i2l (S_.2.2.1 206 0 (2 * n_ - t_ + 1).toNat))) ((l_i2l (S_.1 13 0 108))))), .inl (2 * n_ + t_), .inr (.inr (some (210, 0)))], sm_aI S_ 211 0 (2 * n_ + t_).toNat 0)) rfl ?_
          refine sm_T_bin (w := 2 * n_ + t_) rfl (bi_add (by omega) (by omega) (by omega)) ?_ -- pc_ 207
          refine sm_T_iald (n := 4096) rfl rfl (by omega) (by omega) ?_
          refine sm_T_go 2 (c1 := (211, [some (.inr (.inr (some (13, 0)))), some (.inl n_), some (.inl t_), some (.inr (.inl (l_0 ((l_i2l (S_.2.2.1 206 0 (2 * n_ - t_ + 1).toNat))) ((l_i2l (S_.1 13 0 108)))))), none], [.inl (sm_lcmp ((l_0 ((l_i2l (S_.2.2.1 206 0 (2 * n_ - t_ + 1).toNat))) ((l_i2l (S_.1 13 0 108))))) ((l_i2l (S_.2.2.1 206 0 (2 * n_ + t_).toNat)))), .inl (2 * n_ + t_), .inr (.inr (some (210, 0)))], sm_aI S_ 211 0 (2 * n_ + t_).toNat 0)) rfl ?_
          refine sm_T_b0 (a := 3) (z := 8) rfl (fun cx8_ => ?_) (fun cx8_ => ?_)
          · have cx8_ : 0 ≤ (sm_lcmp ((l_0 ((l_i2l (S_.2.2.1 206 0 (2 * n_ - t_ + 1).toNat))) ((l_i2l (S_.1 13 0 108))))) ((l_i2l (S_.2.2.1 206 0 (2 * n_ + t_).toNat)))) := of_decide_eq_true cx8_
            have Q8_ : ¬ (S_.2.2.1 206 0 (2 * n_ - t_ + 1).toNat + S_.1 13 0 108 < S_.2.2.1 206 0 (2 * n_ + t_).toNat) := fun q8_ => by (have q9_ := lcmp_lt.mpr (show l_0 (l_i2l (S_.2.2.1 206 0 (2 * n_ - t_ + 1).toNat)) (l_i2l (S_.1 13 0 108)) < l_i2l (S_.2.2.1 206 0 (2 * n_ + t_).toNat) by (rw [L9_, L8_]; exact q8_)); omega)
            refine sm_T_go 4 (c1 := (225, [some (.inr (.inr (some (13, 0)))), some (.inl n_), some (.inl t_), some (.inr (.inl (l_0 ((l_i2l (S_.2.2.1 206 0 (2 * n_ - t_ + 1).toNat))) ((l_i2l (S_.1 13 0 108)))))), none], [.inl n_, .inl 2, .inr (.inr (some (206, 0))), .inl (2 * n_ + t_), .inr (.inr (some (210, 0)))], sm_aI S_ 211 0 (2 * n_ + t_).toNat 0)) rfl ?_
            refine sm_T_bin (w := 2 * n_) rfl (bi_mul (by omega) (by omega) (by omega)) ?_ -- pc_ 225
            refine sm_T_go 1 (c1 := (227, [some (.inr (.inr (some (13, 0)))), some (.inl n_), some (.inl t_), some (.inr (.inl (l_0 ((l_i2l (S_.2.2.1 206 0 (2 * n_ - t_ + 1).toNat))) ((l_i2l (S_.1 13 0 108)))))), none], [.inl t_, .inl (2 * n_), .inr (.inr (some (206, 0))), .inl (2 * n_ + t_), .inr (.inr (some (210, 0)))], sm_aI S_ 211 0 (2 * n_ + t_).toNat 0)) rfl ?_
            refine sm_T_bin (w := 2 * n_ + t_) rfl (bi_add (by omega) (by omega) (by omega)) ?_ -- pc_ 227
            refine sm_T_iald (n := 4096) rfl rfl (by omega) (by omega) ?_
            refine sm_T_go 0 (c1 := (229, [some (.inr (.inr (some (13, 0)))), some (.inl n_), some (.inl t_), some (.inr (.inl (l_0 ((l_i2l (S_.2.2.1 206 0 (2 * n_ - t_ + 1).toNat))) ((l_i2l (S_.1 13 0 108)))))), none], [.inl (S_.2.2.1 206 0 (2 * n_ + t_).toNat), .inl (2 * n_ + t_), .inr (.inr (some (210, 0)))], sm_aI S_ 211 0 (2 * n_ + t_).toNat 0)) rfl ?_
            refine sm_T_iast (n := 4096) rfl rfl (by omega) (by omega) ?_
            have hIx9_ : gi (sm_aI (sm_aI S_ 211 0 (2 * n_ + t_).toNat 0) 210 0 (2 * n_ + t_).toNat (S_.2.2.1 206 0 (2 * n_ + t_).toNat)) := gi_aI hIx6_ (show 0 ≤ (S_.2.2.1 206 0 (2 * n_ + t_).toNat) ∧ (S_.2.2.1 206 0 (2 * n_ + t_).toNat) ≤ 1000000000 from ⟨by omega, by omega⟩)
            have hFx10_ : ai_fr (sx_W vw_407) S0_ (sm_aI (sm_aI S_ 211 0 (2 * n_ + t_).toNat 0) 210 0 (2 * n_ + t_).toNat (S_.2.2.1 206 0 (2 * n_ + t_).toNat)) := ai_fr_tr hFx7_ (ai_fr_aI rfl)
            refine sm_T_inc (a := 2) (z := 1) (v := t_) (w := t_ + 1) rfl rfl (by omega) (by omega) (by omega) ?_ -- pc_ 230
            refine sm_T_go 1 (c1 := (133, [some (.inr (.inr (some (13, 0)))), some (.inl n_), some (.inl (t_ + 1)), some (.inr (.inl (l_0 ((l_i2l (S_.2.2.1 206 0 (2 * n_ - t_ + 1).toNat))) ((l_i2l (S_.1 13 0 108)))))), none], [], sm_aI (sm_aI S_ 211 0 (2 * n_ + t_).toNat 0) 210 0 (2 * n_ + t_).toNat (S_.2.2.1 206 0 (2 * n_ + t_).toNat))) rfl ?_
            refine sm_T_wk [some (.inr (.inr (some (13, 0)))), some (.inl n_), some (.inl (t_ + 1)), none, none] (by exact ⟨rfl, rfl, rfl, trivial⟩) ?_
            refine ih_.2.2.2 (t_ + 1) (sm_aI (sm_aI S_ 211 0 (2 * n_ + t_).toNat 0) 210 0 (2 * n_ + t_).toNat (S_.2.2.1 206 0 (2 * n_ + t_).toNat)) hIx9_ hFx10_ ⟨?_, ?_, ?_, trivial⟩ ?_
            · omega
            · have K9_ : ∀ l9_ : Int, 0 ≤ l9_ → wyc F_ n_ S_ l9_ → wyc F_ n_ ((sm_aI (sm_aI S_ 211 0 (2 * n_ + t_).toNat 0) 210 0 (2 * n_ + t_).toNat (S_.2.2.1 206 0 (2 * n_ + t_).toNat))) l9_ := fun l9_ u0_ u1_ => wyc_cg hIx9_ u1_ u0_ (by (try simp only [rd_eq, rd_ne, rf_eq, rf_nk, rf_nt, rd_fa, rd_af, rd_fl, rd_al, rd_lf, rd_la, rd_leq, rd_lne, rd_fr, rd_ar, ne_eq, Nat.reduceEqDiff, not_false_eq_true])) (by (try simp only [rd_eq, rd_ne, rf_eq, rf_nk, rf_nt, rd_fa, rd_af, rd_fl, rd_al, rd_lf, rd_la, rd_leq, rd_lne, rd_fr, rd_ar, ne_eq, Nat.reduceEqDiff, not_false_eq_true])) (by (try simp only [rd_eq, rd_ne, rf_eq, rf_nk, rf_nt, rd_fa, rd_af, rd_fl, rd_al, rd_lf, rd_la, rd_leq, rd_lne, rd_fr, rd_ar, ne_eq, Nat.reduceEqDiff, not_false_eq_true])) (fun k9_ _ _ => by (try simp only [rd_eq, rd_ne, rf_eq, rf_nk, rf_nt, rd_fa, rd_af, rd_fl, rd_al, rd_lf, rd_la, rd_leq, rd_lne, rd_fr, rd_ar, ne_eq, Nat.reduceEqDiff, not_false_eq_true])) (by (funext j9_; (try simp only [rd_eq, rd_ne, rf_eq, rf_nk, rf_nt, rd_fa, rd_af, rd_fl, rd_al, rd_lf, rd_la, rd_leq, rd_lne, rd_fr, rd_ar, ne_eq, Nat.reduceEqDiff, not_false_eq_true]))) (by (try simp only [rd_eq, rd_ne, rf_eq, rf_nk, rf_nt, rd_fa, rd_af, rd_fl, rd_al, rd_lf, rd_la, rd_leq, rd_lne, rd_fr, rd_ar, ne_eq, Nat.reduceEqDiff, not_false_eq_true])) (by (funext j9_; (try simp only [rd_eq, rd_ne, rf_eq, rf_nk, rf_nt, rd_fa, rd_af, rd_fl, rd_al, rd_lf, rd_la, rd_leq, rd_lne, rd_fr, rd_ar, ne_eq, Nat.reduceEqDiff, not_false_eq_true]))) (fun x9_ t9_ a9_ b9_ c9_ d9_ => by (have q9_ : (2 * x9_ + t9_).toNat ≠ (2 * n_ + t_).toNat := (by omega); unfold cst; (try simp only [rd_eq, rd_ne, rf_eq, rf_nk, rf_nt, rd_fa, rd_af, rd_fl, rd_al, rd_lf, rd_la, rd_leq, rd_lne, rd_fr, rd_ar, ne_eq, Nat.reduceEqDiff, not_false_eq_true]); rw [if_neg q9_]))
              refine ⟨K9_ _ (by omega) hz_.1, K9_ _ (by omega) hz_.2.1, fun s9_ u0_ u1_ => ?_⟩
              unfold ned
              (try simp only [rd_eq, rd_ne, rf_eq, rf_nk, rf_nt, rd_fa, rd_af, rd_fl, rd_al, rd_lf, rd_la, rd_leq, rd_lne, rd_fr, rd_ar, ne_eq, Nat.reduceEqDiff, not_false_eq_true])
              by_cases z9_ : s9_ = t_
              · rw [if_pos (by omega), if_pos (by omega), z9_, show (2 * n_ + 1 - t_).toNat = (2 * n_ - t_ + 1).toNat by omega]
                first | (left; exact ⟨rfl, by omega, by omega⟩) | (right; exact ⟨rfl, rfl⟩) | (exfalso; omega)
              · rw [if_neg (by omega), if_neg (by omega)]; exact hz_.2.2 s9_ u0_ (by omega)
            · (refine ⟨wf2_tr h5_.1 (wf2_fr (w_ := ([], [210, 211], [])) (ai_fr_tr (ai_fr_aI rfl) (ai_fr_aI rfl))), fun j9_ v9_ => ?_⟩; have y9_ := h5_.2 j9_ v9_; (try simp only [rd_eq, rd_ne, rf_eq, rf_nk, rf_nt, rd_fa, rd_af, rd_fl, rd_al, rd_lf, rd_la, rd_leq, rd_lne, rd_fr, rd_ar, ne_eq, Nat.reduceEqDiff, not_false_eq_true]); rw [if_neg (by omega), if_neg (by omega)]; exact y9_)
            · omega
          · have cx8_ : ¬ (0 ≤ (sm_lcmp ((l_0 ((l_i2l (S_.2.2.1 206 0 (2 * n_ - t_ + 1).toNat))) ((l_i2l (S_.1 13 0 108))))) ((l_i2l (S_.2.2.1 206 0 (2 * n_ + t_).toNat))))) := of_decide_eq_false cx8_
            exfalso; omega
        · have cx5_ : ¬ (0 ≤ (sm_lcmp ((l_0 ((l_i2l (S_.2.2.1 206 0 (2 * n_ - t_ + 1).toNat))) ((l_i2l (S_.1 13 0 108))))) ((l_i2l (S_.2.2.1 206 0 (2 * n_ + t_).toNat))))) := of_decide_eq_false cx5_
          have Q9_ : S_.2.2.1 206 0 (2 * n_ - t_ + 1).toNat + S_.1 13 0 108 < S_.2.2.1 206 0 (2 * n_ + t_).toNat := by (have q9_ := lcmp_lt.mp (show sm_lcmp (l_0 (l_i2l (S_.2.2.1 206 0 (2 * n_ - t_ + 1).toNat)) (l_i2l (S_.1 13 0 108))) (l_i2l (S_.2.2.1 206 0 (2 * n_ + t_).toNat)) < 0 by omega); rw [L9_, L8_] at q9_; exact q9_)
          refine sm_T_go 2 (c1 := (188, [some (.inr (.inr (some (13, 0)))), some (.inl n_), some (.inl t_), some (.inr (.inl (l_0 ((l_i2l (S_.2.2.1 206 0 (2 * n_ - t_ + 1).toNat))) ((l_i2l (S_.1 13 0 108)))))), none], [.inl 1, .inl (2 * n_ + t_), .inr (.inr (some (211, 0)))], S_)) rfl ?_
          refine sm_T_zas1 (n := 4096) rfl rfl (by omega) (by omega) (by omega) ?_
          have hIx11_ : gi (sm_aI S_ 211 0 (2 * n_ + t_).toNat 1) := gi_aI hI_ (show 0 ≤ 1 ∧ 1 ≤ 1 from ⟨by omega, by omega⟩)
          have hFx12_ : ai_fr (sx_W vw_407) S0_ (sm_aI S_ 211 0 (2 * n_ + t_).toNat 1) := ai_fr_tr hF_ (ai_fr_aI rfl)
          refine sm_T_go 4 (c1 := (195, [some (.inr (.inr (some (13, 0)))), some (.inl n_), some (.inl t_), some (.inr (.inl (l_0 ((l_i2l (S_.2.2.1 206 0 (2 * n_ - t_ + 1).toNat))) ((l_i2l (S_.1 13 0 108)))))), none], [.inl n_, .inl 2, .inr (.inr (some (210, 0)))], sm_aI S_ 211 0 (2 * n_ + t_).toNat 1)) rfl ?_
          refine sm_T_bin (w := 2 * n_) rfl (bi_mul (by omega) (by omega) (by omega)) ?_ -- pc_ 195
          refine sm_T_go 1 (c1 := (197, [some (.inr (.inr (some (13, 0)))), some (.inl n_), some (.inl t_), some (.inr (.inl (l_0 ((l_i2l (S_.2.2.1 206 0 (2 * n_ - t_ + 1).toNat))) ((l_i2l (S_.1 13 0 108)))))), none], [.inl t_, .inl (2 * n_), .inr (.inr (some (210, 0)))], sm_aI S_ 211 0 (2 * n_ + t_).toNat 1)) rfl ?_
          refine sm_T_bin (w := 2 * n_ + t_) rfl (bi_add (by omega) (by omega) (by omega)) ?_ -- pc_ 197
          refine sm_T_go 5 (c1 := (205, [some (.inr (.inr (some (13, 0)))), some (.inl n_), some (.inl t_), some (.inr (.inl (l_0 ((l_i2l (S_.2.2.1 206 0 (2 * n_ - t_ + 1).toNat))) ((l_i2l (S_.1 13 0 108)))))), none], [.inl n_, .inl 2, .inr (.inr (some (206, 0))), .inr (.inl (l_0 ((l_i2l (S_.2.2.1 206 0 (2 * n_ - t_ + 1).toNat))) ((l_i2l (S_.1 13 0 108))))), .inl (2 * n_ + t_), .inr (.inr (some (210, 0)))], sm_aI S_ 211 0 (2 * n_ + t_).toNat 1)) rfl ?_
          refine sm_T_bin (w := 2 * n_) rfl (bi_mul (by omega) (by omega) (by omega)) ?_ -- pc_ 205
          refine sm_T_go 1 (c1 := (207, [some (.inr (.inr (some (13, 0)))), some (.inl n_), some (.inl t_), some (.inr (.inl (l_0 ((l_i2l (S_.2.2.1 206 0 (2 * n_ - t_ + 1).toNat))) ((l_i2l (S_.1 13 0 108)))))), none], [.inl t_, .inl (2 * n_), .inr (.inr (some (206, 0))), .inr (.inl (l_0 ((l_i2l (S_.2.2.1 206 0 (2 * n_ - t_ + 1).toNat))) ((l_i2l (S_.1 13 0 108))))), .inl (2 * n_ + t_), .inr (.inr (some (210, 0)))], sm_aI S_ 211 0 (2 * n_ + t_).toNat 1)) rfl ?_
          refine sm_T_bin (w := 2 * n_ + t_) rfl (bi_add (by omega) (by omega) (by omega)) ?_ -- pc_ 207
          refine sm_T_iald (n := 4096) rfl rfl (by omega) (by omega) ?_
          refine sm_T_go 2 (c1 := (211, [some (.inr (.inr (some (13, 0)))), some (.inl n_), some (.inl t_), some (.inr (.inl (l_0 ((l_i2l (S_.2.2.1 206 0 (2 * n_ - t_ + 1).toNat))) ((l_i2l (S_.1 13 0 108)))))), none], [.inl (sm_lcmp ((l_0 ((l_i2l (S_.2.2.1 206 0 (2 * n_ - t_ + 1).toNat))) ((l_i2l (S_.1 13 0 108))))) ((l_i2l (S_.2.2.1 206 0 (2 * n_ + t_).toNat)))), .inl (2 * n_ + t_), .inr (.inr (some (210, 0)))], sm_aI S_ 211 0 (2 * n_ + t_).toNat 1)) rfl ?_
          refine sm_T_b0 (a := 3) (z := 8) rfl (fun cx13_ => ?_) (fun cx13_ => ?_)
          · have cx13_ : 0 ≤ (sm_lcmp ((l_0 ((l_i2l (S_.2.2.1 206 0 (2 * n_ - t_ + 1).toNat))) ((l_i2l (S_.1 13 0 108))))) ((l_i2l (S_.2.2.1 206 0 (2 * n_ + t_).toNat)))) := of_decide_eq_true cx13_
            exfalso; omega
          · have cx13_ : ¬ (0 ≤ (sm_lcmp ((l_0 ((l_i2l (S_.2.2.1 206 0 (2 * n_ - t_ + 1).toNat))) ((l_i2l (S_.1 13 0 108))))) ((l_i2l (S_.2.2.1 206 0 (2 * n_ + t_).toNat))))) := of_decide_eq_false cx13_
            have Q8_ : S_.2.2.1 206 0 (2 * n_ - t_ + 1).toNat + S_.1 13 0 108 < S_.2.2.1 206 0 (2 * n_ + t_).toNat := by (have q9_ := lcmp_lt.mp (show sm_lcmp (l_0 (l_i2l (S_.2.2.1 206 0 (2 * n_ - t_ + 1).toNat)) (l_i2l (S_.1 13 0 108))) (l_i2l (S_.2.2.1 206 0 (2 * n_ + t_).toNat)) < 0 by omega); rw [L9_, L8_] at q9_; exact q9_)
            have L7_ : l_l2i (l_0 (l_i2l (S_.2.2.1 206 0 (2 * n_ - t_ + 1).toNat)) (l_i2l (S_.1 13 0 108))) = S_.2.2.1 206 0 (2 * n_ - t_ + 1).toNat + S_.1 13 0 108 := by (rw [L9_]; exact l2i_s (by omega))
            have bx14_ := l_l2i_n ((l_0 ((l_i2l (S_.2.2.1 206 0 (2 * n_ - t_ + 1).toNat))) ((l_i2l (S_.1 13 0 108)))))
            refine sm_T_go 3 (c1 := (229, [some (.inr (.inr (some (13, 0)))), some (.inl n_), some (.inl t_), some (.inr (.inl (l_0 ((l_i2l (S_.2.2.1 206 0 (2 * n_ - t_ + 1).toNat))) ((l_i2l (S_.1 13 0 108)))))), none], [.inl (l_l2i ((l_0 ((l_i2l (S_.2.2.1 206 0 (2 * n_ - t_ + 1).toNat))) ((l_i2l (S_.1 13 0 108)))))), .inl (2 * n_ + t_), .inr (.inr (some (210, 0)))], sm_aI S_ 211 0 (2 * n_ + t_).toNat 1)) rfl ?_
            refine sm_T_iast (n := 4096) rfl rfl (by omega) (by omega) ?_
            have hIx15_ : gi (sm_aI (sm_aI S_ 211 0 (2 * n_ + t_).toNat 1) 210 0 (2 * n_ + t_).toNat (l_l2i ((l_0 ((l_i2l (S_.2.2.1 206 0 (2 * n_ - t_ + 1).toNat))) ((l_i2l (S_.1 13 0 108))))))) := gi_aI hIx11_ (show 0 ≤ (l_l2i ((l_0 ((l_i2l (S_.2.2.1 206 0 (2 * n_ - t_ + 1).toNat))) ((l_i2l (S_.1 13 0 108)))))) ∧ (l_l2i ((l_0 ((l_i2l (S_.2.2.1 206 0 (2 * n_ - t_ + 1).toNat))) ((l_i2l (S_.1 13 0 108)))))) ≤ 1000000000 from ⟨by omega, by omega⟩)
            have hFx16_ : ai_fr (sx_W vw_407) S0_ (sm_aI (sm_aI S_ 211 0 (2 * n_ + t_).toNat 1) 210 0 (2 * n_ + t_).toNat (l_l2i ((l_0 ((l_i2l (S_.2.2.1 206 0 (2 * n_ - t_ + 1).toNat))) ((l_i2l (S_.1 13 0 108))))))) := ai_fr_tr hFx12_ (ai_fr_aI rfl)
            refine sm_T_inc (a := 2) (z := 1) (v := t_) (w := t_ + 1) rfl rfl (by omega) (by omega) (by omega) ?_ -- pc_ 230
            refine sm_T_go 1 (c1 := (133, [some (.inr (.inr (some (13, 0)))), some (.inl n_), some (.inl (t_ + 1)), some (.inr (.inl (l_0 ((l_i2l (S_.2.2.1 206 0 (2 * n_ - t_ + 1).toNat))) ((l_i2l (S_.1 13 0 108)))))), none], [], sm_aI (sm_aI S_ 211 0 (2 * n_ + t_).toNat 1) 210 0 (2 * n_ + t_).toNat (l_l2i ((l_0 ((l_i2l (S_.2.2.1 206 0 (2 * n_ - t_ + 1).toNat))) ((l_i2l (S_.1 13 0 108)))))))) rfl ?_
            refine sm_T_wk [some (.inr (.inr (some (13, 0)))), some (.inl n_), some (.inl (t_ + 1)), none, none] (by exact ⟨rfl, rfl, rfl, trivial⟩) ?_
            refine ih_.2.2.2 (t_ + 1) (sm_aI (sm_aI S_ 211 0 (2 * n_ + t_).toNat 1) 210 0 (2 * n_ + t_).toNat (l_l2i ((l_0 ((l_i2l (S_.2.2.1 206 0 (2 * n_ - t_ + 1).toNat))) ((l_i2l (S_.1 13 0 108))))))) hIx15_ hFx16_ ⟨?_, ?_, ?_, trivial⟩ ?_
            · omega
            · have K9_ : ∀ l9_ : Int, 0 ≤ l9_ → wyc F_ n_ S_ l9_ → wyc F_ n_ ((sm_aI (sm_aI S_ 211 0 (2 * n_ + t_).toNat 1) 210 0 (2 * n_ + t_).toNat (l_l2i ((l_0 ((l_i2l (S_.2.2.1 206 0 (2 * n_ - t_ + 1).toNat))) ((l_i2l (S_.1 13 0 108)))))))) l9_ := fun l9_ u0_ u1_ => wyc_cg hIx15_ u1_ u0_ (by (try simp only [rd_eq, rd_ne, rf_eq, rf_nk, rf_nt, rd_fa, rd_af, rd_fl, rd_al, rd_lf, rd_la, rd_leq, rd_lne, rd_fr, rd_ar, ne_eq, Nat.reduceEqDiff, not_false_eq_true])) (by (try simp only [rd_eq, rd_ne, rf_eq, rf_nk, rf_nt, rd_fa, rd_af, rd_fl, rd_al, rd_lf, rd_la, rd_leq, rd_lne, rd_fr, rd_ar, ne_eq, Nat.reduceEqDiff, not_false_eq_true])) (by (try simp only [rd_eq, rd_ne, rf_eq, rf_nk, rf_nt, rd_fa, rd_af, rd_fl, rd_al, rd_lf, rd_la, rd_leq, rd_lne, rd_fr, rd_ar, ne_eq, Nat.reduceEqDiff, not_false_eq_true])) (fun k9_ _ _ => by (try simp only [rd_eq, rd_ne, rf_eq, rf_nk, rf_nt, rd_fa, rd_af, rd_fl, rd_al, rd_lf, rd_la, rd_leq, rd_lne, rd_fr, rd_ar, ne_eq, Nat.reduceEqDiff, not_false_eq_true])) (by (funext j9_; (try simp only [rd_eq, rd_ne, rf_eq, rf_nk, rf_nt, rd_fa, rd_af, rd_fl, rd_al, rd_lf, rd_la, rd_leq, rd_lne, rd_fr, rd_ar, ne_eq, Nat.reduceEqDiff, not_false_eq_true]))) (by (try simp only [rd_eq, rd_ne, rf_eq, rf_nk, rf_nt, rd_fa, rd_af, rd_fl, rd_al, rd_lf, rd_la, rd_leq, rd_lne, rd_fr, rd_ar, ne_eq, Nat.reduceEqDiff, not_false_eq_true])) (by (funext j9_; (try simp only [rd_eq, rd_ne, rf_eq, rf_nk, rf_nt, rd_fa, rd_af, rd_fl, rd_al, rd_lf, rd_la, rd_leq, rd_lne, rd_fr, rd_ar, ne_eq, Nat.reduceEqDiff, not_false_eq_true]))) (fun x9_ t9_ a9_ b9_ c9_ d9_ => by (have q9_ : (2 * x9_ + t9_).toNat ≠ (2 * n_ + t_).toNat := (by omega); unfold cst; (try simp only [rd_eq, rd_ne, rf_eq, rf_nk, rf_nt, rd_fa, rd_af, rd_fl, rd_al, rd_lf, rd_la, rd_leq, rd_lne, rd_fr, rd_ar, ne_eq, Nat.reduceEqDiff, not_false_eq_true]); rw [if_neg q9_]))
              refine ⟨K9_ _ (by omega) hz_.1, K9_ _ (by omega) hz_.2.1, fun s9_ u0_ u1_ => ?_⟩
              unfold ned
              (try simp only [rd_eq, rd_ne, rf_eq, rf_nk, rf_nt, rd_fa, rd_af, rd_fl, rd_al, rd_lf, rd_la, rd_leq, rd_lne, rd_fr, rd_ar, ne_eq, Nat.reduceEqDiff, not_false_eq_true])
              by_cases z9_ : s9_ = t_
              · rw [if_pos (by omega), if_pos (by omega), z9_, show (2 * n_ + 1 - t_).toNat = (2 * n_ - t_ + 1).toNat by omega]
                first | (left; exact ⟨rfl, by omega, by omega⟩) | (right; exact ⟨rfl, rfl⟩) | (exfalso; omega)
              · rw [if_neg (by omega), if_neg (by omega)]; exact hz_.2.2 s9_ u0_ (by omega)
            · (refine ⟨wf2_tr h5_.1 (wf2_fr (w_ := ([], [210, 211], [])) (ai_fr_tr (ai_fr_aI rfl) (ai_fr_aI rfl))), fun j9_ v9_ => ?_⟩; have y9_ := h5_.2 j9_ v9_; (try simp only [rd_eq, rd_ne, rf_eq, rf_nk, rf_nt, rd_fa, rd_af, rd_fl, rd_al, rd_lf, rd_la, rd_leq, rd_lne, rd_fr, rd_ar, ne_eq, Nat.reduceEqDiff, not_false_eq_true]); rw [if_neg (by omega), if_neg (by omega)]; exact y9_)
            · omega
set_option maxHeartbeats 4000000 in
set_option maxRecDepth 20000 in
theorem vc_407 {sc_ : Nat × (Nat → Int)} (n_ : Int) (F_ : Int) (N_ : Int) (S0_ : sm_S) (hI_ : gi S0_) (hf_ : S0_.2.2.1 160 0 (S0_.1 13 0 105).toNat = F_) (hn_ : 1 ≤ F_ ∧ F_ ≤ n_ ∧ n_ < N_ ∧ N_ ≤ 1013) (hw_ : S0_.2.2.1 202 0 n_.toNat = 1) (hl_ : lgn F_ N_ S0_) : sm_T (mt_P sc_) 4 407 (0, [some (.inr (.inr (some (13, 0)))), some (.inl n_), none, none, none], [], S0_) (fun ro9_ => ∃ u_ S1_, ro9_ = (.inl u_, S1_, 0) ∧ vq_407 n_ F_ N_ S0_ u_ S1_) := by
  have hF_ : ai_fr (sx_W vw_407) S0_ S0_ := ai_fr_rf
  refine sm_T_go 2 (c1 := (2, [some (.inr (.inr (some (13, 0)))), some (.inl n_), none, none, none], [.inl n_, .inr (.inr (some (13, 0)))], S0_)) rfl ?_
  refine sm_T_cal (d1 := 1) (Q1 := vq_400 n_ F_ N_ S0_) rfl rfl (by decide) (vc_400 n_ F_ N_ S0_ hI_ (by exact hf_) (by exact hn_) (by exact hw_) (by exact hl_)) (fun u_ Sx1_ px4_ => ?_)
  obtain ⟨rfl, hIx2_, hFx3_, px4_⟩ := px4_
  have hFx5_ : ai_fr (sx_W vw_407) S0_ Sx1_ := ai_fr_tr hF_ (fr_le hFx3_ rfl)
  have p2_ := px4_
  have v2_ : wf2 n_ S0_ Sx1_ := wf2_fr hFx3_
  have y210_ : Sx1_.2.2.1 210 0 = S0_.2.2.1 210 0 := fr_arr hFx3_ rfl
  have y211_ : Sx1_.2.2.1 211 0 = S0_.2.2.1 211 0 := fr_arr hFx3_ rfl
  refine sm_T_go 4 (c1 := (11, [some (.inr (.inr (some (13, 0)))), some (.inl n_), none, none, none], [.inl n_, .inl 2, .inr (.inr (some (206, 0)))], Sx1_)) rfl ?_
  refine sm_T_bin (w := 2 * n_) rfl (bi_mul (by omega) (by omega) (by omega)) ?_ -- pc_ 11
  refine sm_T_nt (u := some (.inl 1000000000)) (S1 := Sx1_) rfl rfl rfl ?_
  refine sm_T_iast (n := 4096) rfl rfl (by omega) (by omega) ?_
  have hIx6_ : gi (sm_aI Sx1_ 206 0 (2 * n_).toNat 1000000000) := gi_aI hIx2_ (show 0 ≤ 1000000000 ∧ 1000000000 ≤ 1000000000 from ⟨by omega, by omega⟩)
  have hFx7_ : ai_fr (sx_W vw_407) S0_ (sm_aI Sx1_ 206 0 (2 * n_).toNat 1000000000) := ai_fr_tr hFx5_ (ai_fr_aI rfl)
  refine sm_T_go 4 (c1 := (22, [some (.inr (.inr (some (13, 0)))), some (.inl n_), none, none, none], [.inl n_, .inl 2, .inr (.inr (some (206, 0)))], sm_aI Sx1_ 206 0 (2 * n_).toNat 1000000000)) rfl ?_
  refine sm_T_bin (w := 2 * n_) rfl (bi_mul (by omega) (by omega) (by omega)) ?_ -- pc_ 22
  refine sm_T_go 1 (c1 := (24, [some (.inr (.inr (some (13, 0)))), some (.inl n_), none, none, none], [.inl 1, .inl (2 * n_), .inr (.inr (some (206, 0)))], sm_aI Sx1_ 206 0 (2 * n_).toNat 1000000000)) rfl ?_
  refine sm_T_bin (w := 2 * n_ + 1) rfl (bi_add (by omega) (by omega) (by omega)) ?_ -- pc_ 24
  refine sm_T_nt (u := some (.inl 1000000000)) (S1 := sm_aI Sx1_ 206 0 (2 * n_).toNat 1000000000) rfl rfl rfl ?_
  refine sm_T_iast (n := 4096) rfl rfl (by omega) (by omega) ?_
  have hIx8_ : gi (sm_aI (sm_aI Sx1_ 206 0 (2 * n_).toNat 1000000000) 206 0 (2 * n_ + 1).toNat 1000000000) := gi_aI hIx6_ (show 0 ≤ 1000000000 ∧ 1000000000 ≤ 1000000000 from ⟨by omega, by omega⟩)
  have hFx9_ : ai_fr (sx_W vw_407) S0_ (sm_aI (sm_aI Sx1_ 206 0 (2 * n_).toNat 1000000000) 206 0 (2 * n_ + 1).toNat 1000000000) := ai_fr_tr hFx7_ (ai_fr_aI rfl)
  refine sm_T_go 2 (c1 := (31, [some (.inr (.inr (some (13, 0)))), some (.inl n_), some (.inl 0), none, none], [], sm_aI (sm_aI Sx1_ 206 0 (2 * n_).toNat 1000000000) 206 0 (2 * n_ + 1).toNat 1000000000)) rfl ?_
  refine (vl_407 n_ F_ N_ S0_ hf_ hn_ hw_ hl_ _).1 0 (sm_aI (sm_aI Sx1_ 206 0 (2 * n_).toNat 1000000000) 206 0 (2 * n_ + 1).toNat 1000000000) hIx8_ hFx9_ ⟨?_, ?_, ?_, ?_, ?_, ?_, trivial⟩ (Nat.lt_succ_self _)
  · omega
  · (intro q9_; exfalso; rw [rd_eq, rd_eq] at q9_; (first | rw [if_neg (by omega), if_pos rfl] at q9_ | skip); omega)
  · (intro q9_; exfalso; rw [rd_eq, if_pos rfl] at q9_; omega)
  · exact wf2_tr v2_ ⟨fun j9_ h9_ => by ((try simp only [rd_eq, rd_ne, rf_eq, rf_nk, rf_nt, rd_fa, rd_af, rd_fl, rd_al, rd_lf, rd_la, rd_leq, rd_lne, rd_fr, rd_ar, ne_eq, Nat.reduceEqDiff, not_false_eq_true]); rw [if_neg (by omega), if_neg (by omega)]; refine ⟨?_, ?_, ?_⟩ <;> first | rfl | trivial), fun j9_ _ => by (try simp only [rd_eq, rd_ne, rf_eq, rf_nk, rf_nt, rd_fa, rd_af, rd_fl, rd_al, rd_lf, rd_la, rd_leq, rd_lne, rd_fr, rd_ar, ne_eq, Nat.reduceEqDiff, not_false_eq_true])⟩
  · exact ctp_fr (w_ := ([], [206], [])) p2_ (ai_fr_tr (ai_fr_aI rfl) (ai_fr_aI rfl))
  · exact ⟨by (funext j9_; (try simp only [rd_eq, rd_ne, rf_eq, rf_nk, rf_nt, rd_fa, rd_af, rd_fl, rd_al, rd_lf, rd_la, rd_leq, rd_lne, rd_fr, rd_ar, ne_eq, Nat.reduceEqDiff, not_false_eq_true]); rw [y210_]), by (funext j9_; (try simp only [rd_eq, rd_ne, rf_eq, rf_nk, rf_nt, rd_fa, rd_af, rd_fl, rd_al, rd_lf, rd_la, rd_leq, rd_lne, rd_fr, rd_ar, ne_eq, Nat.reduceEqDiff, not_false_eq_true]); rw [y211_])⟩
end
/-! 99.zs8 -/
section
/-! the reference: gates made; written by wip/p55/gen/vg -/

/-! the_ reference: gates made -/
def isn (f_ : Nat → Int) (k_ : Nat) : Int := if f_ k_ = -1 then 1 else 0
theorem isn_1 {f_ : Nat → Int} {k_ : Nat} : isn f_ k_ = 1 ↔ f_ k_ = -1 := by
  unfold isn
  split
  · rename_i h_
    exact ⟨fun _ => h_, fun _ => rfl⟩
  · rename_i h_
    exact ⟨fun z_ => absurd z_ (by decide), fun z_ => absurd z_ h_⟩
/-- how_ much is_ still to_ be_ made -/
def inc (N_ : Int) (S_ : sm_S) : Nat := cn1 (isn (S_.2.2.1 218 0)) (2 * N_).toNat + cn1 (isn (S_.2.2.1 219 0)) N_.toNat
/-- gates take nets from below -/
def mad (F_ : Int) (S_ : sm_S) : Prop := ∀ g_ : Int, 0 ≤ g_ → g_ < S_.1 13 0 129 → (0 ≤ S_.2.2.1 216 0 g_.toNat ∨ S_.1 13 0 134 = 1) ∧ ∀ k_ : Int, 0 ≤ k_ → k_ < 3 → (-1 ≤ S_.2.2.1 217 0 (3 * g_ + k_).toNat ∧ S_.2.2.1 217 0 (3 * g_ + k_).toNat < F_ - 1 + g_) ∧ ((k_ = 0 ∨ (0 ≤ S_.2.2.1 216 0 g_.toNat ∧ k_ < S_.2.2.1 185 0 (12 * S_.1 13 0 106 + S_.2.2.1 216 0 g_.toNat).toNat)) → 0 ≤ S_.2.2.1 217 0 (3 * g_ + k_).toNat)
def nok (F_ g_ v_ : Int) : Prop := v_ = -1 ∨ (0 ≤ v_ ∧ v_ < F_ - 1 + g_)
def gst (F_ N_ : Int) (S_ : sm_S) : Prop := (0 ≤ S_.1 13 0 129 ∧ S_.1 13 0 129 + (inc N_ S_ : Int) ≤ 3 * N_) ∧ (∀ w_ : Int, 2 * F_ ≤ w_ → w_ < 2 * N_ → nok F_ (S_.1 13 0 129) (S_.2.2.1 218 0 w_.toNat)) ∧ (∀ n_ : Int, 1 ≤ n_ → n_ < N_ → nok F_ (S_.1 13 0 129) (S_.2.2.1 219 0 n_.toNat)) ∧ mad F_ S_
def lnf (F_ : Int) (S_ : sm_S) (x_ : Int) : Int := if x_ < F_ then x_ - 1 else S_.2.2.1 218 0 (2 * x_).toNat
def noi (F_ : Int) (S_ : sm_S) (x_ t_ : Int) : Int := if F_ ≤ x_ ∧ S_.2.2.1 203 0 x_.toNat = 0 then S_.2.2.1 218 0 (2 * x_ + t_).toNat else if t_ = 0 then lnf F_ S_ x_ else S_.2.2.1 219 0 x_.toNat
theorem lnf_b {F_ N_ x_ : Int} {S_ : sm_S} (h_ : gst F_ N_ S_) (hx_ : 1 ≤ x_ ∧ x_ < N_) : nok F_ (S_.1 13 0 129) (lnf F_ S_ x_) := by
  unfold lnf
  have a_ := h_.1.1
  split
  · right
    omega
  · exact h_.2.1 (2 * x_) (by omega) (by omega)
theorem noi_b {F_ N_ x_ t_ : Int} {S_ : sm_S} (h_ : gst F_ N_ S_) (hx_ : 1 ≤ x_ ∧ x_ < N_) (ht_ : 0 ≤ t_ ∧ t_ ≤ 1) : nok F_ (S_.1 13 0 129) (noi F_ S_ x_ t_) := by
  unfold noi
  split
  · exact h_.2.1 (2 * x_ + t_) (by omega) (by omega)
  · split
    · exact lnf_b h_ hx_
    · exact h_.2.2.1 x_ hx_.1 hx_.2
/-- a_ task more -/
def jap (s_ w_ : Int) (S_ S'_ : sm_S) : Prop := S'_.1 13 0 137 = S_.1 13 0 137 + 1 ∧ (∀ j_, S'_.2.2.1 220 0 j_ = if j_ = (S_.1 13 0 137).toNat then w_ else S_.2.2.1 220 0 j_) ∧ ∀ j_, S'_.2.2.1 221 0 j_ = if j_ = (S_.1 13 0 137).toNat then s_ else S_.2.2.1 221 0 j_
def jgd (F_ N_ : Int) (S_ : sm_S) (s_ w_ : Int) : Prop := (s_ = 1 ∧ 1 ≤ w_ ∧ w_ < N_ ∧ S_.2.2.1 202 0 w_.toNat = 1 ∧ (w_ < F_ ∨ (S_.2.2.1 203 0 w_.toNat = 1 ∧ S_.2.2.1 210 0 (2 * w_).toNat < 1000000000))) ∨ (s_ = 0 ∧ 2 * F_ ≤ w_ ∧ w_ < 2 * N_ ∧ S_.2.2.1 202 0 (w_ / 2).toNat = 1 ∧ S_.2.2.1 210 0 w_.toNat < 1000000000)
def jrk (S_ : sm_S) (s_ w_ : Int) : Int := if s_ = 1 then 3 * w_ + 2 else 3 * (w_ / 2) + S_.2.2.1 211 0 w_.toNat
def jdn (S_ : sm_S) (s_ w_ : Int) : Prop := (s_ = 1 ∧ S_.2.2.1 219 0 w_.toNat ≠ -1) ∨ (s_ ≠ 1 ∧ S_.2.2.1 218 0 w_.toNat ≠ -1)
def jsk (F_ N_ : Int) (S_ : sm_S) : Prop := ∀ i_ : Int, 0 ≤ i_ → i_ < S_.1 13 0 137 → jgd F_ N_ S_ (S_.2.2.1 221 0 i_.toNat) (S_.2.2.1 220 0 i_.toNat) ∧ jrk S_ (S_.2.2.1 221 0 i_.toNat) (S_.2.2.1 220 0 i_.toNat) + i_ ≤ 3042
noncomputable def tpv_ (S_ : sm_S) : Int := if S_.1 13 0 137 = 0 then 0 else if (S_.2.2.1 221 0 (S_.1 13 0 137 - 1).toNat = 1 ∧ S_.2.2.1 219 0 (S_.2.2.1 220 0 (S_.1 13 0 137 - 1).toNat).toNat ≠ -1) ∨ (S_.2.2.1 221 0 (S_.1 13 0 137 - 1).toNat ≠ 1 ∧ S_.2.2.1 218 0 (S_.2.2.1 220 0 (S_.1 13 0 137 - 1).toNat).toNat ≠ -1) then 4000 + S_.1 13 0 137 else jrk S_ (S_.2.2.1 221 0 (S_.1 13 0 137 - 1).toNat) (S_.2.2.1 220 0 (S_.1 13 0 137 - 1).toNat)
noncomputable def mea_ (N_ : Int) (S_ : sm_S) : Nat := 20000 * inc N_ S_ + (tpv_ S_).toNat
theorem jrk_b {F_ N_ s_ w_ : Int} {S_ : sm_S} (hI_ : gi S_) (h_ : jgd F_ N_ S_ s_ w_) (hF_ : 1 ≤ F_) : 0 ≤ jrk S_ s_ w_ := by
  unfold jrk
  have c_ : 0 ≤ S_.2.2.1 211 0 w_.toNat := (hI_.2 211 0 _).1
  rcases h_ with h_ | h_
  · rw [if_pos h_.1]; omega
  · rw [if_neg (by omega)]; omega
theorem jsk_c {F_ N_ : Int} {S_ : sm_S} (hI_ : gi S_) (h_ : jsk F_ N_ S_) (hF_ : 1 ≤ F_) : S_.1 13 0 137 ≤ 3043 := by
  by_cases z_ : S_.1 13 0 137 ≤ 3043
  · exact z_
  · have q_ := h_ 3043 (by omega) (by omega)
    have r_ := jrk_b hI_ q_.1 hF_
    omega
theorem tpv_b {F_ N_ : Int} {S_ : sm_S} (hI_ : gi S_) (h_ : jsk F_ N_ S_) (hF_ : 1 ≤ F_) (hc_ : 0 ≤ S_.1 13 0 137) : 0 ≤ tpv_ S_ ∧ tpv_ S_ ≤ 7043 := by
  have c_ := jsk_c hI_ h_ hF_
  unfold tpv_
  split
  · omega
  · split
    · omega
    · have q_ := h_ (S_.1 13 0 137 - 1) (by omega) (by omega)
      have r_ := jrk_b hI_ q_.1 hF_
      omega
/-- the_ same rows for_ tasks: only the_ rows of_ gates change -/
theorem jgd_cg {F_ N_ s_ w_ : Int} {S_ S'_ : sm_S} (h_ : jgd F_ N_ S_ s_ w_) (e2_ : S'_.2.2.1 202 0 = S_.2.2.1 202 0) (e3_ : S'_.2.2.1 203 0 = S_.2.2.1 203 0) (e10 : S'_.2.2.1 210 0 = S_.2.2.1 210 0) : jgd F_ N_ S'_ s_ w_ := by
  unfold jgd
  rw [e2_, e3_, e10]
  exact h_
theorem jrk_cg {s_ w_ : Int} {S_ S'_ : sm_S} (e11 : S'_.2.2.1 211 0 = S_.2.2.1 211 0) : jrk S'_ s_ w_ = jrk S_ s_ w_ := by
  unfold jrk
  rw [e11]
theorem jsk_cg {F_ N_ : Int} {S_ S'_ : sm_S} (h_ : jsk F_ N_ S_) (ej_ : S'_.1 13 0 137 = S_.1 13 0 137) (e20_ : S'_.2.2.1 220 0 = S_.2.2.1 220 0) (e21_ : S'_.2.2.1 221 0 = S_.2.2.1 221 0) (e2_ : S'_.2.2.1 202 0 = S_.2.2.1 202 0) (e3_ : S'_.2.2.1 203 0 = S_.2.2.1 203 0) (e10 : S'_.2.2.1 210 0 = S_.2.2.1 210 0) (e11 : S'_.2.2.1 211 0 = S_.2.2.1 211 0) : jsk F_ N_ S'_ := fun i_ a_ b_ => by
  rw [ej_] at b_
  rw [e20_, e21_, jrk_cg e11]
  exact ⟨jgd_cg (h_ i_ a_ b_).1 e2_ e3_ e10, (h_ i_ a_ b_).2⟩
theorem jsk_ap {F_ N_ s_ w_ : Int} {S_ S'_ : sm_S} (h_ : jsk F_ N_ S_) (a_ : jap s_ w_ S_ S'_) (hc_ : 0 ≤ S_.1 13 0 137) (g_ : jgd F_ N_ S_ s_ w_) (r_ : jrk S_ s_ w_ + S_.1 13 0 137 ≤ 3042) (e2_ : S'_.2.2.1 202 0 = S_.2.2.1 202 0) (e3_ : S'_.2.2.1 203 0 = S_.2.2.1 203 0) (e10 : S'_.2.2.1 210 0 = S_.2.2.1 210 0) (e11 : S'_.2.2.1 211 0 = S_.2.2.1 211 0) : jsk F_ N_ S'_ := fun i_ i0_ i1_ => by
  rw [a_.1] at i1_
  rw [a_.2.1, a_.2.2, jrk_cg e11]
  by_cases z_ : i_.toNat = (S_.1 13 0 137).toNat
  · rw [if_pos z_, if_pos z_]
    exact ⟨jgd_cg g_ e2_ e3_ e10, by omega⟩
  · rw [if_neg z_, if_neg z_]
    exact ⟨jgd_cg (h_ i_ i0_ (by omega)).1 e2_ e3_ e10, (h_ i_ i0_ (by omega)).2⟩
theorem inc_cg {N_ : Int} {S_ S'_ : sm_S} (e1_ : S'_.2.2.1 218 0 = S_.2.2.1 218 0) (e2_ : S'_.2.2.1 219 0 = S_.2.2.1 219 0) : inc N_ S'_ = inc N_ S_ := by
  unfold inc
  rw [e1_, e2_]
theorem inc_g {N_ w_ v_ : Int} {S_ S'_ : sm_S} (hw_ : 0 ≤ w_ ∧ w_ < 2 * N_) (h0_ : S_.2.2.1 218 0 w_.toNat = -1) (hv_ : v_ ≠ -1) (e1_ : ∀ j_, S'_.2.2.1 218 0 j_ = if j_ = w_.toNat then v_ else S_.2.2.1 218 0 j_) (e2_ : S'_.2.2.1 219 0 = S_.2.2.1 219 0) : inc N_ S'_ + 1 = inc N_ S_ := by
  have u_ := cn1_up (f := isn (S'_.2.2.1 218 0)) (g := isn (S_.2.2.1 218 0)) (j := w_.toNat) (fun z_ => by have := isn_1.mp z_; rw [e1_, if_pos rfl] at this; exact hv_ this) (isn_1.mpr h0_) (fun k_ hk_ => by unfold isn; rw [e1_, if_neg hk_]) (n := (2 * N_).toNat) (by omega)
  unfold inc
  rw [e2_]
  omega
theorem inc_t {N_ w_ v_ : Int} {S_ S'_ : sm_S} (hw_ : 0 ≤ w_ ∧ w_ < N_) (h0_ : S_.2.2.1 219 0 w_.toNat = -1) (hv_ : v_ ≠ -1) (e1_ : ∀ j_, S'_.2.2.1 219 0 j_ = if j_ = w_.toNat then v_ else S_.2.2.1 219 0 j_) (e2_ : S'_.2.2.1 218 0 = S_.2.2.1 218 0) : inc N_ S'_ + 1 = inc N_ S_ := by
  have u_ := cn1_up (f := isn (S'_.2.2.1 219 0)) (g := isn (S_.2.2.1 219 0)) (j := w_.toNat) (fun z_ => by have := isn_1.mp z_; rw [e1_, if_pos rfl] at this; exact hv_ this) (isn_1.mpr h0_) (fun k_ hk_ => by unfold isn; rw [e1_, if_neg hk_]) (n := N_.toNat) (by omega)
  unfold inc
  rw [e2_]
  omega
theorem nok_up {F_ g_ g'_ v_ : Int} (h_ : nok F_ g_ v_) (hg_ : g_ ≤ g'_) : nok F_ g'_ v_ := by
  rcases h_ with h_ | h_
  · exact Or.inl h_
  · exact Or.inr ⟨h_.1, by omega⟩
/-- a_ gate is_ made: fewer things are_ left -/
theorem gst_g {F_ N_ w_ v_ : Int} {S_ S1_ S'_ : sm_S} (h_ : gst F_ N_ S_) (hw_ : 2 * F_ ≤ w_ ∧ w_ < 2 * N_) (hF_ : 0 ≤ F_) (h0_ : S_.2.2.1 218 0 w_.toNat = -1) (hv_ : v_ = F_ - 1 + S_.1 13 0 129 ∧ 0 ≤ v_) (eg_ : S'_.1 13 0 129 = S_.1 13 0 129 + 1) (e1_ : ∀ j_, S'_.2.2.1 218 0 j_ = if j_ = w_.toNat then v_ else S_.2.2.1 218 0 j_) (e2_ : S'_.2.2.1 219 0 = S_.2.2.1 219 0) (m_ : mad F_ S'_) : gst F_ N_ S'_ ∧ inc N_ S'_ + 1 = inc N_ S_ := by
  have u_ := inc_g (N_ := N_) ⟨by omega, hw_.2⟩ h0_ (by omega) e1_ e2_
  refine ⟨⟨by have := h_.1; omega, fun x_ x0_ x1_ => ?_, fun x_ x0_ x1_ => ?_, m_⟩, u_⟩
  · rw [e1_, eg_]
    split
    · right
      omega
    · exact nok_up (h_.2.1 x_ x0_ x1_) (by omega)
  · rw [e2_, eg_]
    exact nok_up (h_.2.2.1 x_ x0_ x1_) (by omega)
theorem gst_t {F_ N_ w_ v_ : Int} {S_ S1_ S'_ : sm_S} (h_ : gst F_ N_ S_) (hw_ : 1 ≤ w_ ∧ w_ < N_) (h0_ : S_.2.2.1 219 0 w_.toNat = -1) (hv_ : v_ = F_ - 1 + S_.1 13 0 129 ∧ 0 ≤ v_) (eg_ : S'_.1 13 0 129 = S_.1 13 0 129 + 1) (e1_ : ∀ j_, S'_.2.2.1 219 0 j_ = if j_ = w_.toNat then v_ else S_.2.2.1 219 0 j_) (e2_ : S'_.2.2.1 218 0 = S_.2.2.1 218 0) (m_ : mad F_ S'_) : gst F_ N_ S'_ ∧ inc N_ S'_ + 1 = inc N_ S_ := by
  have u_ := inc_t (N_ := N_) ⟨by omega, hw_.2⟩ h0_ (by omega) e1_ e2_
  refine ⟨⟨by have := h_.1; omega, fun x_ x0_ x1_ => ?_, fun x_ x0_ x1_ => ?_, m_⟩, u_⟩
  · rw [e2_, eg_]
    exact nok_up (h_.2.1 x_ x0_ x1_) (by omega)
  · rw [e1_, eg_]
    split
    · right
      omega
    · exact nok_up (h_.2.2.1 x_ x0_ x1_) (by omega)
theorem gst_cg {F_ N_ : Int} {S_ S'_ : sm_S} (h_ : gst F_ N_ S_) (e_ : S'_.1 13 0 129 = S_.1 13 0 129) (e1_ : S'_.2.2.1 218 0 = S_.2.2.1 218 0) (e2_ : S'_.2.2.1 219 0 = S_.2.2.1 219 0) (e6_ : S'_.2.2.1 216 0 = S_.2.2.1 216 0) (e7_ : S'_.2.2.1 217 0 = S_.2.2.1 217 0) (e5_ : S'_.2.2.1 185 0 = S_.2.2.1 185 0) (e106_ : S'_.1 13 0 106 = S_.1 13 0 106) (e134_ : S'_.1 13 0 134 = S_.1 13 0 134) : gst F_ N_ S'_ := by
  unfold gst mad
  rw [inc_cg e1_ e2_, e_, e1_, e2_, e6_, e7_, e5_, e106_, e134_]
  exact h_
theorem mea_c {F_ N_ : Int} {S_ S'_ : sm_S} (hI_ : gi S'_) (h_ : jsk F_ N_ S'_) (hF_ : 1 ≤ F_) (hc_ : 0 ≤ S'_.1 13 0 137) (u_ : inc N_ S'_ + 1 = inc N_ S_) : mea_ N_ S'_ < mea_ N_ S_ := by
  have q_ := tpv_b hI_ h_ hF_ hc_
  unfold mea_
  omega
/-! M_.sources -/
def vw_409 : sx_Wl := ([], [], [])
def vq_409 (F_ : Int) (N_ : Int) (d_ : Int) (S0_ : sm_S) (u_ : Option sm_V) (S1_ : sm_S) : Prop := S0_ = S1_ ∧ ∃ v_ : Int, u_ = some (.inl v_) ∧ (v_ = F_ - 1)
set_option maxHeartbeats 400000 in
set_option maxRecDepth 20000 in
theorem vc_409 {sc_ : Nat × (Nat → Int)} (F_ : Int) (N_ : Int) (d_ : Int) (S0_ : sm_S) (hI_ : gi S0_) (hd_ : dmp F_ N_ d_ S0_) : sm_T (mt_P sc_) 0 409 (0, [some (.inr (.inr (some (13, 0))))], [], S0_) (fun ro9_ => ∃ u_ S1_, ro9_ = (.inl u_, S1_, 0) ∧ vq_409 F_ N_ d_ S0_ u_ S1_) := by
  have hF_ : ai_fr (sx_W vw_409) S0_ S0_ := ai_fr_rf
  have d1_ := hd_.1
  have q9_ : S0_.2.2.1 154 0 d_.toNat + S0_.2.2.1 155 0 d_.toNat = F_ - 1 := by (obtain ⟨F1_, I9_, R9_, N1_, k1_, -⟩ := hd_.2; omega)
  have e1_ : S0_.2.2.1 154 0 (S0_.1 13 0 105).toNat = S0_.2.2.1 154 0 d_.toNat := by rw [d1_.2.2.1]
  have e2_ : S0_.2.2.1 155 0 (S0_.1 13 0 105).toNat = S0_.2.2.1 155 0 d_.toNat := by rw [d1_.2.2.1]
  have bx1_ : 0 ≤ S0_.1 13 0 105 ∧ S0_.1 13 0 105 ≤ 5 := hI_.1 13 0 105 rfl
  refine sm_T_go 4 (c1 := (8, [some (.inr (.inr (some (13, 0))))], [.inl (S0_.1 13 0 105), .inr (.inr (some (154, 0)))], S0_)) rfl ?_
  refine sm_T_iald (n := 6) rfl rfl (by omega) (by omega) ?_
  have bx2_ : 0 ≤ S0_.2.2.1 154 0 (S0_.1 13 0 105).toNat ∧ S0_.2.2.1 154 0 (S0_.1 13 0 105).toNat ≤ 12 := hI_.2 154 0 _
  refine sm_T_go 4 (c1 := (17, [some (.inr (.inr (some (13, 0))))], [.inl (S0_.1 13 0 105), .inr (.inr (some (155, 0))), .inl (S0_.2.2.1 154 0 (S0_.1 13 0 105).toNat)], S0_)) rfl ?_
  refine sm_T_iald (n := 6) rfl rfl (by omega) (by omega) ?_
  have bx3_ : 0 ≤ S0_.2.2.1 155 0 (S0_.1 13 0 105).toNat ∧ S0_.2.2.1 155 0 (S0_.1 13 0 105).toNat ≤ 6 := hI_.2 155 0 _
  refine sm_T_bin (w := (S0_.2.2.1 154 0 (S0_.1 13 0 105).toNat) + (S0_.2.2.1 155 0 (S0_.1 13 0 105).toNat)) rfl (bi_add (by omega) (by omega) (by omega)) ?_ -- pc_ 18
  refine sm_T_ri rfl ⟨_, _, rfl, rfl, _, rfl, ?_⟩
  omega
/-! M_.make -/
def vw_410 : sx_Wl := ([(13, 129)], [216, 217], [])
def vq_410 (c_ : Int) (a_ : Int) (b_ : Int) (e_ : Int) (F_ : Int) (N_ : Int) (d_ : Int) (S0_ : sm_S) (u_ : Option sm_V) (S1_ : sm_S) : Prop := ∃ v_ : Int, u_ = some (.inl v_) ∧ gi S1_ ∧ ai_fr (sx_W vw_410) S0_ S1_ ∧ (v_ = F_ - 1 + S0_.1 13 0 129 ∧ S1_.1 13 0 129 = S0_.1 13 0 129 + 1 ∧ mad F_ S1_)
set_option maxHeartbeats 1000000 in
set_option maxRecDepth 20000 in
theorem vc_410 {sc_ : Nat × (Nat → Int)} (c_ : Int) (a_ : Int) (b_ : Int) (e_ : Int) (F_ : Int) (N_ : Int) (d_ : Int) (S0_ : sm_S) (hI_ : gi S0_) (hd_ : dmp F_ N_ d_ S0_) (hg_ : 0 ≤ (S0_.1 13 0 129) ∧ (S0_.1 13 0 129) ≤ 3100) (hc_ : -1 ≤ c_ ∧ c_ ≤ 11 ∧ (0 ≤ c_ ∨ (S0_.1 13 0 134) = 1)) (ha_ : 0 ≤ a_ ∧ a_ < F_ - 1 + (S0_.1 13 0 129) ∧ -1 ≤ b_ ∧ b_ < F_ - 1 + (S0_.1 13 0 129) ∧ -1 ≤ e_ ∧ e_ < F_ - 1 + (S0_.1 13 0 129)) (hb_ : ∀ k9_ : Int, (k9_ = 1 ∨ k9_ = 2) → 0 ≤ c_ → k9_ < S0_.2.2.1 185 0 (12 * S0_.1 13 0 106 + c_).toNat → 0 ≤ (if k9_ = 1 then b_ else e_) ∧ (if k9_ = 1 then b_ else e_) < F_ - 1 + S0_.1 13 0 129) (hm9_ : mad F_ S0_) : sm_T (mt_P sc_) 1 410 (0, [some (.inr (.inr (some (13, 0)))), some (.inl c_), some (.inl a_), some (.inl b_), some (.inl e_)], [], S0_) (fun ro9_ => ∃ u_ S1_, ro9_ = (.inl u_, S1_, 0) ∧ vq_410 c_ a_ b_ e_ F_ N_ d_ S0_ u_ S1_) := by
  have hF_ : ai_fr (sx_W vw_410) S0_ S0_ := ai_fr_rf
  have d1_ := hd_.1
  have bx1_ : 0 ≤ S0_.1 13 0 129 ∧ S0_.1 13 0 129 ≤ 8191 := hI_.1 13 0 129 rfl
  refine sm_T_go 5 (c1 := (9, [some (.inr (.inr (some (13, 0)))), some (.inl c_), some (.inl a_), some (.inl b_), some (.inl e_)], [.inl c_, .inl (S0_.1 13 0 129), .inr (.inr (some (216, 0)))], S0_)) rfl ?_
  refine sm_T_iast (n := 8192) rfl rfl (by omega) (by omega) ?_
  have hIx2_ : gi (sm_aI S0_ 216 0 (S0_.1 13 0 129).toNat c_) := gi_aI hI_ (show (-1) ≤ c_ ∧ c_ ≤ 11 from ⟨by omega, by omega⟩)
  have hFx3_ : ai_fr (sx_W vw_410) S0_ (sm_aI S0_ 216 0 (S0_.1 13 0 129).toNat c_) := ai_fr_tr hF_ (ai_fr_aI rfl)
  refine sm_T_go 5 (c1 := (19, [some (.inr (.inr (some (13, 0)))), some (.inl c_), some (.inl a_), some (.inl b_), some (.inl e_)], [.inl (S0_.1 13 0 129), .inl 3, .inr (.inr (some (217, 0)))], sm_aI S0_ 216 0 (S0_.1 13 0 129).toNat c_)) rfl ?_
  refine sm_T_bin (w := 3 * (S0_.1 13 0 129)) rfl (bi_mul (by omega) (by omega) (by omega)) ?_ -- pc_ 19
  refine sm_T_go 1 (c1 := (21, [some (.inr (.inr (some (13, 0)))), some (.inl c_), some (.inl a_), some (.inl b_), some (.inl e_)], [.inl a_, .inl (3 * (S0_.1 13 0 129)), .inr (.inr (some (217, 0)))], sm_aI S0_ 216 0 (S0_.1 13 0 129).toNat c_)) rfl ?_
  refine sm_T_iast (n := 24576) rfl rfl (by omega) (by omega) ?_
  have hIx4_ : gi (sm_aI (sm_aI S0_ 216 0 (S0_.1 13 0 129).toNat c_) 217 0 (3 * (S0_.1 13 0 129)).toNat a_) := gi_aI hIx2_ (show (-2) ≤ a_ ∧ a_ ≤ 9000 from ⟨by omega, by omega⟩)
  have hFx5_ : ai_fr (sx_W vw_410) S0_ (sm_aI (sm_aI S0_ 216 0 (S0_.1 13 0 129).toNat c_) 217 0 (3 * (S0_.1 13 0 129)).toNat a_) := ai_fr_tr hFx3_ (ai_fr_aI rfl)
  refine sm_T_go 5 (c1 := (31, [some (.inr (.inr (some (13, 0)))), some (.inl c_), some (.inl a_), some (.inl b_), some (.inl e_)], [.inl (S0_.1 13 0 129), .inl 3, .inr (.inr (some (217, 0)))], sm_aI (sm_aI S0_ 216 0 (S0_.1 13 0 129).toNat c_) 217 0 (3 * (S0_.1 13 0 129)).toNat a_)) rfl ?_
  refine sm_T_bin (w := 3 * (S0_.1 13 0 129)) rfl (bi_mul (by omega) (by omega) (by omega)) ?_ -- pc_ 31
  refine sm_T_go 1 (c1 := (33, [some (.inr (.inr (some (13, 0)))), some (.inl c_), some (.inl a_), some (.inl b_), some (.inl e_)], [.inl 1, .inl (3 * (S0_.1 13 0 129)), .inr (.inr (some (217, 0)))], sm_aI (sm_aI S0_ 216 0 (S0_.1 13 0 129).toNat c_) 217 0 (3 * (S0_.1 13 0 129)).toNat a_)) rfl ?_
  refine sm_T_bin (w := 3 * (S0_.1 13 0 129) + 1) rfl (bi_add (by omega) (by omega) (by omega)) ?_ -- pc_ 33
  refine sm_T_go 1 (c1 := (35, [some (.inr (.inr (some (13, 0)))), some (.inl c_), some (.inl a_), some (.inl b_), some (.inl e_)], [.inl b_, .inl (3 * (S0_.1 13 0 129) + 1), .inr (.inr (some (217, 0)))], sm_aI (sm_aI S0_ 216 0 (S0_.1 13 0 129).toNat c_) 217 0 (3 * (S0_.1 13 0 129)).toNat a_)) rfl ?_
  refine sm_T_iast (n := 24576) rfl rfl (by omega) (by omega) ?_
  have hIx6_ : gi (sm_aI (sm_aI (sm_aI S0_ 216 0 (S0_.1 13 0 129).toNat c_) 217 0 (3 * (S0_.1 13 0 129)).toNat a_) 217 0 (3 * (S0_.1 13 0 129) + 1).toNat b_) := gi_aI hIx4_ (show (-2) ≤ b_ ∧ b_ ≤ 9000 from ⟨by omega, by omega⟩)
  have hFx7_ : ai_fr (sx_W vw_410) S0_ (sm_aI (sm_aI (sm_aI S0_ 216 0 (S0_.1 13 0 129).toNat c_) 217 0 (3 * (S0_.1 13 0 129)).toNat a_) 217 0 (3 * (S0_.1 13 0 129) + 1).toNat b_) := ai_fr_tr hFx5_ (ai_fr_aI rfl)
  refine sm_T_go 5 (c1 := (45, [some (.inr (.inr (some (13, 0)))), some (.inl c_), some (.inl a_), some (.inl b_), some (.inl e_)], [.inl (S0_.1 13 0 129), .inl 3, .inr (.inr (some (217, 0)))], sm_aI (sm_aI (sm_aI S0_ 216 0 (S0_.1 13 0 129).toNat c_) 217 0 (3 * (S0_.1 13 0 129)).toNat a_) 217 0 (3 * (S0_.1 13 0 129) + 1).toNat b_)) rfl ?_
  refine sm_T_bin (w := 3 * (S0_.1 13 0 129)) rfl (bi_mul (by omega) (by omega) (by omega)) ?_ -- pc_ 45
  refine sm_T_go 1 (c1 := (47, [some (.inr (.inr (some (13, 0)))), some (.inl c_), some (.inl a_), some (.inl b_), some (.inl e_)], [.inl 2, .inl (3 * (S0_.1 13 0 129)), .inr (.inr (some (217, 0)))], sm_aI (sm_aI (sm_aI S0_ 216 0 (S0_.1 13 0 129).toNat c_) 217 0 (3 * (S0_.1 13 0 129)).toNat a_) 217 0 (3 * (S0_.1 13 0 129) + 1).toNat b_)) rfl ?_
  refine sm_T_bin (w := 3 * (S0_.1 13 0 129) + 2) rfl (bi_add (by omega) (by omega) (by omega)) ?_ -- pc_ 47
  refine sm_T_go 1 (c1 := (50, [some (.inr (.inr (some (13, 0)))), some (.inl c_), some (.inl a_), some (.inl b_), some (.inl e_)], [.inl e_, .inl (3 * (S0_.1 13 0 129) + 2), .inr (.inr (some (217, 0)))], sm_aI (sm_aI (sm_aI S0_ 216 0 (S0_.1 13 0 129).toNat c_) 217 0 (3 * (S0_.1 13 0 129)).toNat a_) 217 0 (3 * (S0_.1 13 0 129) + 1).toNat b_)) rfl ?_
  refine sm_T_iast (n := 24576) rfl rfl (by omega) (by omega) ?_
  have hIx8_ : gi (sm_aI (sm_aI (sm_aI (sm_aI S0_ 216 0 (S0_.1 13 0 129).toNat c_) 217 0 (3 * (S0_.1 13 0 129)).toNat a_) 217 0 (3 * (S0_.1 13 0 129) + 1).toNat b_) 217 0 (3 * (S0_.1 13 0 129) + 2).toNat e_) := gi_aI hIx6_ (show (-2) ≤ e_ ∧ e_ ≤ 9000 from ⟨by omega, by omega⟩)
  have hFx9_ : ai_fr (sx_W vw_410) S0_ (sm_aI (sm_aI (sm_aI (sm_aI S0_ 216 0 (S0_.1 13 0 129).toNat c_) 217 0 (3 * (S0_.1 13 0 129)).toNat a_) 217 0 (3 * (S0_.1 13 0 129) + 1).toNat b_) 217 0 (3 * (S0_.1 13 0 129) + 2).toNat e_) := ai_fr_tr hFx7_ (ai_fr_aI rfl)
  refine sm_T_go 4 (c1 := (57, [some (.inr (.inr (some (13, 0)))), some (.inl c_), some (.inl a_), some (.inl b_), some (.inl e_)], [.inl 1, .inl (S0_.1 13 0 129), .inr (.inr (some (13, 0)))], sm_aI (sm_aI (sm_aI (sm_aI S0_ 216 0 (S0_.1 13 0 129).toNat c_) 217 0 (3 * (S0_.1 13 0 129)).toNat a_) 217 0 (3 * (S0_.1 13 0 129) + 1).toNat b_) 217 0 (3 * (S0_.1 13 0 129) + 2).toNat e_)) rfl ?_
  refine sm_T_bin (w := (S0_.1 13 0 129) + 1) rfl (bi_add (by omega) (by omega) (by omega)) ?_ -- pc_ 57
  have hIx10_ : gi (sm_pI (sm_aI (sm_aI (sm_aI (sm_aI S0_ 216 0 (S0_.1 13 0 129).toNat c_) 217 0 (3 * (S0_.1 13 0 129)).toNat a_) 217 0 (3 * (S0_.1 13 0 129) + 1).toNat b_) 217 0 (3 * (S0_.1 13 0 129) + 2).toNat e_) 13 0 129 ((S0_.1 13 0 129) + 1)) := gi_pI hIx8_ (show 0 ≤ (S0_.1 13 0 129) + 1 ∧ (S0_.1 13 0 129) + 1 ≤ 8191 from ⟨by omega, by omega⟩)
  have hFx11_ : ai_fr (sx_W vw_410) S0_ (sm_pI (sm_aI (sm_aI (sm_aI (sm_aI S0_ 216 0 (S0_.1 13 0 129).toNat c_) 217 0 (3 * (S0_.1 13 0 129)).toNat a_) 217 0 (3 * (S0_.1 13 0 129) + 1).toNat b_) 217 0 (3 * (S0_.1 13 0 129) + 2).toNat e_) 13 0 129 ((S0_.1 13 0 129) + 1)) := ai_fr_tr hFx9_ (ai_fr_pI rfl)
  refine sm_T_go 2 (c1 := (62, [some (.inr (.inr (some (13, 0)))), some (.inl c_), some (.inl a_), some (.inl b_), some (.inl e_)], [.inr (.inr (some (13, 0)))], sm_pI (sm_aI (sm_aI (sm_aI (sm_aI S0_ 216 0 (S0_.1 13 0 129).toNat c_) 217 0 (3 * (S0_.1 13 0 129)).toNat a_) 217 0 (3 * (S0_.1 13 0 129) + 1).toNat b_) 217 0 (3 * (S0_.1 13 0 129) + 2).toNat e_) 13 0 129 ((S0_.1 13 0 129) + 1))) rfl ?_
  refine sm_T_cal (d1 := 0) (Q1 := vq_409 F_ N_ d_ (sm_pI (sm_aI (sm_aI (sm_aI (sm_aI S0_ 216 0 (S0_.1 13 0 129).toNat c_) 217 0 (3 * (S0_.1 13 0 129)).toNat a_) 217 0 (3 * (S0_.1 13 0 129) + 1).toNat b_) 217 0 (3 * (S0_.1 13 0 129) + 2).toNat e_) 13 0 129 ((S0_.1 13 0 129) + 1))) rfl rfl (by decide) (vc_409 F_ N_ d_ (sm_pI (sm_aI (sm_aI (sm_aI (sm_aI S0_ 216 0 (S0_.1 13 0 129).toNat c_) 217 0 (3 * (S0_.1 13 0 129)).toNat a_) 217 0 (3 * (S0_.1 13 0 129) + 1).toNat b_) 217 0 (3 * (S0_.1 13 0 129) + 2).toNat e_) 13 0 129 ((S0_.1 13 0 129) + 1)) hIx10_ (by exact dmp_fr (w_ := ([(13, 129)], [216, 217], [])) hd_ (ai_fr_tr (ai_fr_tr (ai_fr_tr (ai_fr_tr (ai_fr_aI rfl) (ai_fr_aI rfl)) (ai_fr_aI rfl)) (ai_fr_aI rfl)) (ai_fr_pI rfl)))) (fun u_ Sx12_ px15_ => ?_)
  obtain ⟨rfl, vx17_, rfl, px15_⟩ := px15_
  have e62_ := px15_
  refine sm_T_go 2 (c1 := (69, [some (.inr (.inr (some (13, 0)))), some (.inl c_), some (.inl a_), some (.inl b_), some (.inl e_)], [.inl ((S0_.1 13 0 129) + 1), .inl vx17_], sm_pI (sm_aI (sm_aI (sm_aI (sm_aI S0_ 216 0 (S0_.1 13 0 129).toNat c_) 217 0 (3 * (S0_.1 13 0 129)).toNat a_) 217 0 (3 * (S0_.1 13 0 129) + 1).toNat b_) 217 0 (3 * (S0_.1 13 0 129) + 2).toNat e_) 13 0 129 ((S0_.1 13 0 129) + 1))) rfl ?_
  refine sm_T_bin (w := vx17_ + (S0_.1 13 0 129) + 1) rfl (bi_add (by omega) (by omega) (by omega)) ?_ -- pc_ 69
  refine sm_T_go 1 (c1 := (71, [some (.inr (.inr (some (13, 0)))), some (.inl c_), some (.inl a_), some (.inl b_), some (.inl e_)], [.inl 1, .inl (vx17_ + (S0_.1 13 0 129) + 1)], sm_pI (sm_aI (sm_aI (sm_aI (sm_aI S0_ 216 0 (S0_.1 13 0 129).toNat c_) 217 0 (3 * (S0_.1 13 0 129)).toNat a_) 217 0 (3 * (S0_.1 13 0 129) + 1).toNat b_) 217 0 (3 * (S0_.1 13 0 129) + 2).toNat e_) 13 0 129 ((S0_.1 13 0 129) + 1))) rfl ?_
  refine sm_T_bin (w := vx17_ + (S0_.1 13 0 129)) rfl (bi_sub (by omega) (by omega) (by omega)) ?_ -- pc_ 71
  refine sm_T_ri rfl ⟨_, _, rfl, _, rfl, hIx10_, hFx11_, ?_⟩
  refine ⟨by ((try simp only [rd_eq, rd_ne, rf_eq, rf_nk, rf_nt, rd_fa, rd_af, rd_fl, rd_al, rd_lf, rd_la, rd_leq, rd_lne, rd_fr, rd_ar, ne_eq, Nat.reduceEqDiff, not_false_eq_true]); omega), by (try simp only [rd_eq, rd_ne, rf_eq, rf_nk, rf_nt, rd_fa, rd_af, rd_fl, rd_al, rd_lf, rd_la, rd_leq, rd_lne, rd_fr, rd_ar, ne_eq, Nat.reduceEqDiff, not_false_eq_true]), fun g9_ u0_ u1_ => ?_⟩
  (try simp only [rd_eq, rd_ne, rf_eq, rf_nk, rf_nt, rd_fa, rd_af, rd_fl, rd_al, rd_lf, rd_la, rd_leq, rd_lne, rd_fr, rd_ar, ne_eq, Nat.reduceEqDiff, not_false_eq_true] at *)
  (try simp only [rd_eq, rd_ne, rf_eq, rf_nk, rf_nt, rd_fa, rd_af, rd_fl, rd_al, rd_lf, rd_la, rd_leq, rd_lne, rd_fr, rd_ar, ne_eq, Nat.reduceEqDiff, not_false_eq_true])
  by_cases z9_ : g9_.toNat = (S0_.1 13 0 129).toNat
  · rw [if_pos z9_]
    refine ⟨by omega, fun k9_ v0_ v1_ => ?_⟩
    have K9_ : k9_ = 0 ∨ k9_ = 1 ∨ k9_ = 2 := by omega
    rcases K9_ with K9_ | K9_ | K9_ <;> subst K9_
    · rw [if_neg (by omega), if_neg (by omega), if_pos (by omega)]; exact ⟨by omega, fun _ => by omega⟩
    · rw [if_neg (by omega), if_pos (by omega)]; exact ⟨by omega, fun v2_ => by (have w9_ := hb_ 1 (Or.inl rfl) (by omega) (by omega); rw [if_pos rfl] at w9_; omega)⟩
    · rw [if_pos (by omega)]; exact ⟨by omega, fun v2_ => by (have w9_ := hb_ 2 (Or.inr rfl) (by omega) (by omega); simp only [if_neg (show ¬ ((2 : Int) = 1) by decide)] at w9_; omega)⟩
  · rw [if_neg z9_]
    have w9_ := hm9_ g9_ u0_ (by omega)
    refine ⟨w9_.1, fun k9_ v0_ v1_ => ?_⟩
    rw [if_neg (by omega), if_neg (by omega), if_neg (by omega)]
    exact w9_.2 k9_ v0_ v1_
/-! M_.turned -/
def vw_411 : sx_Wl := ([(13, 129), (13, 134)], [216, 217], [])
def vq_411 (a_ : Int) (F_ : Int) (N_ : Int) (d_ : Int) (S0_ : sm_S) (u_ : Option sm_V) (S1_ : sm_S) : Prop := ∃ v_ : Int, u_ = some (.inl v_) ∧ gi S1_ ∧ ai_fr (sx_W vw_411) S0_ S1_ ∧ (v_ = F_ - 1 + S0_.1 13 0 129 ∧ S1_.1 13 0 129 = S0_.1 13 0 129 + 1 ∧ mad F_ S1_)
set_option maxHeartbeats 1000000 in
set_option maxRecDepth 20000 in
theorem vc_411 {sc_ : Nat × (Nat → Int)} (a_ : Int) (F_ : Int) (N_ : Int) (d_ : Int) (S0_ : sm_S) (hI_ : gi S0_) (hd_ : dmp F_ N_ d_ S0_) (hg_ : 0 ≤ (S0_.1 13 0 129) ∧ (S0_.1 13 0 129) ≤ 3100) (ha_ : 0 ≤ a_ ∧ a_ < F_ - 1 + (S0_.1 13 0 129)) (hv_ : (S0_.1 13 0 107) = -1 ∨ S0_.2.2.1 185 0 (12 * S0_.1 13 0 106 + S0_.1 13 0 107).toNat = 1) (hm9_ : mad F_ S0_) : sm_T (mt_P sc_) 2 411 (0, [some (.inr (.inr (some (13, 0)))), some (.inl a_)], [], S0_) (fun ro9_ => ∃ u_ S1_, ro9_ = (.inl u_, S1_, 0) ∧ vq_411 a_ F_ N_ d_ S0_ u_ S1_) := by
  have hF_ : ai_fr (sx_W vw_411) S0_ S0_ := ai_fr_rf
  have d1_ := hd_.1
  have b34_ : 0 ≤ S0_.1 13 0 134 ∧ S0_.1 13 0 134 ≤ 1 := hI_.1 13 0 134 rfl
  have bx1_ : 0 ≤ S0_.1 13 0 134 ∧ S0_.1 13 0 134 ≤ 1 := hI_.1 13 0 134 rfl
  refine sm_T_go 3 (c1 := (5, [some (.inr (.inr (some (13, 0)))), some (.inl a_)], [.inl (S0_.1 13 0 134), .inr (.inr (some (13, 0)))], S0_)) rfl ?_
  refine sm_T_b0 (a := 1) (z := 11) rfl (fun cx2_ => ?_) (fun cx2_ => ?_)
  · have cx2_ : (S0_.1 13 0 134) ≠ 0 := of_decide_eq_true cx2_
    have hIx3_ : gi (sm_pI S0_ 13 0 134 1) := gi_pI hI_ (show 0 ≤ 1 ∧ 1 ≤ 1 from ⟨by omega, by omega⟩)
    have hFx4_ : ai_fr (sx_W vw_411) S0_ (sm_pI S0_ 13 0 134 1) := ai_fr_tr hF_ (ai_fr_pI rfl)
    have bx5_ : (-1) ≤ S0_.1 13 0 107 ∧ S0_.1 13 0 107 ≤ 11 := hI_.1 13 0 107 rfl
    refine sm_T_go 9 (c1 := (32, [some (.inr (.inr (some (13, 0)))), some (.inl a_)], [.inl (-1), .inl (-1), .inl a_, .inl (S0_.1 13 0 107), .inr (.inr (some (13, 0)))], sm_pI S0_ 13 0 134 1)) rfl ?_
    refine sm_T_cal (d1 := 1) (Q1 := vq_410 (S0_.1 13 0 107) a_ (-1) (-1) F_ N_ d_ (sm_pI S0_ 13 0 134 1)) rfl rfl (by decide) (vc_410 (S0_.1 13 0 107) a_ (-1) (-1) F_ N_ d_ (sm_pI S0_ 13 0 134 1) hIx3_ (by exact dmp_fr (w_ := ([(13, 134)], [], [])) hd_ (ai_fr_pI rfl)) (by ((try simp only [rd_eq, rd_ne, rf_eq, rf_nk, rf_nt, rd_fa, rd_af, rd_fl, rd_al, rd_lf, rd_la, rd_leq, rd_lne, rd_fr, rd_ar, ne_eq, Nat.reduceEqDiff, not_false_eq_true]); omega)) (by ((try simp only [rd_eq, rd_ne, rf_eq, rf_nk, rf_nt, rd_fa, rd_af, rd_fl, rd_al, rd_lf, rd_la, rd_leq, rd_lne, rd_fr, rd_ar, ne_eq, Nat.reduceEqDiff, not_false_eq_true]); refine ⟨by omega, by omega, ?_⟩; first | exact Or.inr trivial | exact Or.inr rfl | exact Or.inl (by omega))) (by ((try simp only [rd_eq, rd_ne, rf_eq, rf_nk, rf_nt, rd_fa, rd_af, rd_fl, rd_al, rd_lf, rd_la, rd_leq, rd_lne, rd_fr, rd_ar, ne_eq, Nat.reduceEqDiff, not_false_eq_true]); omega)) (by (intro k9_ K9_ c9_ s9_; (try simp only [rd_eq, rd_ne, rf_eq, rf_nk, rf_nt, rd_fa, rd_af, rd_fl, rd_al, rd_lf, rd_la, rd_leq, rd_lne, rd_fr, rd_ar, ne_eq, Nat.reduceEqDiff, not_false_eq_true] at *); exfalso; omega)) (by (intro g9_ u0_ u1_; (try simp only [rd_eq, rd_ne, rf_eq, rf_nk, rf_nt, rd_fa, rd_af, rd_fl, rd_al, rd_lf, rd_la, rd_leq, rd_lne, rd_fr, rd_ar, ne_eq, Nat.reduceEqDiff, not_false_eq_true] at *); have w9_ := hm9_ g9_ u0_ u1_; (try simp only [rd_eq, rd_ne, rf_eq, rf_nk, rf_nt, rd_fa, rd_af, rd_fl, rd_al, rd_lf, rd_la, rd_leq, rd_lne, rd_fr, rd_ar, ne_eq, Nat.reduceEqDiff, not_false_eq_true]); exact ⟨by first | exact Or.inr trivial | exact Or.inr rfl | exact w9_.1 | omega, w9_.2⟩))) (fun u_ Sx6_ px9_ => ?_)
    obtain ⟨vx11_, rfl, hIx7_, hFx8_, px9_⟩ := px9_
    have hFx10_ : ai_fr (sx_W vw_411) S0_ Sx6_ := ai_fr_tr hFx4_ (fr_le hFx8_ rfl)
    have e32_ := px9_
    refine sm_T_ri rfl ⟨_, _, rfl, _, rfl, hIx7_, hFx10_, ?_⟩
    have w9_ := e32_
    (try simp only [rd_eq, rd_ne, rf_eq, rf_nk, rf_nt, rd_fa, rd_af, rd_fl, rd_al, rd_lf, rd_la, rd_leq, rd_lne, rd_fr, rd_ar, ne_eq, Nat.reduceEqDiff, not_false_eq_true] at *)
    exact w9_
  · have cx2_ : ¬ ((S0_.1 13 0 134) ≠ 0) := of_decide_eq_false cx2_
    have bx12_ : (-1) ≤ S0_.1 13 0 107 ∧ S0_.1 13 0 107 ≤ 11 := hI_.1 13 0 107 rfl
    refine sm_T_go 3 (c1 := (13, [some (.inr (.inr (some (13, 0)))), some (.inl a_)], [.inl (-1), .inl (S0_.1 13 0 107), .inr (.inr (some (13, 0)))], S0_)) rfl ?_
    refine sm_T_br (a := 1) (z := 7) rfl (fun cx13_ => ?_) (fun cx13_ => ?_)
    · have cx13_ : (S0_.1 13 0 107) ≠ (-1) := of_decide_eq_true cx13_
      have hIx14_ : gi (sm_pI S0_ 13 0 134 0) := gi_pI hI_ (show 0 ≤ 0 ∧ 0 ≤ 1 from ⟨by omega, by omega⟩)
      have hFx15_ : ai_fr (sx_W vw_411) S0_ (sm_pI S0_ 13 0 134 0) := ai_fr_tr hF_ (ai_fr_pI rfl)
      refine sm_T_go 8 (c1 := (32, [some (.inr (.inr (some (13, 0)))), some (.inl a_)], [.inl (-1), .inl (-1), .inl a_, .inl (S0_.1 13 0 107), .inr (.inr (some (13, 0)))], sm_pI S0_ 13 0 134 0)) rfl ?_
      refine sm_T_cal (d1 := 1) (Q1 := vq_410 (S0_.1 13 0 107) a_ (-1) (-1) F_ N_ d_ (sm_pI S0_ 13 0 134 0)) rfl rfl (by decide) (vc_410 (S0_.1 13 0 107) a_ (-1) (-1) F_ N_ d_ (sm_pI S0_ 13 0 134 0) hIx14_ (by exact dmp_fr (w_ := ([(13, 134)], [], [])) hd_ (ai_fr_pI rfl)) (by ((try simp only [rd_eq, rd_ne, rf_eq, rf_nk, rf_nt, rd_fa, rd_af, rd_fl, rd_al, rd_lf, rd_la, rd_leq, rd_lne, rd_fr, rd_ar, ne_eq, Nat.reduceEqDiff, not_false_eq_true]); omega)) (by ((try simp only [rd_eq, rd_ne, rf_eq, rf_nk, rf_nt, rd_fa, rd_af, rd_fl, rd_al, rd_lf, rd_la, rd_leq, rd_lne, rd_fr, rd_ar, ne_eq, Nat.reduceEqDiff, not_false_eq_true]); refine ⟨by omega, by omega, ?_⟩; first | exact Or.inr trivial | exact Or.inr rfl | exact Or.inl (by omega))) (by ((try simp only [rd_eq, rd_ne, rf_eq, rf_nk, rf_nt, rd_fa, rd_af, rd_fl, rd_al, rd_lf, rd_la, rd_leq, rd_lne, rd_fr, rd_ar, ne_eq, Nat.reduceEqDiff, not_false_eq_true]); omega)) (by (intro k9_ K9_ c9_ s9_; (try simp only [rd_eq, rd_ne, rf_eq, rf_nk, rf_nt, rd_fa, rd_af, rd_fl, rd_al, rd_lf, rd_la, rd_leq, rd_lne, rd_fr, rd_ar, ne_eq, Nat.reduceEqDiff, not_false_eq_true] at *); exfalso; omega)) (by (intro g9_ u0_ u1_; (try simp only [rd_eq, rd_ne, rf_eq, rf_nk, rf_nt, rd_fa, rd_af, rd_fl, rd_al, rd_lf, rd_la, rd_leq, rd_lne, rd_fr, rd_ar, ne_eq, Nat.reduceEqDiff, not_false_eq_true] at *); have w9_ := hm9_ g9_ u0_ u1_; (try simp only [rd_eq, rd_ne, rf_eq, rf_nk, rf_nt, rd_fa, rd_af, rd_fl, rd_al, rd_lf, rd_la, rd_leq, rd_lne, rd_fr, rd_ar, ne_eq, Nat.reduceEqDiff, not_false_eq_true]); exact ⟨by first | exact Or.inr trivial | exact Or.inr rfl | exact w9_.1 | omega, w9_.2⟩))) (fun u_ Sx16_ px19_ => ?_)
      obtain ⟨vx21_, rfl, hIx17_, hFx18_, px19_⟩ := px19_
      have hFx20_ : ai_fr (sx_W vw_411) S0_ Sx16_ := ai_fr_tr hFx15_ (fr_le hFx18_ rfl)
      have e32_ := px19_
      refine sm_T_ri rfl ⟨_, _, rfl, _, rfl, hIx17_, hFx20_, ?_⟩
      have w9_ := e32_
      (try simp only [rd_eq, rd_ne, rf_eq, rf_nk, rf_nt, rd_fa, rd_af, rd_fl, rd_al, rd_lf, rd_la, rd_leq, rd_lne, rd_fr, rd_ar, ne_eq, Nat.reduceEqDiff, not_false_eq_true] at *)
      exact w9_
    · have cx13_ : ¬ ((S0_.1 13 0 107) ≠ (-1)) := of_decide_eq_false cx13_
      have hIx22_ : gi (sm_pI S0_ 13 0 134 1) := gi_pI hI_ (show 0 ≤ 1 ∧ 1 ≤ 1 from ⟨by omega, by omega⟩)
      have hFx23_ : ai_fr (sx_W vw_411) S0_ (sm_pI S0_ 13 0 134 1) := ai_fr_tr hF_ (ai_fr_pI rfl)
      refine sm_T_go 9 (c1 := (32, [some (.inr (.inr (some (13, 0)))), some (.inl a_)], [.inl (-1), .inl (-1), .inl a_, .inl (S0_.1 13 0 107), .inr (.inr (some (13, 0)))], sm_pI S0_ 13 0 134 1)) rfl ?_
      refine sm_T_cal (d1 := 1) (Q1 := vq_410 (S0_.1 13 0 107) a_ (-1) (-1) F_ N_ d_ (sm_pI S0_ 13 0 134 1)) rfl rfl (by decide) (vc_410 (S0_.1 13 0 107) a_ (-1) (-1) F_ N_ d_ (sm_pI S0_ 13 0 134 1) hIx22_ (by exact dmp_fr (w_ := ([(13, 134)], [], [])) hd_ (ai_fr_pI rfl)) (by ((try simp only [rd_eq, rd_ne, rf_eq, rf_nk, rf_nt, rd_fa, rd_af, rd_fl, rd_al, rd_lf, rd_la, rd_leq, rd_lne, rd_fr, rd_ar, ne_eq, Nat.reduceEqDiff, not_false_eq_true]); omega)) (by ((try simp only [rd_eq, rd_ne, rf_eq, rf_nk, rf_nt, rd_fa, rd_af, rd_fl, rd_al, rd_lf, rd_la, rd_leq, rd_lne, rd_fr, rd_ar, ne_eq, Nat.reduceEqDiff, not_false_eq_true]); refine ⟨by omega, by omega, ?_⟩; first | exact Or.inr trivial | exact Or.inr rfl | exact Or.inl (by omega))) (by ((try simp only [rd_eq, rd_ne, rf_eq, rf_nk, rf_nt, rd_fa, rd_af, rd_fl, rd_al, rd_lf, rd_la, rd_leq, rd_lne, rd_fr, rd_ar, ne_eq, Nat.reduceEqDiff, not_false_eq_true]); omega)) (by (intro k9_ K9_ c9_ s9_; (try simp only [rd_eq, rd_ne, rf_eq, rf_nk, rf_nt, rd_fa, rd_af, rd_fl, rd_al, rd_lf, rd_la, rd_leq, rd_lne, rd_fr, rd_ar, ne_eq, Nat.reduceEqDiff, not_false_eq_true] at *); exfalso; omega)) (by (intro g9_ u0_ u1_; (try simp only [rd_eq, rd_ne, rf_eq, rf_nk, rf_nt, rd_fa, rd_af, rd_fl, rd_al, rd_lf, rd_la, rd_leq, rd_lne, rd_fr, rd_ar, ne_eq, Nat.reduceEqDiff, not_false_eq_true] at *); have w9_ := hm9_ g9_ u0_ u1_; (try simp only [rd_eq, rd_ne, rf_eq, rf_nk, rf_nt, rd_fa, rd_af, rd_fl, rd_al, rd_lf, rd_la, rd_leq, rd_lne, rd_fr, rd_ar, ne_eq, Nat.reduceEqDiff, not_false_eq_true]); exact ⟨by first | exact Or.inr trivial | exact Or.inr rfl | exact w9_.1 | omega, w9_.2⟩))) (fun u_ Sx24_ px27_ => ?_)
      obtain ⟨vx29_, rfl, hIx25_, hFx26_, px27_⟩ := px27_
      have hFx28_ : ai_fr (sx_W vw_411) S0_ Sx24_ := ai_fr_tr hFx23_ (fr_le hFx26_ rfl)
      have e32_ := px27_
      refine sm_T_ri rfl ⟨_, _, rfl, _, rfl, hIx25_, hFx28_, ?_⟩
      have w9_ := e32_
      (try simp only [rd_eq, rd_ne, rf_eq, rf_nk, rf_nt, rd_fa, rd_af, rd_fl, rd_al, rd_lf, rd_la, rd_leq, rd_lne, rd_fr, rd_ar, ne_eq, Nat.reduceEqDiff, not_false_eq_true] at *)
      exact w9_
/-! M_.job -/
def vw_412 : sx_Wl := ([(13, 137)], [220, 221], [])
def vq_412 (s_ : Int) (w_ : Int) (S0_ : sm_S) (u_ : Option sm_V) (S1_ : sm_S) : Prop := u_ = none ∧ gi S1_ ∧ ai_fr (sx_W vw_412) S0_ S1_ ∧ (jap s_ w_ S0_ S1_)
set_option maxHeartbeats 400000 in
set_option maxRecDepth 20000 in
theorem vc_412 {sc_ : Nat × (Nat → Int)} (s_ : Int) (w_ : Int) (S0_ : sm_S) (hI_ : gi S0_) (hj_ : (S0_.1 13 0 137) ≤ 8190) (hs_ : 0 ≤ s_ ∧ s_ ≤ 1 ∧ 0 ≤ w_ ∧ w_ ≤ 4095) : sm_T (mt_P sc_) 0 412 (0, [some (.inr (.inr (some (13, 0)))), some (.inl s_), some (.inl w_)], [], S0_) (fun ro9_ => ∃ u_ S1_, ro9_ = (.inl u_, S1_, 0) ∧ vq_412 s_ w_ S0_ u_ S1_) := by
  have hF_ : ai_fr (sx_W vw_412) S0_ S0_ := ai_fr_rf
  have bx1_ : 0 ≤ S0_.1 13 0 137 ∧ S0_.1 13 0 137 ≤ 8191 := hI_.1 13 0 137 rfl
  refine sm_T_go 5 (c1 := (9, [some (.inr (.inr (some (13, 0)))), some (.inl s_), some (.inl w_)], [.inl w_, .inl (S0_.1 13 0 137), .inr (.inr (some (220, 0)))], S0_)) rfl ?_
  refine sm_T_iast (n := 8192) rfl rfl (by omega) (by omega) ?_
  have hIx2_ : gi (sm_aI S0_ 220 0 (S0_.1 13 0 137).toNat w_) := gi_aI hI_ (show 0 ≤ w_ ∧ w_ ≤ 4095 from ⟨by omega, by omega⟩)
  have hFx3_ : ai_fr (sx_W vw_412) S0_ (sm_aI S0_ 220 0 (S0_.1 13 0 137).toNat w_) := ai_fr_tr hF_ (ai_fr_aI rfl)
  refine sm_T_go 5 (c1 := (19, [some (.inr (.inr (some (13, 0)))), some (.inl s_), some (.inl w_)], [.inl s_, .inl (S0_.1 13 0 137), .inr (.inr (some (221, 0)))], sm_aI S0_ 220 0 (S0_.1 13 0 137).toNat w_)) rfl ?_
  refine sm_T_iast (n := 8192) rfl rfl (by omega) (by omega) ?_
  have hIx4_ : gi (sm_aI (sm_aI S0_ 220 0 (S0_.1 13 0 137).toNat w_) 221 0 (S0_.1 13 0 137).toNat s_) := gi_aI hIx2_ (show 0 ≤ s_ ∧ s_ ≤ 1 from ⟨by omega, by omega⟩)
  have hFx5_ : ai_fr (sx_W vw_412) S0_ (sm_aI (sm_aI S0_ 220 0 (S0_.1 13 0 137).toNat w_) 221 0 (S0_.1 13 0 137).toNat s_) := ai_fr_tr hFx3_ (ai_fr_aI rfl)
  refine sm_T_go 4 (c1 := (26, [some (.inr (.inr (some (13, 0)))), some (.inl s_), some (.inl w_)], [.inl 1, .inl (S0_.1 13 0 137), .inr (.inr (some (13, 0)))], sm_aI (sm_aI S0_ 220 0 (S0_.1 13 0 137).toNat w_) 221 0 (S0_.1 13 0 137).toNat s_)) rfl ?_
  refine sm_T_bin (w := (S0_.1 13 0 137) + 1) rfl (bi_add (by omega) (by omega) (by omega)) ?_ -- pc_ 26
  have hIx6_ : gi (sm_pI (sm_aI (sm_aI S0_ 220 0 (S0_.1 13 0 137).toNat w_) 221 0 (S0_.1 13 0 137).toNat s_) 13 0 137 ((S0_.1 13 0 137) + 1)) := gi_pI hIx4_ (show 0 ≤ (S0_.1 13 0 137) + 1 ∧ (S0_.1 13 0 137) + 1 ≤ 8191 from ⟨by omega, by omega⟩)
  have hFx7_ : ai_fr (sx_W vw_412) S0_ (sm_pI (sm_aI (sm_aI S0_ 220 0 (S0_.1 13 0 137).toNat w_) 221 0 (S0_.1 13 0 137).toNat s_) 13 0 137 ((S0_.1 13 0 137) + 1)) := ai_fr_tr hFx5_ (ai_fr_pI rfl)
  refine sm_T_go 1 (c1 := (30, [some (.inr (.inr (some (13, 0)))), some (.inl s_), some (.inl w_)], [], sm_pI (sm_aI (sm_aI S0_ 220 0 (S0_.1 13 0 137).toNat w_) 221 0 (S0_.1 13 0 137).toNat s_) 13 0 137 ((S0_.1 13 0 137) + 1))) rfl ?_
  refine sm_T_rv rfl ⟨_, _, rfl, rfl, hIx6_, hFx7_, ?_⟩
  refine ⟨?_, fun j9_ => ?_, fun j9_ => ?_⟩ <;> (try simp only [rd_eq, rd_ne, rf_eq, rf_nk, rf_nt, rd_fa, rd_af, rd_fl, rd_al, rd_lf, rd_la, rd_leq, rd_lne, rd_fr, rd_ar, ne_eq, Nat.reduceEqDiff, not_false_eq_true])
/-! M_.isLeaf -/
def vw_413 : sx_Wl := ([], [], [])
def vq_413 (n_ : Int) (F_ : Int) (S0_ : sm_S) (u_ : Option sm_V) (S1_ : sm_S) : Prop := S0_ = S1_ ∧ ∃ v_ : Int, u_ = some (.inl v_) ∧ ((v_ = 0 ∧ F_ ≤ n_ ∧ S0_.2.2.1 203 0 n_.toNat = 0) ∨ (v_ = 1 ∧ (n_ < F_ ∨ S0_.2.2.1 203 0 n_.toNat = 1)))
set_option maxHeartbeats 400000 in
set_option maxRecDepth 20000 in
theorem vc_413 {sc_ : Nat × (Nat → Int)} (n_ : Int) (F_ : Int) (S0_ : sm_S) (hI_ : gi S0_) (hf_ : S0_.2.2.1 160 0 (S0_.1 13 0 105).toNat = F_) (hn_ : 0 ≤ n_ ∧ n_ ≤ 2047) : sm_T (mt_P sc_) 1 413 (0, [some (.inr (.inr (some (13, 0)))), some (.inl n_)], [], S0_) (fun ro9_ => ∃ u_ S1_, ro9_ = (.inl u_, S1_, 0) ∧ vq_413 n_ F_ S0_ u_ S1_) := by
  have hF_ : ai_fr (sx_W vw_413) S0_ S0_ := ai_fr_rf
  refine sm_T_go 2 (c1 := (2, [some (.inr (.inr (some (13, 0)))), some (.inl n_)], [.inl n_, .inr (.inr (some (13, 0)))], S0_)) rfl ?_
  refine sm_T_cal (d1 := 0) (Q1 := vq_395 n_ F_ S0_) rfl rfl (by decide) (vc_395 n_ F_ S0_ hI_ (by exact hf_) (by exact hn_)) (fun u_ Sx1_ px4_ => ?_)
  obtain ⟨rfl, vx6_, rfl, px4_⟩ := px4_
  have e2_ := px4_
  refine sm_T_b0 (a := 1) (z := 7) rfl (fun cx7_ => ?_) (fun cx7_ => ?_)
  · have cx7_ : vx6_ ≠ 0 := of_decide_eq_true cx7_
    refine sm_T_go 1 (c1 := (13, [some (.inr (.inr (some (13, 0)))), some (.inl n_)], [.inl 0], S0_)) rfl ?_
    refine sm_T_rz rfl (by omega) ⟨_, _, rfl, rfl, _, rfl, ?_⟩
    omega
  · have cx7_ : ¬ (vx6_ ≠ 0) := of_decide_eq_false cx7_
    refine sm_T_go 2 (c1 := (13, [some (.inr (.inr (some (13, 0)))), some (.inl n_)], [.inl 1], S0_)) rfl ?_
    refine sm_T_rz rfl (by omega) ⟨_, _, rfl, rfl, _, rfl, ?_⟩
    omega
/-! M_.leafNet -/
def vw_414 : sx_Wl := ([], [], [])
def vq_414 (n_ : Int) (F_ : Int) (S0_ : sm_S) (u_ : Option sm_V) (S1_ : sm_S) : Prop := S0_ = S1_ ∧ ∃ v_ : Int, u_ = some (.inl v_) ∧ (v_ = lnf F_ S0_ n_ ∧ -2 ≤ v_ ∧ v_ ≤ 9000)
set_option maxHeartbeats 400000 in
set_option maxRecDepth 20000 in
theorem vc_414 {sc_ : Nat × (Nat → Int)} (n_ : Int) (F_ : Int) (S0_ : sm_S) (hI_ : gi S0_) (hf_ : S0_.2.2.1 160 0 (S0_.1 13 0 105).toNat = F_) (hn_ : 0 ≤ n_ ∧ n_ ≤ 2047) : sm_T (mt_P sc_) 0 414 (0, [some (.inr (.inr (some (13, 0)))), some (.inl n_)], [], S0_) (fun ro9_ => ∃ u_ S1_, ro9_ = (.inl u_, S1_, 0) ∧ vq_414 n_ F_ S0_ u_ S1_) := by
  have hF_ : ai_fr (sx_W vw_414) S0_ S0_ := ai_fr_rf
  have bx1_ : 0 ≤ S0_.1 13 0 105 ∧ S0_.1 13 0 105 ≤ 5 := hI_.1 13 0 105 rfl
  refine sm_T_go 5 (c1 := (9, [some (.inr (.inr (some (13, 0)))), some (.inl n_)], [.inl (S0_.1 13 0 105), .inr (.inr (some (160, 0))), .inl n_], S0_)) rfl ?_
  refine sm_T_iald (n := 6) rfl rfl (by omega) (by omega) ?_
  have bx2_ : 0 ≤ S0_.2.2.1 160 0 (S0_.1 13 0 105).toNat ∧ S0_.2.2.1 160 0 (S0_.1 13 0 105).toNat ≤ 19 := hI_.2 160 0 _
  refine sm_T_br (a := 3) (z := 9) rfl (fun cx3_ => ?_) (fun cx3_ => ?_)
  · have cx3_ : (S0_.2.2.1 160 0 (S0_.1 13 0 105).toNat) ≤ n_ := of_decide_eq_true cx3_
    refine sm_T_go 4 (c1 := (25, [some (.inr (.inr (some (13, 0)))), some (.inl n_)], [.inl n_, .inl 2, .inr (.inr (some (218, 0)))], S0_)) rfl ?_
    refine sm_T_bin (w := 2 * n_) rfl (bi_mul (by omega) (by omega) (by omega)) ?_ -- pc_ 25
    refine sm_T_iald (n := 4096) rfl rfl (by omega) (by omega) ?_
    have bx4_ : (-2) ≤ S0_.2.2.1 218 0 (2 * n_).toNat ∧ S0_.2.2.1 218 0 (2 * n_).toNat ≤ 9000 := hI_.2 218 0 _
    refine sm_T_ri rfl ⟨_, _, rfl, rfl, _, rfl, ?_⟩
    refine ⟨?_, by omega, by omega⟩
    unfold lnf
    first | rw [if_pos (by omega)] | rw [if_neg (by omega)]
  · have cx3_ : ¬ ((S0_.2.2.1 160 0 (S0_.1 13 0 105).toNat) ≤ n_) := of_decide_eq_false cx3_
    refine sm_T_go 2 (c1 := (15, [some (.inr (.inr (some (13, 0)))), some (.inl n_)], [.inl 1, .inl n_], S0_)) rfl ?_
    refine sm_T_bin (w := n_ - 1) rfl (bi_sub (by omega) (by omega) (by omega)) ?_ -- pc_ 15
    refine sm_T_go 1 (c1 := (27, [some (.inr (.inr (some (13, 0)))), some (.inl n_)], [.inl (n_ - 1)], S0_)) rfl ?_
    refine sm_T_ri rfl ⟨_, _, rfl, rfl, _, rfl, ?_⟩
    refine ⟨?_, by omega, by omega⟩
    unfold lnf
    first | rw [if_pos (by omega)] | rw [if_neg (by omega)]
/-! M_.netOfInput -/
def vw_415 : sx_Wl := ([], [], [])
def vq_415 (x_ : Int) (t_ : Int) (F_ : Int) (S0_ : sm_S) (u_ : Option sm_V) (S1_ : sm_S) : Prop := S0_ = S1_ ∧ ∃ v_ : Int, u_ = some (.inl v_) ∧ (v_ = noi F_ S0_ x_ t_ ∧ -2 ≤ v_ ∧ v_ ≤ 9000)
set_option maxHeartbeats 400000 in
set_option maxRecDepth 20000 in
theorem vc_415 {sc_ : Nat × (Nat → Int)} (x_ : Int) (t_ : Int) (F_ : Int) (S0_ : sm_S) (hI_ : gi S0_) (hf_ : S0_.2.2.1 160 0 (S0_.1 13 0 105).toNat = F_) (hn_ : 0 ≤ x_ ∧ x_ ≤ 2046 ∧ 0 ≤ t_ ∧ t_ ≤ 1) : sm_T (mt_P sc_) 2 415 (0, [some (.inr (.inr (some (13, 0)))), some (.inl x_), some (.inl t_)], [], S0_) (fun ro9_ => ∃ u_ S1_, ro9_ = (.inl u_, S1_, 0) ∧ vq_415 x_ t_ F_ S0_ u_ S1_) := by
  have hF_ : ai_fr (sx_W vw_415) S0_ S0_ := ai_fr_rf
  refine sm_T_go 2 (c1 := (2, [some (.inr (.inr (some (13, 0)))), some (.inl x_), some (.inl t_)], [.inl x_, .inr (.inr (some (13, 0)))], S0_)) rfl ?_
  refine sm_T_cal (d1 := 1) (Q1 := vq_413 x_ F_ S0_) rfl rfl (by decide) (vc_413 x_ F_ S0_ hI_ (by exact hf_) (by omega)) (fun u_ Sx1_ px4_ => ?_)
  obtain ⟨rfl, vx6_, rfl, px4_⟩ := px4_
  have e2_ := px4_
  refine sm_T_b0 (a := 1) (z := 16) rfl (fun cx7_ => ?_) (fun cx7_ => ?_)
  · have cx7_ : vx6_ ≠ 0 := of_decide_eq_true cx7_
    refine sm_T_go 1 (c1 := (22, [some (.inr (.inr (some (13, 0)))), some (.inl x_), some (.inl t_)], [.inl t_], S0_)) rfl ?_
    refine sm_T_b0 (a := 1) (z := 11) rfl (fun cx8_ => ?_) (fun cx8_ => ?_)
    · have cx8_ : t_ ≠ 0 := of_decide_eq_true cx8_
      refine sm_T_go 3 (c1 := (38, [some (.inr (.inr (some (13, 0)))), some (.inl x_), some (.inl t_)], [.inl x_, .inr (.inr (some (219, 0)))], S0_)) rfl ?_
      refine sm_T_iald (n := 2048) rfl rfl (by omega) (by omega) ?_
      have bx9_ : (-2) ≤ S0_.2.2.1 219 0 x_.toNat ∧ S0_.2.2.1 219 0 x_.toNat ≤ 9000 := hI_.2 219 0 _
      refine sm_T_ri rfl ⟨_, _, rfl, rfl, _, rfl, ?_⟩
      refine ⟨?_, by omega, by omega⟩
      unfold noi
      first | rw [if_pos ⟨by omega, by omega⟩] | (rw [if_neg (by omega)]; first | (rw [if_pos (by omega)]; exact e27_.1) | rw [if_neg (by omega)])
    · have cx8_ : ¬ (t_ ≠ 0) := of_decide_eq_false cx8_
      refine sm_T_go 2 (c1 := (27, [some (.inr (.inr (some (13, 0)))), some (.inl x_), some (.inl t_)], [.inl x_, .inr (.inr (some (13, 0)))], S0_)) rfl ?_
      refine sm_T_cal (d1 := 0) (Q1 := vq_414 x_ F_ S0_) rfl rfl (by decide) (vc_414 x_ F_ S0_ hI_ (by exact hf_) (by omega)) (fun u_ Sx10_ px13_ => ?_)
      obtain ⟨rfl, vx15_, rfl, px13_⟩ := px13_
      have e27_ := px13_
      refine sm_T_go 1 (c1 := (39, [some (.inr (.inr (some (13, 0)))), some (.inl x_), some (.inl t_)], [.inl vx15_], S0_)) rfl ?_
      refine sm_T_ri rfl ⟨_, _, rfl, rfl, _, rfl, ?_⟩
      refine ⟨?_, by omega, by omega⟩
      unfold noi
      first | rw [if_pos ⟨by omega, by omega⟩] | (rw [if_neg (by omega)]; first | (rw [if_pos (by omega)]; exact e27_.1) | rw [if_neg (by omega)])
  · have cx7_ : ¬ (vx6_ ≠ 0) := of_decide_eq_false cx7_
    refine sm_T_go 4 (c1 := (14, [some (.inr (.inr (some (13, 0)))), some (.inl x_), some (.inl t_)], [.inl x_, .inl 2, .inr (.inr (some (218, 0)))], S0_)) rfl ?_
    refine sm_T_bin (w := 2 * x_) rfl (bi_mul (by omega) (by omega) (by omega)) ?_ -- pc_ 14
    refine sm_T_go 1 (c1 := (16, [some (.inr (.inr (some (13, 0)))), some (.inl x_), some (.inl t_)], [.inl t_, .inl (2 * x_), .inr (.inr (some (218, 0)))], S0_)) rfl ?_
    refine sm_T_bin (w := 2 * x_ + t_) rfl (bi_add (by omega) (by omega) (by omega)) ?_ -- pc_ 16
    refine sm_T_iald (n := 4096) rfl rfl (by omega) (by omega) ?_
    have bx16_ : (-2) ≤ S0_.2.2.1 218 0 (2 * x_ + t_).toNat ∧ S0_.2.2.1 218 0 (2 * x_ + t_).toNat ≤ 9000 := hI_.2 218 0 _
    refine sm_T_go 1 (c1 := (39, [some (.inr (.inr (some (13, 0)))), some (.inl x_), some (.inl t_)], [.inl (S0_.2.2.1 218 0 (2 * x_ + t_).toNat)], S0_)) rfl ?_
    refine sm_T_ri rfl ⟨_, _, rfl, rfl, _, rfl, ?_⟩
    refine ⟨?_, by omega, by omega⟩
    unfold noi
    first | rw [if_pos ⟨by omega, by omega⟩] | (rw [if_neg (by omega)]; first | (rw [if_pos (by omega)]; exact e27_.1) | rw [if_neg (by omega)])
/-! M_.askFor -/
def vw_416 : sx_Wl := ([(13, 137)], [220, 221], [])
def vq_416 (x_ : Int) (t_ : Int) (F_ : Int) (S0_ : sm_S) (u_ : Option sm_V) (S1_ : sm_S) : Prop := u_ = none ∧ gi S1_ ∧ ai_fr (sx_W vw_416) S0_ S1_ ∧ (((x_ < F_ ∨ S0_.2.2.1 203 0 x_.toNat = 1) ∧ t_ = 1 ∧ jap 1 x_ S0_ S1_) ∨ (((F_ ≤ x_ ∧ S0_.2.2.1 203 0 x_.toNat = 0) ∨ t_ = 0) ∧ jap 0 (2 * x_ + t_) S0_ S1_))
set_option maxHeartbeats 400000 in
set_option maxRecDepth 20000 in
theorem vc_416 {sc_ : Nat × (Nat → Int)} (x_ : Int) (t_ : Int) (F_ : Int) (S0_ : sm_S) (hI_ : gi S0_) (hf_ : S0_.2.2.1 160 0 (S0_.1 13 0 105).toNat = F_) (hn_ : 0 ≤ x_ ∧ x_ ≤ 2046 ∧ 0 ≤ t_ ∧ t_ ≤ 1) (hj_ : (S0_.1 13 0 137) ≤ 8190) : sm_T (mt_P sc_) 2 416 (0, [some (.inr (.inr (some (13, 0)))), some (.inl x_), some (.inl t_)], [], S0_) (fun ro9_ => ∃ u_ S1_, ro9_ = (.inl u_, S1_, 0) ∧ vq_416 x_ t_ F_ S0_ u_ S1_) := by
  have hF_ : ai_fr (sx_W vw_416) S0_ S0_ := ai_fr_rf
  refine sm_T_go 2 (c1 := (2, [some (.inr (.inr (some (13, 0)))), some (.inl x_), some (.inl t_)], [.inl x_, .inr (.inr (some (13, 0)))], S0_)) rfl ?_
  refine sm_T_cal (d1 := 1) (Q1 := vq_413 x_ F_ S0_) rfl rfl (by decide) (vc_413 x_ F_ S0_ hI_ (by exact hf_) (by omega)) (fun u_ Sx1_ px4_ => ?_)
  obtain ⟨rfl, vx6_, rfl, px4_⟩ := px4_
  have e2_ := px4_
  refine sm_T_b0 (a := 0) (z := 17) rfl (fun cx7_ => ?_) (fun cx7_ => ?_)
  · have cx7_ : vx6_ = 0 := of_decide_eq_true cx7_
    refine sm_T_go 4 (c1 := (26, [some (.inr (.inr (some (13, 0)))), some (.inl x_), some (.inl t_)], [.inl x_, .inl 2, .inl 0, .inr (.inr (some (13, 0)))], S0_)) rfl ?_
    refine sm_T_bin (w := 2 * x_) rfl (bi_mul (by omega) (by omega) (by omega)) ?_ -- pc_ 26
    refine sm_T_go 1 (c1 := (28, [some (.inr (.inr (some (13, 0)))), some (.inl x_), some (.inl t_)], [.inl t_, .inl (2 * x_), .inl 0, .inr (.inr (some (13, 0)))], S0_)) rfl ?_
    refine sm_T_bin (w := 2 * x_ + t_) rfl (bi_add (by omega) (by omega) (by omega)) ?_ -- pc_ 28
    refine sm_T_cal (d1 := 0) (Q1 := vq_412 0 (2 * x_ + t_) S0_) rfl rfl (by decide) (vc_412 0 (2 * x_ + t_) S0_ hI_ (by omega) (by omega)) (fun u_ Sx8_ px11_ => ?_)
    obtain ⟨rfl, hIx9_, hFx10_, px11_⟩ := px11_
    have hFx12_ : ai_fr (sx_W vw_416) S0_ Sx8_ := ai_fr_tr hF_ (fr_le hFx10_ rfl)
    have e29_ := px11_
    refine sm_T_rv rfl ⟨_, _, rfl, rfl, hIx9_, hFx12_, ?_⟩
    first | exact Or.inl ⟨by omega, by omega, e16_⟩ | exact Or.inr ⟨by omega, e29_⟩
  · have cx7_ : ¬ (vx6_ = 0) := of_decide_eq_false cx7_
    refine sm_T_go 2 (c1 := (10, [some (.inr (.inr (some (13, 0)))), some (.inl x_), some (.inl t_)], [.inl 1, .inl t_], S0_)) rfl ?_
    refine sm_T_br (a := 1) (z := 12) rfl (fun cx13_ => ?_) (fun cx13_ => ?_)
    · have cx13_ : t_ ≠ 1 := of_decide_eq_true cx13_
      refine sm_T_go 4 (c1 := (26, [some (.inr (.inr (some (13, 0)))), some (.inl x_), some (.inl t_)], [.inl x_, .inl 2, .inl 0, .inr (.inr (some (13, 0)))], S0_)) rfl ?_
      refine sm_T_bin (w := 2 * x_) rfl (bi_mul (by omega) (by omega) (by omega)) ?_ -- pc_ 26
      refine sm_T_go 1 (c1 := (28, [some (.inr (.inr (some (13, 0)))), some (.inl x_), some (.inl t_)], [.inl t_, .inl (2 * x_), .inl 0, .inr (.inr (some (13, 0)))], S0_)) rfl ?_
      refine sm_T_bin (w := 2 * x_ + t_) rfl (bi_add (by omega) (by omega) (by omega)) ?_ -- pc_ 28
      refine sm_T_cal (d1 := 0) (Q1 := vq_412 0 (2 * x_ + t_) S0_) rfl rfl (by decide) (vc_412 0 (2 * x_ + t_) S0_ hI_ (by omega) (by omega)) (fun u_ Sx14_ px17_ => ?_)
      obtain ⟨rfl, hIx15_, hFx16_, px17_⟩ := px17_
      have hFx18_ : ai_fr (sx_W vw_416) S0_ Sx14_ := ai_fr_tr hF_ (fr_le hFx16_ rfl)
      have e29_ := px17_
      refine sm_T_rv rfl ⟨_, _, rfl, rfl, hIx15_, hFx18_, ?_⟩
      first | exact Or.inl ⟨by omega, by omega, e16_⟩ | exact Or.inr ⟨by omega, e29_⟩
    · have cx13_ : ¬ (t_ ≠ 1) := of_decide_eq_false cx13_
      refine sm_T_go 3 (c1 := (16, [some (.inr (.inr (some (13, 0)))), some (.inl x_), some (.inl t_)], [.inl x_, .inl 1, .inr (.inr (some (13, 0)))], S0_)) rfl ?_
      refine sm_T_cal (d1 := 0) (Q1 := vq_412 1 x_ S0_) rfl rfl (by decide) (vc_412 1 x_ S0_ hI_ (by omega) (by omega)) (fun u_ Sx19_ px22_ => ?_)
      obtain ⟨rfl, hIx20_, hFx21_, px22_⟩ := px22_
      have hFx23_ : ai_fr (sx_W vw_416) S0_ Sx19_ := ai_fr_tr hF_ (fr_le hFx21_ rfl)
      have e16_ := px22_
      refine sm_T_go 1 (c1 := (32, [some (.inr (.inr (some (13, 0)))), some (.inl x_), some (.inl t_)], [], Sx19_)) rfl ?_
      refine sm_T_rv rfl ⟨_, _, rfl, rfl, hIx20_, hFx23_, ?_⟩
      first | exact Or.inl ⟨by omega, by omega, e16_⟩ | exact Or.inr ⟨by omega, e29_⟩
end
/-! 99.zs9 -/
section
/-! the reference: tasks done; written by wip/p55/gen/vg -/

/-! the_ reference: tasks done -/
def gdr (F_ N_ : Int) (S_ : sm_S) : Prop := ∀ n_ : Int, F_ ≤ n_ → n_ < N_ → S_.2.2.1 202 0 n_.toNat = 1 → S_.2.2.1 203 0 n_.toNat = 1 → S_.2.2.1 210 0 (2 * n_).toNat < 1000000000
def jtop (S_ : sm_S) : Int := S_.2.2.1 220 0 (S_.1 13 0 137 - 1).toNat
def jtos (S_ : sm_S) : Int := S_.2.2.1 221 0 (S_.1 13 0 137 - 1).toNat
theorem tpv_e {S_ : sm_S} (h_ : S_.1 13 0 137 ≠ 0) : (jdn S_ (jtos S_) (jtop S_) → tpv_ S_ = 4000 + S_.1 13 0 137) ∧ (¬ jdn S_ (jtos S_) (jtop S_) → tpv_ S_ = jrk S_ (jtos S_) (jtop S_)) := by
  refine ⟨fun d_ => ?_, fun d_ => ?_⟩
  · unfold tpv_
    rw [if_neg h_]
    exact if_pos d_
  · unfold tpv_
    rw [if_neg h_]
    exact if_neg d_
theorem mad_cg {F_ : Int} {S_ S'_ : sm_S} (h_ : mad F_ S_) (e_ : S'_.1 13 0 129 = S_.1 13 0 129) (e6_ : S'_.2.2.1 216 0 = S_.2.2.1 216 0) (e7_ : S'_.2.2.1 217 0 = S_.2.2.1 217 0) (e5_ : S'_.2.2.1 185 0 = S_.2.2.1 185 0) (e106_ : S'_.1 13 0 106 = S_.1 13 0 106) (e134_ : S'_.1 13 0 134 = S_.1 13 0 134) : mad F_ S'_ := by
  unfold mad
  rw [e_, e6_, e7_, e5_, e106_, e134_]
  exact h_
theorem wk_pop {F_ N_ : Int} {S_ : sm_S} (hI_ : gi S_) (hg_ : gst F_ N_ S_) (hj_ : jsk F_ N_ S_) (hc_ : 1 ≤ S_.1 13 0 137) (hF_ : 1 ≤ F_) (dn_ : jdn S_ (jtos S_) (jtop S_)) : gst F_ N_ (sm_pI S_ 13 0 137 (S_.1 13 0 137 - 1)) ∧ jsk F_ N_ (sm_pI S_ 13 0 137 (S_.1 13 0 137 - 1)) ∧ mea_ N_ (sm_pI S_ 13 0 137 (S_.1 13 0 137 - 1)) < mea_ N_ S_ ∧ S_.1 13 0 129 ≤ (sm_pI S_ 13 0 137 (S_.1 13 0 137 - 1)).1 13 0 129 := by
  obtain ⟨S'_, hS_⟩ : ∃ S'_, S'_ = sm_pI S_ 13 0 137 (S_.1 13 0 137 - 1) := ⟨_, rfl⟩
  have j1_ : S'_.1 13 0 137 = S_.1 13 0 137 - 1 := by rw [hS_]; exact rf_eq
  have a_ : ∀ t_, S'_.2.2.1 t_ 0 = S_.2.2.1 t_ 0 := fun t_ => by rw [hS_]; rfl
  have f_ : ∀ k_, k_ ≠ 137 → S'_.1 13 0 k_ = S_.1 13 0 k_ := fun k_ hk_ => by rw [hS_]; exact rf_nk hk_
  rw [← hS_]
  have js_ : jsk F_ N_ S'_ := fun i_ i0_ i1_ => by
    rw [j1_] at i1_
    rw [a_, a_, jrk_cg (a_ 211)]
    exact ⟨jgd_cg (hj_ i_ i0_ (by omega)).1 (a_ _) (a_ _) (a_ _), (hj_ i_ i0_ (by omega)).2⟩
  refine ⟨gst_cg hg_ (f_ _ (by decide)) (a_ _) (a_ _) (a_ _) (a_ _) (a_ _) (f_ _ (by decide)) (f_ _ (by decide)), js_, ?_, by (rw [f_ 129 (by decide)]; exact Int.le_refl _)⟩
  have t_ := (tpv_e (S_ := S_) (by omega)).1 dn_
  unfold mea_
  rw [inc_cg (a_ 218) (a_ 219), t_]
  have q_ : tpv_ S'_ < 4000 + S_.1 13 0 137 := by
    unfold tpv_
    rw [j1_]
    split
    · omega
    · split
      · omega
      · have w_ := (js_ (S_.1 13 0 137 - 1 - 1) (by omega) (by omega)).2
        rw [← j1_] at w_ ⊢
        omega
  omega
theorem wk_push {F_ N_ s_ w_ : Int} {S_ S'_ : sm_S} (hI_ : gi S_) (hg_ : gst F_ N_ S_) (hj_ : jsk F_ N_ S_) (hc_ : 1 ≤ S_.1 13 0 137) (hF_ : 1 ≤ F_) (a_ : jap s_ w_ S_ S'_) (f_ : ai_fr (sx_W ([(13, 137)], [220, 221], [])) S_ S'_) (g_ : jgd F_ N_ S_ s_ w_) (r_ : jrk S_ s_ w_ < jrk S_ (jtos S_) (jtop S_)) (nd_ : ¬ jdn S_ (jtos S_) (jtop S_)) (nn9_ : ¬ jdn S_ s_ w_) : gst F_ N_ S'_ ∧ jsk F_ N_ S'_ ∧ mea_ N_ S'_ < mea_ N_ S_ ∧ S_.1 13 0 129 ≤ S'_.1 13 0 129 := by
  have tp_ := hj_ (S_.1 13 0 137 - 1) (by omega) (by omega)
  have tr_ : jrk S_ (jtos S_) (jtop S_) + (S_.1 13 0 137 - 1) ≤ 3042 := tp_.2
  have e1_ : jtos S'_ = s_ := by unfold jtos; rw [a_.1, a_.2.2, if_pos (by omega)]
  have e2_ : jtop S'_ = w_ := by unfold jtop; rw [a_.1, a_.2.1, if_pos (by omega)]
  have rb := jrk_b hI_ g_ hF_
  refine ⟨gst_cg hg_ (f_.1 13 0 129 rfl) (fr_arr f_ rfl) (fr_arr f_ rfl) (fr_arr f_ rfl) (fr_arr f_ rfl) (fr_arr f_ rfl) (f_.1 13 0 106 rfl) (f_.1 13 0 134 rfl), jsk_ap hj_ a_ (by omega) g_ (by omega) (fr_arr f_ rfl) (fr_arr f_ rfl) (fr_arr f_ rfl) (fr_arr f_ rfl), ?_, by (rw [f_.1 13 0 129 rfl]; exact Int.le_refl _)⟩
  have t_ := (tpv_e (S_ := S_) (by omega)).2 nd_
  have t'_ := (tpv_e (S_ := S'_) (by rw [a_.1]; omega)).2 (by
    rw [e1_, e2_]
    unfold jdn at *
    rw [fr_arr f_ (t := 218) rfl, fr_arr f_ (t := 219) rfl]
    exact nn9_)
  rw [e1_, e2_, jrk_cg (fr_arr f_ rfl)] at t'_
  unfold mea_
  rw [inc_cg (fr_arr f_ rfl) (fr_arr f_ rfl), t_, t'_]
  omega
theorem wk_g {F_ N_ w_ v_ : Int} {S_ Sx_ : sm_S} {w9_ : sx_Wl} (hI_ : gi (sm_aI Sx_ 218 0 w_.toNat v_)) (hg_ : gst F_ N_ S_) (hj_ : jsk F_ N_ S_) (hc_ : 0 ≤ S_.1 13 0 137) (hF_ : 1 ≤ F_) (f_ : ai_fr (sx_W w9_) S_ Sx_) (hw_ : 2 * F_ ≤ w_ ∧ w_ < 2 * N_) (h0_ : S_.2.2.1 218 0 w_.toNat = -1) (e_ : v_ = F_ - 1 + S_.1 13 0 129 ∧ Sx_.1 13 0 129 = S_.1 13 0 129 + 1 ∧ mad F_ Sx_) (h1_ : (sx_W w9_).1 13 137 = false := by rfl) (h2_ : (sx_W w9_).2.1 220 = false := by rfl) (h3_ : (sx_W w9_).2.1 221 = false := by rfl) (h4_ : (sx_W w9_).2.1 202 = false := by rfl) (h5_ : (sx_W w9_).2.1 203 = false := by rfl) (h6_ : (sx_W w9_).2.1 210 = false := by rfl) (h7_ : (sx_W w9_).2.1 211 = false := by rfl) (h8_ : (sx_W w9_).2.1 218 = false := by rfl) (h9_ : (sx_W w9_).2.1 219 = false := by rfl) : gst F_ N_ (sm_aI Sx_ 218 0 w_.toNat v_) ∧ jsk F_ N_ (sm_aI Sx_ 218 0 w_.toNat v_) ∧ mea_ N_ (sm_aI Sx_ 218 0 w_.toNat v_) < mea_ N_ S_ ∧ S_.1 13 0 129 ≤ (sm_aI Sx_ 218 0 w_.toNat v_).1 13 0 129 := by
  obtain ⟨S'_, hS_⟩ : ∃ S'_, S'_ = sm_aI Sx_ 218 0 w_.toNat v_ := ⟨_, rfl⟩
  have a_ : ∀ u_, u_ ≠ 218 → S'_.2.2.1 u_ 0 = Sx_.2.2.1 u_ 0 := fun u_ hu_ => by
    rw [hS_]
    funext j_
    simp only [rd_ne, hu_, ne_eq, not_false_eq_true]
  have b_ : ∀ k_, S'_.1 13 0 k_ = Sx_.1 13 0 k_ := fun k_ => by rw [hS_]; rfl
  have c_ : ∀ j_, S'_.2.2.1 218 0 j_ = if j_ = w_.toNat then v_ else S_.2.2.1 218 0 j_ := fun j_ => by
    rw [hS_, ← fr_arr f_ (t := 218) h8_]
    simp only [rd_eq]
  rw [← hS_] at hI_ ⊢
  have g0_ := hg_.1
  have G_ : gst F_ N_ S'_ ∧ inc N_ S'_ + 1 = inc N_ S_ := gst_g (S1_ := Sx_) hg_ hw_ (by omega) h0_ ⟨e_.1, by omega⟩ ((b_ 129).trans e_.2.1) c_ ((a_ 219 (by decide)).trans (fr_arr f_ h9_)) (mad_cg e_.2.2 (b_ 129) (a_ 216 (by decide)) (a_ 217 (by decide)) (a_ 185 (by decide)) (b_ 106) (b_ 134))
  have js_ := jsk_cg hj_ ((b_ 137).trans (f_.1 13 0 137 h1_)) ((a_ 220 (by decide)).trans (fr_arr f_ h2_)) ((a_ 221 (by decide)).trans (fr_arr f_ h3_)) ((a_ 202 (by decide)).trans (fr_arr f_ h4_)) ((a_ 203 (by decide)).trans (fr_arr f_ h5_)) ((a_ 210 (by decide)).trans (fr_arr f_ h6_)) ((a_ 211 (by decide)).trans (fr_arr f_ h7_))
  exact ⟨G_.1, js_, mea_c hI_ js_ hF_ (by rw [b_, f_.1 13 0 137 h1_]; exact hc_) G_.2, by (rw [b_ 129, e_.2.1]; omega)⟩
theorem wk_t {F_ N_ w_ v_ : Int} {S_ Sx_ : sm_S} {w9_ : sx_Wl} (hI_ : gi (sm_aI Sx_ 219 0 w_.toNat v_)) (hg_ : gst F_ N_ S_) (hj_ : jsk F_ N_ S_) (hc_ : 0 ≤ S_.1 13 0 137) (hF_ : 1 ≤ F_) (f_ : ai_fr (sx_W w9_) S_ Sx_) (hw_ : 1 ≤ w_ ∧ w_ < N_) (h0_ : S_.2.2.1 219 0 w_.toNat = -1) (e_ : v_ = F_ - 1 + S_.1 13 0 129 ∧ Sx_.1 13 0 129 = S_.1 13 0 129 + 1 ∧ mad F_ Sx_) (h1_ : (sx_W w9_).1 13 137 = false := by rfl) (h2_ : (sx_W w9_).2.1 220 = false := by rfl) (h3_ : (sx_W w9_).2.1 221 = false := by rfl) (h4_ : (sx_W w9_).2.1 202 = false := by rfl) (h5_ : (sx_W w9_).2.1 203 = false := by rfl) (h6_ : (sx_W w9_).2.1 210 = false := by rfl) (h7_ : (sx_W w9_).2.1 211 = false := by rfl) (h8_ : (sx_W w9_).2.1 218 = false := by rfl) (h9_ : (sx_W w9_).2.1 219 = false := by rfl) : gst F_ N_ (sm_aI Sx_ 219 0 w_.toNat v_) ∧ jsk F_ N_ (sm_aI Sx_ 219 0 w_.toNat v_) ∧ mea_ N_ (sm_aI Sx_ 219 0 w_.toNat v_) < mea_ N_ S_ ∧ S_.1 13 0 129 ≤ (sm_aI Sx_ 219 0 w_.toNat v_).1 13 0 129 := by
  obtain ⟨S'_, hS_⟩ : ∃ S'_, S'_ = sm_aI Sx_ 219 0 w_.toNat v_ := ⟨_, rfl⟩
  have a_ : ∀ u_, u_ ≠ 219 → S'_.2.2.1 u_ 0 = Sx_.2.2.1 u_ 0 := fun u_ hu_ => by
    rw [hS_]
    funext j_
    simp only [rd_ne, hu_, ne_eq, not_false_eq_true]
  have b_ : ∀ k_, S'_.1 13 0 k_ = Sx_.1 13 0 k_ := fun k_ => by rw [hS_]; rfl
  have c_ : ∀ j_, S'_.2.2.1 219 0 j_ = if j_ = w_.toNat then v_ else S_.2.2.1 219 0 j_ := fun j_ => by
    rw [hS_, ← fr_arr f_ (t := 219) h9_]
    simp only [rd_eq]
  rw [← hS_] at hI_ ⊢
  have g0_ := hg_.1
  have G_ : gst F_ N_ S'_ ∧ inc N_ S'_ + 1 = inc N_ S_ := gst_t (S1_ := Sx_) hg_ hw_ h0_ ⟨e_.1, by omega⟩ ((b_ 129).trans e_.2.1) c_ ((a_ 218 (by decide)).trans (fr_arr f_ h8_)) (mad_cg e_.2.2 (b_ 129) (a_ 216 (by decide)) (a_ 217 (by decide)) (a_ 185 (by decide)) (b_ 106) (b_ 134))
  have js_ := jsk_cg hj_ ((b_ 137).trans (f_.1 13 0 137 h1_)) ((a_ 220 (by decide)).trans (fr_arr f_ h2_)) ((a_ 221 (by decide)).trans (fr_arr f_ h3_)) ((a_ 202 (by decide)).trans (fr_arr f_ h4_)) ((a_ 203 (by decide)).trans (fr_arr f_ h5_)) ((a_ 210 (by decide)).trans (fr_arr f_ h6_)) ((a_ 211 (by decide)).trans (fr_arr f_ h7_))
  exact ⟨G_.1, js_, mea_c hI_ js_ hF_ (by rw [b_, f_.1 13 0 137 h1_]; exact hc_) G_.2, by (rw [b_ 129, e_.2.1]; omega)⟩
theorem wk_way {F_ N_ w_ : Int} {S_ : sm_S} (hI_ : gi S_) (h_ : wal9 F_ N_ S_) (hF_ : 1 ≤ F_) (g_ : 2 * F_ ≤ w_ ∧ w_ < 2 * N_ ∧ S_.2.2.1 202 0 (w_ / 2).toNat = 1 ∧ S_.2.2.1 210 0 w_.toNat < 1000000000) : (S_.2.2.1 211 0 w_.toNat = 0 → 0 ≤ S_.2.2.1 207 0 w_.toNat ∧ 1 ≤ S_.2.2.1 185 0 (12 * S_.1 13 0 106 + S_.2.2.1 207 0 w_.toNat).toNat ∧ ∀ k_ : Int, 0 ≤ k_ → k_ < S_.2.2.1 185 0 (12 * S_.1 13 0 106 + S_.2.2.1 207 0 w_.toNat).toNat → inp F_ (w_ / 2) S_ (S_.2.2.1 208 0 (3 * w_ + k_).toNat) (i_shr (S_.2.2.1 209 0 w_.toNat) k_ % 2)) ∧ (S_.2.2.1 211 0 w_.toNat ≠ 0 → S_.2.2.1 211 0 (w_ + 1 - 2 * (w_ % 2)).toNat = 0 ∧ S_.2.2.1 210 0 (w_ + 1 - 2 * (w_ % 2)).toNat < 1000000000) := by
  have q_ := h_ (w_ / 2) (by omega) (by omega) g_.2.2.1
  obtain ⟨q1_, q2_, q3_, q4_⟩ := q_
  have b_ : 0 ≤ S_.1 13 0 108 := (hI_.1 13 0 108 rfl).1
  have z0_ : 0 ≤ S_.2.2.1 211 0 (2 * (w_ / 2)).toNat := (hI_.2 211 0 _).1
  have z1_ : 0 ≤ S_.2.2.1 211 0 (2 * (w_ / 2) + 1).toNat := (hI_.2 211 0 _).1
  have c_ : w_ = 2 * (w_ / 2) ∨ w_ = 2 * (w_ / 2) + 1 := by omega
  rcases c_ with c_ | c_
  · have o_ : w_ + 1 - 2 * (w_ % 2) = w_ + 1 := by omega
    rw [o_]
    have b1_ : S_.2.2.1 206 0 w_.toNat ≤ 1000000000 := (hI_.2 206 0 _).2
    have g4_ := g_.2.2.2
    unfold ned at q3_ q4_
    unfold wyc at q1_
    rw [← c_] at z0_ z1_ q1_ q3_ q4_
    refine ⟨fun z_ => ?_, fun z_ => ?_⟩
    · refine q1_ ?_
      omega
    · omega
  · have o_ : w_ + 1 - 2 * (w_ % 2) = 2 * (w_ / 2) := by omega
    rw [o_]
    have b1_ : S_.2.2.1 206 0 w_.toNat ≤ 1000000000 := (hI_.2 206 0 _).2
    have g4_ := g_.2.2.2
    unfold ned at q3_ q4_
    unfold wyc at q2_
    rw [← c_] at z1_ q2_ q3_ q4_
    refine ⟨fun z_ => ?_, fun z_ => ?_⟩
    · refine q2_ ?_
      omega
    · omega

theorem shr3 {x_ : Int} (hx_ : 0 ≤ x_ ∧ x_ ≤ 7) : i_shr x_ 0 = x_ ∧ i_shr x_ 1 = x_ / 2 ∧ i_shr x_ 2 = x_ / 4 := by
  refine ⟨?_, ?_, ?_⟩
  · rw [i_shrv (by omega) (by omega) (by omega)]; exact Int.ediv_one x_
  · rw [i_shrv (by omega) (by omega) (by omega)]; rfl
  · rw [i_shrv (by omega) (by omega) (by omega)]; rfl
theorem wk_in {F_ N_ w_ x_ t_ : Int} {S_ : sm_S} (hg_ : gst F_ N_ S_) (hw_ : w_ < 2 * N_) (i_ : inp F_ (w_ / 2) S_ x_ t_) (ht_ : 0 ≤ t_ ∧ t_ ≤ 1) (h_ : noi F_ S_ x_ t_ ≠ -1) : 1 ≤ x_ ∧ x_ < w_ / 2 ∧ 0 ≤ noi F_ S_ x_ t_ ∧ noi F_ S_ x_ t_ < F_ - 1 + S_.1 13 0 129 := by
  have i1_ := i_.1.1
  have i2_ := i_.1.2.1
  have q_ := noi_b hg_ (x_ := x_) (t_ := t_) ⟨by omega, by omega⟩ ht_
  rcases q_ with q_ | q_
  · exact absurd q_ h_
  · exact ⟨by omega, by omega, q_.1, q_.2⟩
/-! M_.work -/
def vw_417 : sx_Wl := ([(13, 129), (13, 134), (13, 137)], [216, 217, 218, 219, 220, 221], [])
def vq_417 (F_ : Int) (N_ : Int) (d_ : Int) (S0_ : sm_S) (u_ : Option sm_V) (S1_ : sm_S) : Prop := u_ = none ∧ gi S1_ ∧ ai_fr (sx_W vw_417) S0_ S1_ ∧ (gst F_ N_ S1_ ∧ jsk F_ N_ S1_ ∧ mea_ N_ S1_ < mea_ N_ S0_ ∧ S0_.1 13 0 129 ≤ S1_.1 13 0 129)
set_option maxHeartbeats 4000000 in
set_option maxRecDepth 20000 in
theorem vl_417 {sc_ : Nat × (Nat → Int)} (F_ : Int) (N_ : Int) (d_ : Int) (S0_ : sm_S) (hd_ : dmp F_ N_ d_ S0_) (hal_ : wal9 F_ N_ S0_) (hgd_ : gdr F_ N_ S0_) (hiv_ : (S0_.1 13 0 107) = -1 ∨ S0_.2.2.1 185 0 (12 * S0_.1 13 0 106 + S0_.1 13 0 107).toNat = 1) (hgs_ : gst F_ N_ S0_) (hjs_ : jsk F_ N_ S0_) (hj_ : 1 ≤ (S0_.1 13 0 137)) : ∀ nn_ : Nat, (∀ (w_ : Int) (sz_ : Int) (k_ : Int) (S_ : sm_S), gi S_ → ai_fr (sx_W vw_417) S0_ S_ → ((S_ = S0_) ∧ (w_ = (S0_.2.2.1 220 0 (S0_.1 13 0 137 - 1).toNat) ∧ 0 ≤ k_ ∧ k_ ≤ sz_ ∧ sz_ ≤ 3 ∧ (S0_.2.2.1 221 0 (S0_.1 13 0 137 - 1).toNat) = 0 ∧ S0_.2.2.1 218 0 w_.toNat = -1 ∧ S0_.2.2.1 211 0 w_.toNat = 0 ∧ sz_ = S0_.2.2.1 185 0 (12 * S0_.1 13 0 106 + S0_.2.2.1 207 0 w_.toNat).toNat) ∧ (∀ j9_ : Int, 0 ≤ j9_ → j9_ < k_ → noi F_ S0_ (S0_.2.2.1 208 0 (3 * w_ + j9_).toNat) (i_shr (S0_.2.2.1 209 0 w_.toNat) j9_ % 2) ≠ -1) ∧ True) → ((50 - k_).toNat) < nn_ → sm_T (mt_P sc_) 3 417 (175, [some (.inr (.inr (some (13, 0)))), some (.inl w_), some (.inl sz_), some (.inl k_), none, none], [], S_) (fun ro9_ => ∃ u_ S1_, ro9_ = (.inl u_, S1_, 0) ∧ vq_417 F_ N_ d_ S0_ u_ S1_)) := by
  intro nn_
  induction nn_ with
  | zero => exact fun _ _ _ _ _ _ _ h_ => absurd h_ (Nat.not_lt_zero _)
  | succ nn_ ih_ =>
    rintro w_ sz_ k_ S_ hI_ hF_ ⟨h4_, h0_, h1_, -⟩ hm_
    rw [← h4_] at hd_ hal_ hgd_ hiv_ hgs_ hjs_ hj_ h0_ h1_
    have d1_ := hd_.1
    have tj_ := hjs_ (S_.1 13 0 137 - 1) (by omega) (by omega)
    have tg_ := tj_.1
    have f160_ : S_.2.2.1 160 0 (S_.1 13 0 105).toNat = F_ := by (rw [d1_.2.2.1]; exact d1_.2.2.2.1)
    have jc_ := jsk_c hI_ hjs_ (by omega)
    have g0_ := hgs_.1
    have cw : 0 ≤ S_.2.2.1 220 0 (S_.1 13 0 137 - 1).toNat ∧ S_.2.2.1 220 0 (S_.1 13 0 137 - 1).toNat ≤ 4095 := hI_.2 220 0 _
    have cs_ : 0 ≤ S_.2.2.1 221 0 (S_.1 13 0 137 - 1).toNat ∧ S_.2.2.1 221 0 (S_.1 13 0 137 - 1).toNat ≤ 1 := hI_.2 221 0 _
    have tw_ : 2 * F_ ≤ w_ ∧ w_ < 2 * N_ ∧ S_.2.2.1 202 0 (w_ / 2).toNat = 1 ∧ S_.2.2.1 210 0 w_.toNat < 1000000000 := by (rcases tg_ with y9_ | y9_; (exfalso; omega); (rw [h0_.1]; exact y9_.2))
    have W9_ := (wk_way hI_ hal_ (by omega) tw_).1 h0_.2.2.2.2.2.2.1
    rw [← h0_.2.2.2.2.2.2.2] at W9_
    have nd9_ : ¬ jdn S_ (jtos S_) (jtop S_) := by (unfold jdn jtos jtop; rw [← h0_.1]; omega)
    have rk9_ : jrk S_ (jtos S_) (jtop S_) = 3 * (w_ / 2) := by (unfold jrk jtos jtop; rw [← h0_.1, if_neg (by omega)]; omega)
    refine sm_T_go 2 (c1 := (177, [some (.inr (.inr (some (13, 0)))), some (.inl w_), some (.inl sz_), some (.inl k_), none, none], [.inl sz_, .inl k_], S_)) rfl ?_
    refine sm_T_br (a := 3) (z := 58) rfl (fun cx1_ => ?_) (fun cx1_ => ?_)
    · have cx1_ : sz_ ≤ k_ := of_decide_eq_true cx1_
      have ct : 0 ≤ S_.2.2.1 209 0 w_.toNat ∧ S_.2.2.1 209 0 w_.toNat ≤ 7 := hI_.2 209 0 _
      have sh_ := shr3 (x_ := S_.2.2.1 209 0 w_.toNat) (by omega)
      have M0_ := wk_in hgs_ tw_.2.1 (W9_.2.2 0 (by omega) (by omega)) (by omega) (h1_ 0 (by omega) (by omega))
      rw [sh_.1, Int.add_zero] at M0_
      have M1_ : 1 < sz_ → _ := fun z9_ => wk_in hgs_ tw_.2.1 (W9_.2.2 1 (by omega) z9_) (by omega) (h1_ 1 (by omega) (by omega))
      rw [sh_.2.1] at M1_
      have M2_ : 2 < sz_ → _ := fun z9_ => wk_in hgs_ tw_.2.1 (W9_.2.2 2 (by omega) z9_) (by omega) (h1_ 2 (by omega) (by omega))
      rw [sh_.2.2] at M2_
      refine sm_T_go 5 (c1 := (242, [some (.inr (.inr (some (13, 0)))), some (.inl w_), some (.inl sz_), some (.inl k_), none, none], [.inl w_, .inl 3, .inr (.inr (some (208, 0))), .inr (.inr (some (13, 0)))], S_)) rfl ?_
      refine sm_T_bin (w := 3 * w_) rfl (bi_mul (by omega) (by omega) (by omega)) ?_ -- pc_ 242
      refine sm_T_iald (n := 12288) rfl rfl (by omega) (by omega) ?_
      have bx2_ : 0 ≤ S_.2.2.1 208 0 (3 * w_).toNat ∧ S_.2.2.1 208 0 (3 * w_).toNat ≤ 2047 := hI_.2 208 0 _
      refine sm_T_go 3 (c1 := (249, [some (.inr (.inr (some (13, 0)))), some (.inl w_), some (.inl sz_), some (.inl k_), none, none], [.inl w_, .inr (.inr (some (209, 0))), .inl (S_.2.2.1 208 0 (3 * w_).toNat), .inr (.inr (some (13, 0)))], S_)) rfl ?_
      refine sm_T_iald (n := 4096) rfl rfl (by omega) (by omega) ?_
      have bx3_ : 0 ≤ S_.2.2.1 209 0 w_.toNat ∧ S_.2.2.1 209 0 w_.toNat ≤ 7 := hI_.2 209 0 _
      refine sm_T_go 1 (c1 := (251, [some (.inr (.inr (some (13, 0)))), some (.inl w_), some (.inl sz_), some (.inl k_), none, none], [.inl 1, .inl (S_.2.2.1 209 0 w_.toNat), .inl (S_.2.2.1 208 0 (3 * w_).toNat), .inr (.inr (some (13, 0)))], S_)) rfl ?_
      refine sm_T_bin (w := ((S_.2.2.1 209 0 w_.toNat) % 2)) rfl (bi_msk (k := 1) (by decide)) ?_ -- pc_ 251
      refine sm_T_cal (d1 := 2) (Q1 := vq_415 (S_.2.2.1 208 0 (3 * w_).toNat) ((S_.2.2.1 209 0 w_.toNat) % 2) F_ S_) rfl rfl (by decide) (vc_415 (S_.2.2.1 208 0 (3 * w_).toNat) ((S_.2.2.1 209 0 w_.toNat) % 2) F_ S_ hI_ (by exact f160_) (by omega)) (fun u_ Sx4_ px7_ => ?_)
      obtain ⟨rfl, vx9_, rfl, px7_⟩ := px7_
      have e252_ := px7_
      refine sm_T_go 3 (c1 := (258, [some (.inr (.inr (some (13, 0)))), some (.inl w_), some (.inl sz_), some (.inl vx9_), none, none], [.inl 1, .inl sz_], S_)) rfl ?_
      refine sm_T_br (a := 5) (z := 30) rfl (fun cx10_ => ?_) (fun cx10_ => ?_)
      · have cx10_ : sz_ ≤ 1 := of_decide_eq_true cx10_
        refine sm_T_go 4 (c1 := (293, [some (.inr (.inr (some (13, 0)))), some (.inl w_), some (.inl sz_), some (.inl vx9_), some (.inl (-1)), none], [.inl 2, .inl sz_], S_)) rfl ?_
        refine sm_T_br (a := 5) (z := 30) rfl (fun cx11_ => ?_) (fun cx11_ => ?_)
        · have cx11_ : sz_ ≤ 2 := of_decide_eq_true cx11_
          refine sm_T_go 9 (c1 := (337, [some (.inr (.inr (some (13, 0)))), some (.inl w_), some (.inl sz_), some (.inl vx9_), some (.inl (-1)), some (.inl (-1))], [.inl w_, .inr (.inr (some (207, 0))), .inr (.inr (some (13, 0))), .inl w_, .inr (.inr (some (218, 0)))], S_)) rfl ?_
          refine sm_T_iald (n := 4096) rfl rfl (by omega) (by omega) ?_
          have bx12_ : (-1) ≤ S_.2.2.1 207 0 w_.toNat ∧ S_.2.2.1 207 0 w_.toNat ≤ 11 := hI_.2 207 0 _
          refine sm_T_go 3 (c1 := (343, [some (.inr (.inr (some (13, 0)))), some (.inl w_), some (.inl sz_), some (.inl vx9_), some (.inl (-1)), some (.inl (-1))], [.inl (-1), .inl (-1), .inl vx9_, .inl (S_.2.2.1 207 0 w_.toNat), .inr (.inr (some (13, 0))), .inl w_, .inr (.inr (some (218, 0)))], S_)) rfl ?_
          refine sm_T_cal (d1 := 1) (Q1 := vq_410 (S_.2.2.1 207 0 w_.toNat) vx9_ (-1) (-1) F_ N_ d_ S_) rfl rfl (by decide) (vc_410 (S_.2.2.1 207 0 w_.toNat) vx9_ (-1) (-1) F_ N_ d_ S_ hI_ (by exact hd_) (by omega) (by omega) (by omega) (by (intro k9_ K9_ c9_ s9_; rcases K9_ with K9_ | K9_ <;> subst K9_; (rw [if_pos rfl]; omega); (rw [if_neg (by decide)]; omega))) (by exact hgs_.2.2.2)) (fun u_ Sx13_ px16_ => ?_)
          obtain ⟨vx18_, rfl, hIx14_, hFx15_, px16_⟩ := px16_
          have hFx17_ : ai_fr (sx_W vw_417) S0_ Sx13_ := ai_fr_tr hF_ (fr_le hFx15_ rfl)
          have e343_ := px16_
          have f343_ := hFx15_
          refine sm_T_iast (n := 4096) rfl rfl (by omega) (by omega) ?_
          have hIx19_ : gi (sm_aI Sx13_ 218 0 w_.toNat vx18_) := gi_aI hIx14_ (show (-2) ≤ vx18_ ∧ vx18_ ≤ 9000 from ⟨by omega, by omega⟩)
          have hFx20_ : ai_fr (sx_W vw_417) S0_ (sm_aI Sx13_ 218 0 w_.toNat vx18_) := ai_fr_tr hFx17_ (ai_fr_aI rfl)
          refine sm_T_rv rfl ⟨_, _, rfl, rfl, hIx19_, hFx20_, ?_⟩
          rw [← h4_]
          exact wk_g (by assumption) hgs_ hjs_ (by omega) (by omega) f343_ ⟨tw_.1, tw_.2.1⟩ (by omega) e343_
        · have cx11_ : ¬ (sz_ ≤ 2) := of_decide_eq_false cx11_
          exfalso; omega
      · have cx10_ : ¬ (sz_ ≤ 1) := of_decide_eq_false cx10_
        refine sm_T_go 5 (c1 := (268, [some (.inr (.inr (some (13, 0)))), some (.inl w_), some (.inl sz_), some (.inl vx9_), none, none], [.inl w_, .inl 3, .inr (.inr (some (208, 0))), .inr (.inr (some (13, 0)))], S_)) rfl ?_
        refine sm_T_bin (w := 3 * w_) rfl (bi_mul (by omega) (by omega) (by omega)) ?_ -- pc_ 268
        refine sm_T_go 1 (c1 := (270, [some (.inr (.inr (some (13, 0)))), some (.inl w_), some (.inl sz_), some (.inl vx9_), none, none], [.inl 1, .inl (3 * w_), .inr (.inr (some (208, 0))), .inr (.inr (some (13, 0)))], S_)) rfl ?_
        refine sm_T_bin (w := 3 * w_ + 1) rfl (bi_add (by omega) (by omega) (by omega)) ?_ -- pc_ 270
        refine sm_T_iald (n := 12288) rfl rfl (by omega) (by omega) ?_
        have bx21_ : 0 ≤ S_.2.2.1 208 0 (3 * w_ + 1).toNat ∧ S_.2.2.1 208 0 (3 * w_ + 1).toNat ≤ 2047 := hI_.2 208 0 _
        refine sm_T_go 3 (c1 := (277, [some (.inr (.inr (some (13, 0)))), some (.inl w_), some (.inl sz_), some (.inl vx9_), none, none], [.inl w_, .inr (.inr (some (209, 0))), .inl (S_.2.2.1 208 0 (3 * w_ + 1).toNat), .inr (.inr (some (13, 0)))], S_)) rfl ?_
        refine sm_T_iald (n := 4096) rfl rfl (by omega) (by omega) ?_
        refine sm_T_go 1 (c1 := (279, [some (.inr (.inr (some (13, 0)))), some (.inl w_), some (.inl sz_), some (.inl vx9_), none, none], [.inl 1, .inl (S_.2.2.1 209 0 w_.toNat), .inl (S_.2.2.1 208 0 (3 * w_ + 1).toNat), .inr (.inr (some (13, 0)))], S_)) rfl ?_
        refine sm_T_bin (w := ((S_.2.2.1 209 0 w_.toNat) / 2)) rfl (bi_shr (k := 1) (by decide) (by omega) (by omega)) ?_ -- pc_ 279
        refine sm_T_go 1 (c1 := (281, [some (.inr (.inr (some (13, 0)))), some (.inl w_), some (.inl sz_), some (.inl vx9_), none, none], [.inl 1, .inl ((S_.2.2.1 209 0 w_.toNat) / 2), .inl (S_.2.2.1 208 0 (3 * w_ + 1).toNat), .inr (.inr (some (13, 0)))], S_)) rfl ?_
        refine sm_T_bin (w := (((S_.2.2.1 209 0 w_.toNat) / 2) % 2)) rfl (bi_msk (k := 1) (by decide)) ?_ -- pc_ 281
        refine sm_T_cal (d1 := 2) (Q1 := vq_415 (S_.2.2.1 208 0 (3 * w_ + 1).toNat) (((S_.2.2.1 209 0 w_.toNat) / 2) % 2) F_ S_) rfl rfl (by decide) (vc_415 (S_.2.2.1 208 0 (3 * w_ + 1).toNat) (((S_.2.2.1 209 0 w_.toNat) / 2) % 2) F_ S_ hI_ (by exact f160_) (by (have y9_ := M1_ (by omega); omega))) (fun u_ Sx22_ px25_ => ?_)
        obtain ⟨rfl, vx27_, rfl, px25_⟩ := px25_
        have e282_ := px25_
        have y282_ := M1_ (by omega)
        refine sm_T_go 4 (c1 := (293, [some (.inr (.inr (some (13, 0)))), some (.inl w_), some (.inl sz_), some (.inl vx9_), some (.inl vx27_), none], [.inl 2, .inl sz_], S_)) rfl ?_
        refine sm_T_br (a := 5) (z := 30) rfl (fun cx28_ => ?_) (fun cx28_ => ?_)
        · have cx28_ : sz_ ≤ 2 := of_decide_eq_true cx28_
          refine sm_T_go 9 (c1 := (337, [some (.inr (.inr (some (13, 0)))), some (.inl w_), some (.inl sz_), some (.inl vx9_), some (.inl vx27_), some (.inl (-1))], [.inl w_, .inr (.inr (some (207, 0))), .inr (.inr (some (13, 0))), .inl w_, .inr (.inr (some (218, 0)))], S_)) rfl ?_
          refine sm_T_iald (n := 4096) rfl rfl (by omega) (by omega) ?_
          have bx29_ : (-1) ≤ S_.2.2.1 207 0 w_.toNat ∧ S_.2.2.1 207 0 w_.toNat ≤ 11 := hI_.2 207 0 _
          refine sm_T_go 3 (c1 := (343, [some (.inr (.inr (some (13, 0)))), some (.inl w_), some (.inl sz_), some (.inl vx9_), some (.inl vx27_), some (.inl (-1))], [.inl (-1), .inl vx27_, .inl vx9_, .inl (S_.2.2.1 207 0 w_.toNat), .inr (.inr (some (13, 0))), .inl w_, .inr (.inr (some (218, 0)))], S_)) rfl ?_
          refine sm_T_cal (d1 := 1) (Q1 := vq_410 (S_.2.2.1 207 0 w_.toNat) vx9_ vx27_ (-1) F_ N_ d_ S_) rfl rfl (by decide) (vc_410 (S_.2.2.1 207 0 w_.toNat) vx9_ vx27_ (-1) F_ N_ d_ S_ hI_ (by exact hd_) (by omega) (by omega) (by omega) (by (intro k9_ K9_ c9_ s9_; rcases K9_ with K9_ | K9_ <;> subst K9_; (rw [if_pos rfl]; omega); (rw [if_neg (by decide)]; omega))) (by exact hgs_.2.2.2)) (fun u_ Sx30_ px33_ => ?_)
          obtain ⟨vx35_, rfl, hIx31_, hFx32_, px33_⟩ := px33_
          have hFx34_ : ai_fr (sx_W vw_417) S0_ Sx30_ := ai_fr_tr hF_ (fr_le hFx32_ rfl)
          have e343_ := px33_
          have f343_ := hFx32_
          refine sm_T_iast (n := 4096) rfl rfl (by omega) (by omega) ?_
          have hIx36_ : gi (sm_aI Sx30_ 218 0 w_.toNat vx35_) := gi_aI hIx31_ (show (-2) ≤ vx35_ ∧ vx35_ ≤ 9000 from ⟨by omega, by omega⟩)
          have hFx37_ : ai_fr (sx_W vw_417) S0_ (sm_aI Sx30_ 218 0 w_.toNat vx35_) := ai_fr_tr hFx34_ (ai_fr_aI rfl)
          refine sm_T_rv rfl ⟨_, _, rfl, rfl, hIx36_, hFx37_, ?_⟩
          rw [← h4_]
          exact wk_g (by assumption) hgs_ hjs_ (by omega) (by omega) f343_ ⟨tw_.1, tw_.2.1⟩ (by omega) e343_
        · have cx28_ : ¬ (sz_ ≤ 2) := of_decide_eq_false cx28_
          refine sm_T_go 5 (c1 := (303, [some (.inr (.inr (some (13, 0)))), some (.inl w_), some (.inl sz_), some (.inl vx9_), some (.inl vx27_), none], [.inl w_, .inl 3, .inr (.inr (some (208, 0))), .inr (.inr (some (13, 0)))], S_)) rfl ?_
          refine sm_T_bin (w := 3 * w_) rfl (bi_mul (by omega) (by omega) (by omega)) ?_ -- pc_ 303
          refine sm_T_go 1 (c1 := (305, [some (.inr (.inr (some (13, 0)))), some (.inl w_), some (.inl sz_), some (.inl vx9_), some (.inl vx27_), none], [.inl 2, .inl (3 * w_), .inr (.inr (some (208, 0))), .inr (.inr (some (13, 0)))], S_)) rfl ?_
          refine sm_T_bin (w := 3 * w_ + 2) rfl (bi_add (by omega) (by omega) (by omega)) ?_ -- pc_ 305
          refine sm_T_iald (n := 12288) rfl rfl (by omega) (by omega) ?_
          have bx38_ : 0 ≤ S_.2.2.1 208 0 (3 * w_ + 2).toNat ∧ S_.2.2.1 208 0 (3 * w_ + 2).toNat ≤ 2047 := hI_.2 208 0 _
          refine sm_T_go 3 (c1 := (312, [some (.inr (.inr (some (13, 0)))), some (.inl w_), some (.inl sz_), some (.inl vx9_), some (.inl vx27_), none], [.inl w_, .inr (.inr (some (209, 0))), .inl (S_.2.2.1 208 0 (3 * w_ + 2).toNat), .inr (.inr (some (13, 0)))], S_)) rfl ?_
          refine sm_T_iald (n := 4096) rfl rfl (by omega) (by omega) ?_
          refine sm_T_go 1 (c1 := (314, [some (.inr (.inr (some (13, 0)))), some (.inl w_), some (.inl sz_), some (.inl vx9_), some (.inl vx27_), none], [.inl 2, .inl (S_.2.2.1 209 0 w_.toNat), .inl (S_.2.2.1 208 0 (3 * w_ + 2).toNat), .inr (.inr (some (13, 0)))], S_)) rfl ?_
          refine sm_T_bin (w := ((S_.2.2.1 209 0 w_.toNat) / 4)) rfl (bi_shr (k := 2) (by decide) (by omega) (by omega)) ?_ -- pc_ 314
          refine sm_T_go 1 (c1 := (316, [some (.inr (.inr (some (13, 0)))), some (.inl w_), some (.inl sz_), some (.inl vx9_), some (.inl vx27_), none], [.inl 1, .inl ((S_.2.2.1 209 0 w_.toNat) / 4), .inl (S_.2.2.1 208 0 (3 * w_ + 2).toNat), .inr (.inr (some (13, 0)))], S_)) rfl ?_
          refine sm_T_bin (w := (((S_.2.2.1 209 0 w_.toNat) / 4) % 2)) rfl (bi_msk (k := 1) (by decide)) ?_ -- pc_ 316
          refine sm_T_cal (d1 := 2) (Q1 := vq_415 (S_.2.2.1 208 0 (3 * w_ + 2).toNat) (((S_.2.2.1 209 0 w_.toNat) / 4) % 2) F_ S_) rfl rfl (by decide) (vc_415 (S_.2.2.1 208 0 (3 * w_ + 2).toNat) (((S_.2.2.1 209 0 w_.toNat) / 4) % 2) F_ S_ hI_ (by exact f160_) (by (have y9_ := M2_ (by omega); omega))) (fun u_ Sx39_ px42_ => ?_)
          obtain ⟨rfl, vx44_, rfl, px42_⟩ := px42_
          have e317_ := px42_
          have y317_ := M2_ (by omega)
          refine sm_T_go 9 (c1 := (337, [some (.inr (.inr (some (13, 0)))), some (.inl w_), some (.inl sz_), some (.inl vx9_), some (.inl vx27_), some (.inl vx44_)], [.inl w_, .inr (.inr (some (207, 0))), .inr (.inr (some (13, 0))), .inl w_, .inr (.inr (some (218, 0)))], S_)) rfl ?_
          refine sm_T_iald (n := 4096) rfl rfl (by omega) (by omega) ?_
          have bx45_ : (-1) ≤ S_.2.2.1 207 0 w_.toNat ∧ S_.2.2.1 207 0 w_.toNat ≤ 11 := hI_.2 207 0 _
          refine sm_T_go 3 (c1 := (343, [some (.inr (.inr (some (13, 0)))), some (.inl w_), some (.inl sz_), some (.inl vx9_), some (.inl vx27_), some (.inl vx44_)], [.inl vx44_, .inl vx27_, .inl vx9_, .inl (S_.2.2.1 207 0 w_.toNat), .inr (.inr (some (13, 0))), .inl w_, .inr (.inr (some (218, 0)))], S_)) rfl ?_
          refine sm_T_cal (d1 := 1) (Q1 := vq_410 (S_.2.2.1 207 0 w_.toNat) vx9_ vx27_ vx44_ F_ N_ d_ S_) rfl rfl (by decide) (vc_410 (S_.2.2.1 207 0 w_.toNat) vx9_ vx27_ vx44_ F_ N_ d_ S_ hI_ (by exact hd_) (by omega) (by omega) (by omega) (by (intro k9_ K9_ c9_ s9_; rcases K9_ with K9_ | K9_ <;> subst K9_; (rw [if_pos rfl]; omega); (rw [if_neg (by decide)]; omega))) (by exact hgs_.2.2.2)) (fun u_ Sx46_ px49_ => ?_)
          obtain ⟨vx51_, rfl, hIx47_, hFx48_, px49_⟩ := px49_
          have hFx50_ : ai_fr (sx_W vw_417) S0_ Sx46_ := ai_fr_tr hF_ (fr_le hFx48_ rfl)
          have e343_ := px49_
          have f343_ := hFx48_
          refine sm_T_iast (n := 4096) rfl rfl (by omega) (by omega) ?_
          have hIx52_ : gi (sm_aI Sx46_ 218 0 w_.toNat vx51_) := gi_aI hIx47_ (show (-2) ≤ vx51_ ∧ vx51_ ≤ 9000 from ⟨by omega, by omega⟩)
          have hFx53_ : ai_fr (sx_W vw_417) S0_ (sm_aI Sx46_ 218 0 w_.toNat vx51_) := ai_fr_tr hFx50_ (ai_fr_aI rfl)
          refine sm_T_rv rfl ⟨_, _, rfl, rfl, hIx52_, hFx53_, ?_⟩
          rw [← h4_]
          exact wk_g (by assumption) hgs_ hjs_ (by omega) (by omega) f343_ ⟨tw_.1, tw_.2.1⟩ (by omega) e343_
    · have cx1_ : ¬ (sz_ ≤ k_) := of_decide_eq_false cx1_
      have I9_ := W9_.2.2 k_ (by omega) (by omega)
      have i1_ := I9_.1.1
      have i2_ := I9_.1.2.1
      have i3_ := I9_.1.2.2
      have i4_ := I9_.2
      have q2k : (2 * S_.2.2.1 208 0 (3 * w_ + k_).toNat + i_shr (S_.2.2.1 209 0 w_.toNat) k_ % 2) / 2 = S_.2.2.1 208 0 (3 * w_ + k_).toNat := by omega
      refine sm_T_go 3 (c1 := (185, [some (.inr (.inr (some (13, 0)))), some (.inl w_), some (.inl sz_), some (.inl k_), none, none], [.inl w_, .inr (.inr (some (209, 0)))], S_)) rfl ?_
      refine sm_T_iald (n := 4096) rfl rfl (by omega) (by omega) ?_
      have bx54_ : 0 ≤ S_.2.2.1 209 0 w_.toNat ∧ S_.2.2.1 209 0 w_.toNat ≤ 7 := hI_.2 209 0 _
      refine sm_T_go 1 (c1 := (187, [some (.inr (.inr (some (13, 0)))), some (.inl w_), some (.inl sz_), some (.inl k_), none, none], [.inl k_, .inl (S_.2.2.1 209 0 w_.toNat)], S_)) rfl ?_
      refine sm_T_bin (w := (i_shr (S_.2.2.1 209 0 w_.toNat) k_)) rfl rfl ?_ -- pc_ 187
      refine sm_T_go 1 (c1 := (189, [some (.inr (.inr (some (13, 0)))), some (.inl w_), some (.inl sz_), some (.inl k_), none, none], [.inl 1, .inl (i_shr (S_.2.2.1 209 0 w_.toNat) k_)], S_)) rfl ?_
      refine sm_T_bin (w := ((i_shr (S_.2.2.1 209 0 w_.toNat) k_) % 2)) rfl (bi_msk (k := 1) (by decide)) ?_ -- pc_ 189
      refine sm_T_go 6 (c1 := (199, [some (.inr (.inr (some (13, 0)))), some (.inl w_), some (.inl sz_), some (.inl k_), some (.inl ((i_shr (S_.2.2.1 209 0 w_.toNat) k_) % 2)), none], [.inl w_, .inl 3, .inr (.inr (some (208, 0))), .inr (.inr (some (13, 0)))], S_)) rfl ?_
      refine sm_T_bin (w := 3 * w_) rfl (bi_mul (by omega) (by omega) (by omega)) ?_ -- pc_ 199
      refine sm_T_go 1 (c1 := (201, [some (.inr (.inr (some (13, 0)))), some (.inl w_), some (.inl sz_), some (.inl k_), some (.inl ((i_shr (S_.2.2.1 209 0 w_.toNat) k_) % 2)), none], [.inl k_, .inl (3 * w_), .inr (.inr (some (208, 0))), .inr (.inr (some (13, 0)))], S_)) rfl ?_
      refine sm_T_bin (w := 3 * w_ + k_) rfl (bi_add (by omega) (by omega) (by omega)) ?_ -- pc_ 201
      refine sm_T_iald (n := 12288) rfl rfl (by omega) (by omega) ?_
      have bx55_ : 0 ≤ S_.2.2.1 208 0 (3 * w_ + k_).toNat ∧ S_.2.2.1 208 0 (3 * w_ + k_).toNat ≤ 2047 := hI_.2 208 0 _
      refine sm_T_go 1 (c1 := (205, [some (.inr (.inr (some (13, 0)))), some (.inl w_), some (.inl sz_), some (.inl k_), some (.inl ((i_shr (S_.2.2.1 209 0 w_.toNat) k_) % 2)), none], [.inl ((i_shr (S_.2.2.1 209 0 w_.toNat) k_) % 2), .inl (S_.2.2.1 208 0 (3 * w_ + k_).toNat), .inr (.inr (some (13, 0)))], S_)) rfl ?_
      refine sm_T_cal (d1 := 2) (Q1 := vq_415 (S_.2.2.1 208 0 (3 * w_ + k_).toNat) ((i_shr (S_.2.2.1 209 0 w_.toNat) k_) % 2) F_ S_) rfl rfl (by decide) (vc_415 (S_.2.2.1 208 0 (3 * w_ + k_).toNat) ((i_shr (S_.2.2.1 209 0 w_.toNat) k_) % 2) F_ S_ hI_ (by exact f160_) (by omega)) (fun u_ Sx56_ px59_ => ?_)
      obtain ⟨rfl, vx61_, rfl, px59_⟩ := px59_
      have e205_ := px59_
      refine sm_T_go 1 (c1 := (209, [some (.inr (.inr (some (13, 0)))), some (.inl w_), some (.inl sz_), some (.inl k_), some (.inl ((i_shr (S_.2.2.1 209 0 w_.toNat) k_) % 2)), none], [.inl (-1), .inl vx61_], S_)) rfl ?_
      refine sm_T_br (a := 1) (z := 20) rfl (fun cx62_ => ?_) (fun cx62_ => ?_)
      · have cx62_ : vx61_ ≠ (-1) := of_decide_eq_true cx62_
        refine sm_T_inc (a := 3) (z := 1) (v := k_) (w := k_ + 1) rfl rfl (by omega) (by omega) (by omega) ?_ -- pc_ 229
        refine sm_T_go 1 (c1 := (175, [some (.inr (.inr (some (13, 0)))), some (.inl w_), some (.inl sz_), some (.inl (k_ + 1)), some (.inl ((i_shr (S_.2.2.1 209 0 w_.toNat) k_) % 2)), none], [], S_)) rfl ?_
        refine sm_T_wk [some (.inr (.inr (some (13, 0)))), some (.inl w_), some (.inl sz_), some (.inl (k_ + 1)), none, none] (by exact ⟨rfl, rfl, rfl, rfl, trivial⟩) ?_
        refine ih_ w_ sz_ (k_ + 1) S_ hI_ hF_ ⟨?_, ?_, ?_, trivial⟩ ?_
        · exact h4_
        · rw [← h4_]
          omega
        · rw [← h4_]
          intro j9_ u0_ u1_
          by_cases z9_ : j9_ = k_
          · rw [z9_, ← e205_.1]; omega
          · exact h1_ j9_ u0_ (by omega)
        · omega
      · have cx62_ : ¬ (vx61_ ≠ (-1)) := of_decide_eq_false cx62_
        refine sm_T_go 5 (c1 := (219, [some (.inr (.inr (some (13, 0)))), some (.inl w_), some (.inl sz_), some (.inl k_), some (.inl ((i_shr (S_.2.2.1 209 0 w_.toNat) k_) % 2)), none], [.inl w_, .inl 3, .inr (.inr (some (208, 0))), .inr (.inr (some (13, 0)))], S_)) rfl ?_
        refine sm_T_bin (w := 3 * w_) rfl (bi_mul (by omega) (by omega) (by omega)) ?_ -- pc_ 219
        refine sm_T_go 1 (c1 := (221, [some (.inr (.inr (some (13, 0)))), some (.inl w_), some (.inl sz_), some (.inl k_), some (.inl ((i_shr (S_.2.2.1 209 0 w_.toNat) k_) % 2)), none], [.inl k_, .inl (3 * w_), .inr (.inr (some (208, 0))), .inr (.inr (some (13, 0)))], S_)) rfl ?_
        refine sm_T_bin (w := 3 * w_ + k_) rfl (bi_add (by omega) (by omega) (by omega)) ?_ -- pc_ 221
        refine sm_T_iald (n := 12288) rfl rfl (by omega) (by omega) ?_
        refine sm_T_go 1 (c1 := (225, [some (.inr (.inr (some (13, 0)))), some (.inl w_), some (.inl sz_), some (.inl k_), some (.inl ((i_shr (S_.2.2.1 209 0 w_.toNat) k_) % 2)), none], [.inl ((i_shr (S_.2.2.1 209 0 w_.toNat) k_) % 2), .inl (S_.2.2.1 208 0 (3 * w_ + k_).toNat), .inr (.inr (some (13, 0)))], S_)) rfl ?_
        refine sm_T_cal (d1 := 2) (Q1 := vq_416 (S_.2.2.1 208 0 (3 * w_ + k_).toNat) ((i_shr (S_.2.2.1 209 0 w_.toNat) k_) % 2) F_ S_) rfl rfl (by decide) (vc_416 (S_.2.2.1 208 0 (3 * w_ + k_).toNat) ((i_shr (S_.2.2.1 209 0 w_.toNat) k_) % 2) F_ S_ hI_ (by exact f160_) (by omega) (by omega)) (fun u_ Sx63_ px66_ => ?_)
        obtain ⟨rfl, hIx64_, hFx65_, px66_⟩ := px66_
        have hFx67_ : ai_fr (sx_W vw_417) S0_ Sx63_ := ai_fr_tr hF_ (fr_le hFx65_ rfl)
        have e225_ := px66_
        have f225_ := hFx65_
        refine sm_T_rv rfl ⟨_, _, rfl, rfl, hIx64_, hFx67_, ?_⟩
        rw [← h4_]
        rcases e225_ with e9_ | e9_
        · exact wk_push hI_ hgs_ hjs_ hj_ (by omega) e9_.2.2 f225_ (Or.inl ⟨rfl, by omega, by omega, i3_, by (rcases e9_.1 with y9_ | y9_; exact Or.inl y9_; (by_cases b9_ : S_.2.2.1 208 0 (3 * w_ + k_).toNat < F_; exact Or.inl b9_; exact Or.inr ⟨y9_, hgd_ _ (by omega) (by omega) i3_ y9_⟩))⟩) (by (rw [rk9_]; unfold jrk; rw [if_pos rfl]; omega)) nd9_ (by (unfold jdn; have z9_ := e205_.1; unfold noi at z9_; rw [if_neg (by omega), if_neg (by omega)] at z9_; omega))
        · by_cases A9_ : F_ ≤ S_.2.2.1 208 0 (3 * w_ + k_).toNat ∧ S_.2.2.1 203 0 (S_.2.2.1 208 0 (3 * w_ + k_).toNat).toNat = 0
          · have z9_ := e205_.1
            unfold noi at z9_
            unfold cst at i4_
            rw [if_pos A9_] at z9_ i4_
            have c9_ : S_.2.2.1 211 0 (2 * S_.2.2.1 208 0 (3 * w_ + k_).toNat + i_shr (S_.2.2.1 209 0 w_.toNat) k_ % 2).toNat ≤ 1 := (hI_.2 211 0 _).2
            exact wk_push hI_ hgs_ hjs_ hj_ (by omega) e9_.2 f225_ (Or.inr ⟨rfl, by omega, by omega, by (rw [q2k]; exact i3_), i4_⟩) (by (rw [rk9_]; unfold jrk; rw [if_neg (by decide), q2k]; omega)) nd9_ (by (unfold jdn; omega))
          · have t9_ : i_shr (S_.2.2.1 209 0 w_.toNat) k_ % 2 = 0 := by omega
            have z9_ := e205_.1
            unfold noi at z9_
            rw [if_neg A9_, if_pos t9_] at z9_
            unfold lnf at z9_
            have F9_ : ¬ (S_.2.2.1 208 0 (3 * w_ + k_).toNat < F_) := fun F9_ => by (rw [if_pos F9_] at z9_; omega)
            rw [if_neg F9_] at z9_
            have e8_ := e9_.2
            rw [t9_, Int.add_zero] at e8_
            have b3_ : 0 ≤ S_.2.2.1 203 0 (S_.2.2.1 208 0 (3 * w_ + k_).toNat).toNat ∧ S_.2.2.1 203 0 (S_.2.2.1 208 0 (3 * w_ + k_).toNat).toNat ≤ 1 := hI_.2 203 0 _
            have q9_ : 2 * S_.2.2.1 208 0 (3 * w_ + k_).toNat / 2 = S_.2.2.1 208 0 (3 * w_ + k_).toNat := by omega
            have c9_ : S_.2.2.1 211 0 (2 * S_.2.2.1 208 0 (3 * w_ + k_).toNat).toNat ≤ 1 := (hI_.2 211 0 _).2
            exact wk_push hI_ hgs_ hjs_ hj_ (by omega) e8_ f225_ (Or.inr ⟨rfl, by omega, by omega, by (rw [q9_]; exact i3_), hgd_ _ (by omega) (by omega) i3_ (by omega)⟩) (by (rw [rk9_]; unfold jrk; rw [if_neg (by decide), q9_]; omega)) nd9_ (by (unfold jdn; omega))
set_option maxHeartbeats 4000000 in
set_option maxRecDepth 20000 in
theorem vc_417 {sc_ : Nat × (Nat → Int)} (F_ : Int) (N_ : Int) (d_ : Int) (S0_ : sm_S) (hI_ : gi S0_) (hd_ : dmp F_ N_ d_ S0_) (hal_ : wal9 F_ N_ S0_) (hgd_ : gdr F_ N_ S0_) (hiv_ : (S0_.1 13 0 107) = -1 ∨ S0_.2.2.1 185 0 (12 * S0_.1 13 0 106 + S0_.1 13 0 107).toNat = 1) (hgs_ : gst F_ N_ S0_) (hjs_ : jsk F_ N_ S0_) (hj_ : 1 ≤ (S0_.1 13 0 137)) : sm_T (mt_P sc_) 3 417 (0, [some (.inr (.inr (some (13, 0)))), none, none, none, none, none], [], S0_) (fun ro9_ => ∃ u_ S1_, ro9_ = (.inl u_, S1_, 0) ∧ vq_417 F_ N_ d_ S0_ u_ S1_) := by
  have hF_ : ai_fr (sx_W vw_417) S0_ S0_ := ai_fr_rf
  have d1_ := hd_.1
  have tj_ := hjs_ (S0_.1 13 0 137 - 1) (by omega) (by omega)
  have tg_ := tj_.1
  have f160_ : S0_.2.2.1 160 0 (S0_.1 13 0 105).toNat = F_ := by (rw [d1_.2.2.1]; exact d1_.2.2.2.1)
  have jc_ := jsk_c hI_ hjs_ (by omega)
  have g0_ := hgs_.1
  have cw : 0 ≤ S0_.2.2.1 220 0 (S0_.1 13 0 137 - 1).toNat ∧ S0_.2.2.1 220 0 (S0_.1 13 0 137 - 1).toNat ≤ 4095 := hI_.2 220 0 _
  have cs_ : 0 ≤ S0_.2.2.1 221 0 (S0_.1 13 0 137 - 1).toNat ∧ S0_.2.2.1 221 0 (S0_.1 13 0 137 - 1).toNat ≤ 1 := hI_.2 221 0 _
  have bx1_ : 0 ≤ S0_.1 13 0 137 ∧ S0_.1 13 0 137 ≤ 8191 := hI_.1 13 0 137 rfl
  refine sm_T_go 5 (c1 := (9, [some (.inr (.inr (some (13, 0)))), none, none, none, none, none], [.inl 1, .inl (S0_.1 13 0 137), .inr (.inr (some (220, 0)))], S0_)) rfl ?_
  refine sm_T_bin (w := (S0_.1 13 0 137) - 1) rfl (bi_sub (by omega) (by omega) (by omega)) ?_ -- pc_ 9
  refine sm_T_iald (n := 8192) rfl rfl (by omega) (by omega) ?_
  have bx2_ : 0 ≤ S0_.2.2.1 220 0 ((S0_.1 13 0 137) - 1).toNat ∧ S0_.2.2.1 220 0 ((S0_.1 13 0 137) - 1).toNat ≤ 4095 := hI_.2 220 0 _
  refine sm_T_go 6 (c1 := (21, [some (.inr (.inr (some (13, 0)))), some (.inl (S0_.2.2.1 220 0 ((S0_.1 13 0 137) - 1).toNat)), none, none, none, none], [.inl 1, .inl (S0_.1 13 0 137), .inr (.inr (some (221, 0)))], S0_)) rfl ?_
  refine sm_T_bin (w := (S0_.1 13 0 137) - 1) rfl (bi_sub (by omega) (by omega) (by omega)) ?_ -- pc_ 21
  refine sm_T_iald (n := 8192) rfl rfl (by omega) (by omega) ?_
  have bx3_ : 0 ≤ S0_.2.2.1 221 0 ((S0_.1 13 0 137) - 1).toNat ∧ S0_.2.2.1 221 0 ((S0_.1 13 0 137) - 1).toNat ≤ 1 := hI_.2 221 0 _
  refine sm_T_go 1 (c1 := (24, [some (.inr (.inr (some (13, 0)))), some (.inl (S0_.2.2.1 220 0 ((S0_.1 13 0 137) - 1).toNat)), none, none, none, none], [.inl 1, .inl (S0_.2.2.1 221 0 ((S0_.1 13 0 137) - 1).toNat)], S0_)) rfl ?_
  refine sm_T_br (a := 1) (z := 62) rfl (fun cx4_ => ?_) (fun cx4_ => ?_)
  · have cx4_ : (S0_.2.2.1 221 0 ((S0_.1 13 0 137) - 1).toNat) ≠ 1 := of_decide_eq_true cx4_
    have t0_ : 2 * F_ ≤ (S0_.2.2.1 220 0 (S0_.1 13 0 137 - 1).toNat) ∧ (S0_.2.2.1 220 0 (S0_.1 13 0 137 - 1).toNat) < 2 * N_ ∧ S0_.2.2.1 202 0 ((S0_.2.2.1 220 0 (S0_.1 13 0 137 - 1).toNat) / 2).toNat = 1 ∧ S0_.2.2.1 210 0 (S0_.2.2.1 220 0 (S0_.1 13 0 137 - 1).toNat).toNat < 1000000000 := by (rcases tg_ with y9_ | y9_; (exfalso; omega); exact y9_.2)
    have W8_ := wk_way hI_ hal_ (by omega) t0_
    have x1_ := i_x1 (x_ := (S0_.2.2.1 220 0 (S0_.1 13 0 137 - 1).toNat)) (by omega)
    have qx2_ : i_xor (S0_.2.2.1 220 0 (S0_.1 13 0 137 - 1).toNat) 1 / 2 = (S0_.2.2.1 220 0 (S0_.1 13 0 137 - 1).toNat) / 2 := by omega
    refine sm_T_go 3 (c1 := (91, [some (.inr (.inr (some (13, 0)))), some (.inl (S0_.2.2.1 220 0 ((S0_.1 13 0 137) - 1).toNat)), none, none, none, none], [.inl (S0_.2.2.1 220 0 ((S0_.1 13 0 137) - 1).toNat), .inr (.inr (some (218, 0)))], S0_)) rfl ?_
    refine sm_T_iald (n := 4096) rfl rfl (by omega) (by omega) ?_
    have bx5_ : (-2) ≤ S0_.2.2.1 218 0 (S0_.2.2.1 220 0 ((S0_.1 13 0 137) - 1).toNat).toNat ∧ S0_.2.2.1 218 0 (S0_.2.2.1 220 0 ((S0_.1 13 0 137) - 1).toNat).toNat ≤ 9000 := hI_.2 218 0 _
    refine sm_T_go 1 (c1 := (93, [some (.inr (.inr (some (13, 0)))), some (.inl (S0_.2.2.1 220 0 ((S0_.1 13 0 137) - 1).toNat)), none, none, none, none], [.inl (-1), .inl (S0_.2.2.1 218 0 (S0_.2.2.1 220 0 ((S0_.1 13 0 137) - 1).toNat).toNat)], S0_)) rfl ?_
    refine sm_T_br (a := 0) (z := 14) rfl (fun cx6_ => ?_) (fun cx6_ => ?_)
    · have cx6_ : (S0_.2.2.1 218 0 (S0_.2.2.1 220 0 ((S0_.1 13 0 137) - 1).toNat).toNat) = (-1) := of_decide_eq_true cx6_
      refine sm_T_go 3 (c1 := (112, [some (.inr (.inr (some (13, 0)))), some (.inl (S0_.2.2.1 220 0 ((S0_.1 13 0 137) - 1).toNat)), none, none, none, none], [.inl (S0_.2.2.1 220 0 ((S0_.1 13 0 137) - 1).toNat), .inr (.inr (some (211, 0)))], S0_)) rfl ?_
      refine sm_T_zald (n := 4096) rfl rfl (by omega) (by omega) ?_
      have bx7_ : 0 ≤ S0_.2.2.1 211 0 (S0_.2.2.1 220 0 ((S0_.1 13 0 137) - 1).toNat).toNat ∧ S0_.2.2.1 211 0 (S0_.2.2.1 220 0 ((S0_.1 13 0 137) - 1).toNat).toNat ≤ 1 := hI_.2 211 0 _
      refine sm_T_b0 (a := 0) (z := 40) rfl (fun cx8_ => ?_) (fun cx8_ => ?_)
      · have cx8_ : (S0_.2.2.1 211 0 (S0_.2.2.1 220 0 ((S0_.1 13 0 137) - 1).toNat).toNat) = 0 := of_decide_eq_true cx8_
        have bx9_ : 0 ≤ S0_.1 13 0 106 ∧ S0_.1 13 0 106 ≤ 2 := hI_.1 13 0 106 rfl
        refine sm_T_go 5 (c1 := (163, [some (.inr (.inr (some (13, 0)))), some (.inl (S0_.2.2.1 220 0 ((S0_.1 13 0 137) - 1).toNat)), none, none, none, none], [.inl (S0_.1 13 0 106), .inl 12, .inr (.inr (some (185, 0)))], S0_)) rfl ?_
        refine sm_T_bin (w := 12 * (S0_.1 13 0 106)) rfl (bi_mul (by omega) (by omega) (by omega)) ?_ -- pc_ 163
        refine sm_T_go 3 (c1 := (169, [some (.inr (.inr (some (13, 0)))), some (.inl (S0_.2.2.1 220 0 ((S0_.1 13 0 137) - 1).toNat)), none, none, none, none], [.inl (S0_.2.2.1 220 0 ((S0_.1 13 0 137) - 1).toNat), .inr (.inr (some (207, 0))), .inl (12 * (S0_.1 13 0 106)), .inr (.inr (some (185, 0)))], S0_)) rfl ?_
        refine sm_T_iald (n := 4096) rfl rfl (by omega) (by omega) ?_
        have bx10_ : (-1) ≤ S0_.2.2.1 207 0 (S0_.2.2.1 220 0 ((S0_.1 13 0 137) - 1).toNat).toNat ∧ S0_.2.2.1 207 0 (S0_.2.2.1 220 0 ((S0_.1 13 0 137) - 1).toNat).toNat ≤ 11 := hI_.2 207 0 _
        refine sm_T_bin (w := 12 * (S0_.1 13 0 106) + (S0_.2.2.1 207 0 (S0_.2.2.1 220 0 ((S0_.1 13 0 137) - 1).toNat).toNat)) rfl (bi_add (by omega) (by omega) (by omega)) ?_ -- pc_ 170
        refine sm_T_iald (n := 36) rfl rfl (by omega) (by omega) ?_
        have bx11_ : 0 ≤ S0_.2.2.1 185 0 (12 * (S0_.1 13 0 106) + (S0_.2.2.1 207 0 (S0_.2.2.1 220 0 ((S0_.1 13 0 137) - 1).toNat).toNat)).toNat ∧ S0_.2.2.1 185 0 (12 * (S0_.1 13 0 106) + (S0_.2.2.1 207 0 (S0_.2.2.1 220 0 ((S0_.1 13 0 137) - 1).toNat).toNat)).toNat ≤ 3 := hI_.2 185 0 _
        refine sm_T_go 3 (c1 := (175, [some (.inr (.inr (some (13, 0)))), some (.inl (S0_.2.2.1 220 0 ((S0_.1 13 0 137) - 1).toNat)), some (.inl (S0_.2.2.1 185 0 (12 * (S0_.1 13 0 106) + (S0_.2.2.1 207 0 (S0_.2.2.1 220 0 ((S0_.1 13 0 137) - 1).toNat).toNat)).toNat)), some (.inl 0), none, none], [], S0_)) rfl ?_
        refine (vl_417 F_ N_ d_ S0_ hd_ hal_ hgd_ hiv_ hgs_ hjs_ hj_ _) (S0_.2.2.1 220 0 ((S0_.1 13 0 137) - 1).toNat) (S0_.2.2.1 185 0 (12 * (S0_.1 13 0 106) + (S0_.2.2.1 207 0 (S0_.2.2.1 220 0 ((S0_.1 13 0 137) - 1).toNat).toNat)).toNat) 0 S0_ hI_ hF_ ⟨?_, ?_, ?_, trivial⟩ (Nat.lt_succ_self _)
        · rfl
        · omega
        · (intro j9_ u0_ u1_; exfalso; omega)
      · have cx8_ : ¬ ((S0_.2.2.1 211 0 (S0_.2.2.1 220 0 ((S0_.1 13 0 137) - 1).toNat).toNat) = 0) := of_decide_eq_false cx8_
        refine sm_T_go 4 (c1 := (122, [some (.inr (.inr (some (13, 0)))), some (.inl (S0_.2.2.1 220 0 ((S0_.1 13 0 137) - 1).toNat)), none, none, none, none], [.inl 1, .inl (S0_.2.2.1 220 0 ((S0_.1 13 0 137) - 1).toNat), .inr (.inr (some (218, 0)))], S0_)) rfl ?_
        refine sm_T_bin (w := (i_xor (S0_.2.2.1 220 0 ((S0_.1 13 0 137) - 1).toNat) 1)) rfl rfl ?_ -- pc_ 122
        refine sm_T_iald (n := 4096) rfl rfl (by omega) (by omega) ?_
        have bx12_ : (-2) ≤ S0_.2.2.1 218 0 (i_xor (S0_.2.2.1 220 0 ((S0_.1 13 0 137) - 1).toNat) 1).toNat ∧ S0_.2.2.1 218 0 (i_xor (S0_.2.2.1 220 0 ((S0_.1 13 0 137) - 1).toNat) 1).toNat ≤ 9000 := hI_.2 218 0 _
        refine sm_T_go 3 (c1 := (127, [some (.inr (.inr (some (13, 0)))), some (.inl (S0_.2.2.1 220 0 ((S0_.1 13 0 137) - 1).toNat)), some (.inl (S0_.2.2.1 218 0 (i_xor (S0_.2.2.1 220 0 ((S0_.1 13 0 137) - 1).toNat) 1).toNat)), none, none, none], [.inl (-1), .inl (S0_.2.2.1 218 0 (i_xor (S0_.2.2.1 220 0 ((S0_.1 13 0 137) - 1).toNat) 1).toNat)], S0_)) rfl ?_
        refine sm_T_br (a := 1) (z := 14) rfl (fun cx13_ => ?_) (fun cx13_ => ?_)
        · have cx13_ : (S0_.2.2.1 218 0 (i_xor (S0_.2.2.1 220 0 ((S0_.1 13 0 137) - 1).toNat) 1).toNat) ≠ (-1) := of_decide_eq_true cx13_
          refine sm_T_go 5 (c1 := (148, [some (.inr (.inr (some (13, 0)))), some (.inl (S0_.2.2.1 220 0 ((S0_.1 13 0 137) - 1).toNat)), some (.inl (S0_.2.2.1 218 0 (i_xor (S0_.2.2.1 220 0 ((S0_.1 13 0 137) - 1).toNat) 1).toNat)), none, none, none], [.inl (S0_.2.2.1 218 0 (i_xor (S0_.2.2.1 220 0 ((S0_.1 13 0 137) - 1).toNat) 1).toNat), .inr (.inr (some (13, 0))), .inl (S0_.2.2.1 220 0 ((S0_.1 13 0 137) - 1).toNat), .inr (.inr (some (218, 0)))], S0_)) rfl ?_
          refine sm_T_cal (d1 := 2) (Q1 := vq_411 (S0_.2.2.1 218 0 (i_xor (S0_.2.2.1 220 0 ((S0_.1 13 0 137) - 1).toNat) 1).toNat) F_ N_ d_ S0_) rfl rfl (by decide) (vc_411 (S0_.2.2.1 218 0 (i_xor (S0_.2.2.1 220 0 ((S0_.1 13 0 137) - 1).toNat) 1).toNat) F_ N_ d_ S0_ hI_ (by exact hd_) (by omega) (by (have b9_ := hgs_.2.1 (i_xor (S0_.2.2.1 220 0 (S0_.1 13 0 137 - 1).toNat) 1) (by omega) (by omega); rcases b9_ with y9_ | y9_; (exfalso; omega); exact y9_)) (by exact hiv_) (by exact hgs_.2.2.2)) (fun u_ Sx14_ px17_ => ?_)
          obtain ⟨vx19_, rfl, hIx15_, hFx16_, px17_⟩ := px17_
          have hFx18_ : ai_fr (sx_W vw_417) S0_ Sx14_ := ai_fr_tr hF_ (fr_le hFx16_ rfl)
          have ex20_ : Sx14_.1 13 0 137 = S0_.1 13 0 137 := hFx16_.1 13 0 137 rfl
          have e148_ := px17_
          have f148_ := hFx16_
          refine sm_T_iast (n := 4096) rfl rfl (by omega) (by omega) ?_
          have hIx21_ : gi (sm_aI Sx14_ 218 0 (S0_.2.2.1 220 0 ((S0_.1 13 0 137) - 1).toNat).toNat vx19_) := gi_aI hIx15_ (show (-2) ≤ vx19_ ∧ vx19_ ≤ 9000 from ⟨by omega, by omega⟩)
          have hFx22_ : ai_fr (sx_W vw_417) S0_ (sm_aI Sx14_ 218 0 (S0_.2.2.1 220 0 ((S0_.1 13 0 137) - 1).toNat).toNat vx19_) := ai_fr_tr hFx18_ (ai_fr_aI rfl)
          refine sm_T_rv rfl ⟨_, _, rfl, rfl, hIx21_, hFx22_, ?_⟩
          first
          | (have y8_ := e135_; have c9_ : S0_.2.2.1 211 0 (S0_.2.2.1 220 0 (S0_.1 13 0 137 - 1).toNat).toNat ≠ 0 := by omega
             exact wk_push hI_ hgs_ hjs_ hj_ (by omega) e135_ f135_ (Or.inr ⟨rfl, by omega, by omega, by (rw [qx2_]; exact t0_.2.2.1), by (rw [x1_]; exact (W8_.2 c9_).2)⟩) (by (unfold jrk jtos jtop; rw [if_neg (by decide), if_neg (by omega), qx2_, x1_, (W8_.2 c9_).1]; omega)) (by (unfold jdn jtos jtop; omega)) (by (unfold jdn; omega)))
          | (have y8_ := e148_; exact wk_g (by assumption) hgs_ hjs_ (by omega) (by omega) f148_ ⟨t0_.1, t0_.2.1⟩ (by omega) e148_)
        · have cx13_ : ¬ ((S0_.2.2.1 218 0 (i_xor (S0_.2.2.1 220 0 ((S0_.1 13 0 137) - 1).toNat) 1).toNat) ≠ (-1)) := of_decide_eq_false cx13_
          refine sm_T_go 4 (c1 := (134, [some (.inr (.inr (some (13, 0)))), some (.inl (S0_.2.2.1 220 0 ((S0_.1 13 0 137) - 1).toNat)), some (.inl (S0_.2.2.1 218 0 (i_xor (S0_.2.2.1 220 0 ((S0_.1 13 0 137) - 1).toNat) 1).toNat)), none, none, none], [.inl 1, .inl (S0_.2.2.1 220 0 ((S0_.1 13 0 137) - 1).toNat), .inl 0, .inr (.inr (some (13, 0)))], S0_)) rfl ?_
          refine sm_T_bin (w := (i_xor (S0_.2.2.1 220 0 ((S0_.1 13 0 137) - 1).toNat) 1)) rfl rfl ?_ -- pc_ 134
          refine sm_T_cal (d1 := 0) (Q1 := vq_412 0 (i_xor (S0_.2.2.1 220 0 ((S0_.1 13 0 137) - 1).toNat) 1) S0_) rfl rfl (by decide) (vc_412 0 (i_xor (S0_.2.2.1 220 0 ((S0_.1 13 0 137) - 1).toNat) 1) S0_ hI_ (by omega) (by omega)) (fun u_ Sx23_ px26_ => ?_)
          obtain ⟨rfl, hIx24_, hFx25_, px26_⟩ := px26_
          have hFx27_ : ai_fr (sx_W vw_417) S0_ Sx23_ := ai_fr_tr hF_ (fr_le hFx25_ rfl)
          have e135_ := px26_
          have f135_ := hFx25_
          refine sm_T_go 1 (c1 := (152, [some (.inr (.inr (some (13, 0)))), some (.inl (S0_.2.2.1 220 0 ((S0_.1 13 0 137) - 1).toNat)), some (.inl (S0_.2.2.1 218 0 (i_xor (S0_.2.2.1 220 0 ((S0_.1 13 0 137) - 1).toNat) 1).toNat)), none, none, none], [], Sx23_)) rfl ?_
          refine sm_T_rv rfl ⟨_, _, rfl, rfl, hIx24_, hFx27_, ?_⟩
          first
          | (have y8_ := e135_; have c9_ : S0_.2.2.1 211 0 (S0_.2.2.1 220 0 (S0_.1 13 0 137 - 1).toNat).toNat ≠ 0 := by omega
             exact wk_push hI_ hgs_ hjs_ hj_ (by omega) e135_ f135_ (Or.inr ⟨rfl, by omega, by omega, by (rw [qx2_]; exact t0_.2.2.1), by (rw [x1_]; exact (W8_.2 c9_).2)⟩) (by (unfold jrk jtos jtop; rw [if_neg (by decide), if_neg (by omega), qx2_, x1_, (W8_.2 c9_).1]; omega)) (by (unfold jdn jtos jtop; omega)) (by (unfold jdn; omega)))
          | (have y8_ := e148_; exact wk_g (by assumption) hgs_ hjs_ (by omega) (by omega) f148_ ⟨t0_.1, t0_.2.1⟩ (by omega) e148_)
    · have cx6_ : ¬ ((S0_.2.2.1 218 0 (S0_.2.2.1 220 0 ((S0_.1 13 0 137) - 1).toNat).toNat) = (-1)) := of_decide_eq_false cx6_
      refine sm_T_go 4 (c1 := (102, [some (.inr (.inr (some (13, 0)))), some (.inl (S0_.2.2.1 220 0 ((S0_.1 13 0 137) - 1).toNat)), none, none, none, none], [.inl 1, .inl (S0_.1 13 0 137), .inr (.inr (some (13, 0)))], S0_)) rfl ?_
      refine sm_T_bin (w := (S0_.1 13 0 137) - 1) rfl (bi_sub (by omega) (by omega) (by omega)) ?_ -- pc_ 102
      have hIx28_ : gi (sm_pI S0_ 13 0 137 ((S0_.1 13 0 137) - 1)) := gi_pI hI_ (show 0 ≤ (S0_.1 13 0 137) - 1 ∧ (S0_.1 13 0 137) - 1 ≤ 8191 from ⟨by omega, by omega⟩)
      have hFx29_ : ai_fr (sx_W vw_417) S0_ (sm_pI S0_ 13 0 137 ((S0_.1 13 0 137) - 1)) := ai_fr_tr hF_ (ai_fr_pI rfl)
      refine sm_T_go 1 (c1 := (106, [some (.inr (.inr (some (13, 0)))), some (.inl (S0_.2.2.1 220 0 ((S0_.1 13 0 137) - 1).toNat)), none, none, none, none], [], sm_pI S0_ 13 0 137 ((S0_.1 13 0 137) - 1))) rfl ?_
      refine sm_T_rv rfl ⟨_, _, rfl, rfl, hIx28_, hFx29_, ?_⟩
      exact wk_pop hI_ hgs_ hjs_ hj_ (by omega) (Or.inr ⟨by (show (S0_.2.2.1 221 0 (S0_.1 13 0 137 - 1).toNat) ≠ 1; omega), by (show S0_.2.2.1 218 0 (S0_.2.2.1 220 0 (S0_.1 13 0 137 - 1).toNat).toNat ≠ -1; omega)⟩)
  · have cx4_ : ¬ ((S0_.2.2.1 221 0 ((S0_.1 13 0 137) - 1).toNat) ≠ 1) := of_decide_eq_false cx4_
    have t1_ : 1 ≤ (S0_.2.2.1 220 0 (S0_.1 13 0 137 - 1).toNat) ∧ (S0_.2.2.1 220 0 (S0_.1 13 0 137 - 1).toNat) < N_ ∧ S0_.2.2.1 202 0 (S0_.2.2.1 220 0 (S0_.1 13 0 137 - 1).toNat).toNat = 1 ∧ ((S0_.2.2.1 220 0 (S0_.1 13 0 137 - 1).toNat) < F_ ∨ (S0_.2.2.1 203 0 (S0_.2.2.1 220 0 (S0_.1 13 0 137 - 1).toNat).toNat = 1 ∧ S0_.2.2.1 210 0 (2 * (S0_.2.2.1 220 0 (S0_.1 13 0 137 - 1).toNat)).toNat < 1000000000)) := by (rcases tg_ with y9_ | y9_; exact y9_.2; (exfalso; omega))
    have q2w : 2 * (S0_.2.2.1 220 0 (S0_.1 13 0 137 - 1).toNat) / 2 = (S0_.2.2.1 220 0 (S0_.1 13 0 137 - 1).toNat) := by omega
    refine sm_T_go 3 (c1 := (32, [some (.inr (.inr (some (13, 0)))), some (.inl (S0_.2.2.1 220 0 ((S0_.1 13 0 137) - 1).toNat)), none, none, none, none], [.inl (S0_.2.2.1 220 0 ((S0_.1 13 0 137) - 1).toNat), .inr (.inr (some (219, 0)))], S0_)) rfl ?_
    refine sm_T_iald (n := 2048) rfl rfl (by omega) (by omega) ?_
    have bx30_ : (-2) ≤ S0_.2.2.1 219 0 (S0_.2.2.1 220 0 ((S0_.1 13 0 137) - 1).toNat).toNat ∧ S0_.2.2.1 219 0 (S0_.2.2.1 220 0 ((S0_.1 13 0 137) - 1).toNat).toNat ≤ 9000 := hI_.2 219 0 _
    refine sm_T_go 1 (c1 := (34, [some (.inr (.inr (some (13, 0)))), some (.inl (S0_.2.2.1 220 0 ((S0_.1 13 0 137) - 1).toNat)), none, none, none, none], [.inl (-1), .inl (S0_.2.2.1 219 0 (S0_.2.2.1 220 0 ((S0_.1 13 0 137) - 1).toNat).toNat)], S0_)) rfl ?_
    refine sm_T_br (a := 0) (z := 16) rfl (fun cx31_ => ?_) (fun cx31_ => ?_)
    · have cx31_ : (S0_.2.2.1 219 0 (S0_.2.2.1 220 0 ((S0_.1 13 0 137) - 1).toNat).toNat) = (-1) := of_decide_eq_true cx31_
      refine sm_T_go 2 (c1 := (52, [some (.inr (.inr (some (13, 0)))), some (.inl (S0_.2.2.1 220 0 ((S0_.1 13 0 137) - 1).toNat)), none, none, none, none], [.inl (S0_.2.2.1 220 0 ((S0_.1 13 0 137) - 1).toNat), .inr (.inr (some (13, 0)))], S0_)) rfl ?_
      refine sm_T_cal (d1 := 0) (Q1 := vq_414 (S0_.2.2.1 220 0 ((S0_.1 13 0 137) - 1).toNat) F_ S0_) rfl rfl (by decide) (vc_414 (S0_.2.2.1 220 0 ((S0_.1 13 0 137) - 1).toNat) F_ S0_ hI_ (by exact f160_) (by omega)) (fun u_ Sx32_ px35_ => ?_)
      obtain ⟨rfl, vx37_, rfl, px35_⟩ := px35_
      have e52_ := px35_
      refine sm_T_go 1 (c1 := (56, [some (.inr (.inr (some (13, 0)))), some (.inl (S0_.2.2.1 220 0 ((S0_.1 13 0 137) - 1).toNat)), none, none, none, none], [.inl (-1), .inl vx37_], S0_)) rfl ?_
      refine sm_T_br (a := 1) (z := 14) rfl (fun cx38_ => ?_) (fun cx38_ => ?_)
      · have cx38_ : vx37_ ≠ (-1) := of_decide_eq_true cx38_
        refine sm_T_go 6 (c1 := (78, [some (.inr (.inr (some (13, 0)))), some (.inl (S0_.2.2.1 220 0 ((S0_.1 13 0 137) - 1).toNat)), none, none, none, none], [.inl (S0_.2.2.1 220 0 ((S0_.1 13 0 137) - 1).toNat), .inr (.inr (some (13, 0))), .inr (.inr (some (13, 0))), .inl (S0_.2.2.1 220 0 ((S0_.1 13 0 137) - 1).toNat), .inr (.inr (some (219, 0)))], S0_)) rfl ?_
        refine sm_T_cal (d1 := 0) (Q1 := vq_414 (S0_.2.2.1 220 0 ((S0_.1 13 0 137) - 1).toNat) F_ S0_) rfl rfl (by decide) (vc_414 (S0_.2.2.1 220 0 ((S0_.1 13 0 137) - 1).toNat) F_ S0_ hI_ (by exact f160_) (by omega)) (fun u_ Sx39_ px42_ => ?_)
        obtain ⟨rfl, vx44_, rfl, px42_⟩ := px42_
        have e78_ := px42_
        have n78_ := lnf_b hgs_ (x_ := (S0_.2.2.1 220 0 (S0_.1 13 0 137 - 1).toNat)) (by omega)
        rw [← e78_.1] at n78_
        have n79_ : 0 ≤ vx44_ ∧ vx44_ < F_ - 1 + S0_.1 13 0 129 := by (rcases n78_ with y9_ | y9_; (exfalso; have z9_ := e52_.1.trans e78_.1.symm; omega); exact y9_)
        refine sm_T_cal (d1 := 2) (Q1 := vq_411 vx44_ F_ N_ d_ S0_) rfl rfl (by decide) (vc_411 vx44_ F_ N_ d_ S0_ hI_ (by exact hd_) (by omega) (by exact n79_) (by exact hiv_) (by exact hgs_.2.2.2)) (fun u_ Sx45_ px48_ => ?_)
        obtain ⟨vx50_, rfl, hIx46_, hFx47_, px48_⟩ := px48_
        have hFx49_ : ai_fr (sx_W vw_417) S0_ Sx45_ := ai_fr_tr hF_ (fr_le hFx47_ rfl)
        have ex51_ : Sx45_.1 13 0 137 = S0_.1 13 0 137 := hFx47_.1 13 0 137 rfl
        have e81_ := px48_
        have f81_ := hFx47_
        refine sm_T_iast (n := 2048) rfl rfl (by omega) (by omega) ?_
        have hIx52_ : gi (sm_aI Sx45_ 219 0 (S0_.2.2.1 220 0 ((S0_.1 13 0 137) - 1).toNat).toNat vx50_) := gi_aI hIx46_ (show (-2) ≤ vx50_ ∧ vx50_ ≤ 9000 from ⟨by omega, by omega⟩)
        have hFx53_ : ai_fr (sx_W vw_417) S0_ (sm_aI Sx45_ 219 0 (S0_.2.2.1 220 0 ((S0_.1 13 0 137) - 1).toNat).toNat vx50_) := ai_fr_tr hFx49_ (ai_fr_aI rfl)
        refine sm_T_rv rfl ⟨_, _, rfl, rfl, hIx52_, hFx53_, ?_⟩
        first
        | (have y8_ := e64_; have z9_ := e52_.1; unfold lnf at z9_; have F9_ : ¬ ((S0_.2.2.1 220 0 (S0_.1 13 0 137 - 1).toNat) < F_) := fun F9_ => by (rw [if_pos F9_] at z9_; omega)
           rw [if_neg F9_] at z9_; have c9_ : S0_.2.2.1 211 0 (2 * (S0_.2.2.1 220 0 (S0_.1 13 0 137 - 1).toNat)).toNat ≤ 1 := (hI_.2 211 0 _).2
           exact wk_push hI_ hgs_ hjs_ hj_ (by omega) e64_ f64_ (Or.inr ⟨rfl, by omega, by omega, by (rw [q2w]; exact t1_.2.2.1), by omega⟩) (by (unfold jrk jtos jtop; rw [if_neg (by decide), if_pos (by omega), q2w]; omega)) (by (unfold jdn jtos jtop; omega)) (by (unfold jdn; omega)))
        | (have y8_ := e81_; exact wk_t (by assumption) hgs_ hjs_ (by omega) (by omega) f81_ ⟨t1_.1, t1_.2.1⟩ (by omega) e81_)
        | exact wk_pop hI_ hgs_ hjs_ hj_ (by omega) (Or.inl ⟨by (show (S0_.2.2.1 221 0 (S0_.1 13 0 137 - 1).toNat) = 1; omega), by (show S0_.2.2.1 219 0 (S0_.2.2.1 220 0 (S0_.1 13 0 137 - 1).toNat).toNat ≠ -1; omega)⟩)
      · have cx38_ : ¬ (vx37_ ≠ (-1)) := of_decide_eq_false cx38_
        refine sm_T_go 4 (c1 := (63, [some (.inr (.inr (some (13, 0)))), some (.inl (S0_.2.2.1 220 0 ((S0_.1 13 0 137) - 1).toNat)), none, none, none, none], [.inl (S0_.2.2.1 220 0 ((S0_.1 13 0 137) - 1).toNat), .inl 2, .inl 0, .inr (.inr (some (13, 0)))], S0_)) rfl ?_
        refine sm_T_bin (w := 2 * (S0_.2.2.1 220 0 ((S0_.1 13 0 137) - 1).toNat)) rfl (bi_mul (by omega) (by omega) (by omega)) ?_ -- pc_ 63
        refine sm_T_cal (d1 := 0) (Q1 := vq_412 0 (2 * (S0_.2.2.1 220 0 ((S0_.1 13 0 137) - 1).toNat)) S0_) rfl rfl (by decide) (vc_412 0 (2 * (S0_.2.2.1 220 0 ((S0_.1 13 0 137) - 1).toNat)) S0_ hI_ (by omega) (by omega)) (fun u_ Sx54_ px57_ => ?_)
        obtain ⟨rfl, hIx55_, hFx56_, px57_⟩ := px57_
        have hFx58_ : ai_fr (sx_W vw_417) S0_ Sx54_ := ai_fr_tr hF_ (fr_le hFx56_ rfl)
        have e64_ := px57_
        have f64_ := hFx56_
        refine sm_T_go 1 (c1 := (85, [some (.inr (.inr (some (13, 0)))), some (.inl (S0_.2.2.1 220 0 ((S0_.1 13 0 137) - 1).toNat)), none, none, none, none], [], Sx54_)) rfl ?_
        refine sm_T_rv rfl ⟨_, _, rfl, rfl, hIx55_, hFx58_, ?_⟩
        first
        | (have y8_ := e64_; have z9_ := e52_.1; unfold lnf at z9_; have F9_ : ¬ ((S0_.2.2.1 220 0 (S0_.1 13 0 137 - 1).toNat) < F_) := fun F9_ => by (rw [if_pos F9_] at z9_; omega)
           rw [if_neg F9_] at z9_; have c9_ : S0_.2.2.1 211 0 (2 * (S0_.2.2.1 220 0 (S0_.1 13 0 137 - 1).toNat)).toNat ≤ 1 := (hI_.2 211 0 _).2
           exact wk_push hI_ hgs_ hjs_ hj_ (by omega) e64_ f64_ (Or.inr ⟨rfl, by omega, by omega, by (rw [q2w]; exact t1_.2.2.1), by omega⟩) (by (unfold jrk jtos jtop; rw [if_neg (by decide), if_pos (by omega), q2w]; omega)) (by (unfold jdn jtos jtop; omega)) (by (unfold jdn; omega)))
        | (have y8_ := e81_; exact wk_t (by assumption) hgs_ hjs_ (by omega) (by omega) f81_ ⟨t1_.1, t1_.2.1⟩ (by omega) e81_)
        | exact wk_pop hI_ hgs_ hjs_ hj_ (by omega) (Or.inl ⟨by (show (S0_.2.2.1 221 0 (S0_.1 13 0 137 - 1).toNat) = 1; omega), by (show S0_.2.2.1 219 0 (S0_.2.2.1 220 0 (S0_.1 13 0 137 - 1).toNat).toNat ≠ -1; omega)⟩)
    · have cx31_ : ¬ ((S0_.2.2.1 219 0 (S0_.2.2.1 220 0 ((S0_.1 13 0 137) - 1).toNat).toNat) = (-1)) := of_decide_eq_false cx31_
      refine sm_T_go 4 (c1 := (43, [some (.inr (.inr (some (13, 0)))), some (.inl (S0_.2.2.1 220 0 ((S0_.1 13 0 137) - 1).toNat)), none, none, none, none], [.inl 1, .inl (S0_.1 13 0 137), .inr (.inr (some (13, 0)))], S0_)) rfl ?_
      refine sm_T_bin (w := (S0_.1 13 0 137) - 1) rfl (bi_sub (by omega) (by omega) (by omega)) ?_ -- pc_ 43
      have hIx59_ : gi (sm_pI S0_ 13 0 137 ((S0_.1 13 0 137) - 1)) := gi_pI hI_ (show 0 ≤ (S0_.1 13 0 137) - 1 ∧ (S0_.1 13 0 137) - 1 ≤ 8191 from ⟨by omega, by omega⟩)
      have hFx60_ : ai_fr (sx_W vw_417) S0_ (sm_pI S0_ 13 0 137 ((S0_.1 13 0 137) - 1)) := ai_fr_tr hF_ (ai_fr_pI rfl)
      refine sm_T_go 2 (c1 := (85, [some (.inr (.inr (some (13, 0)))), some (.inl (S0_.2.2.1 220 0 ((S0_.1 13 0 137) - 1).toNat)), none, none, none, none], [], sm_pI S0_ 13 0 137 ((S0_.1 13 0 137) - 1))) rfl ?_
      refine sm_T_rv rfl ⟨_, _, rfl, rfl, hIx59_, hFx60_, ?_⟩
      first
      | (have y8_ := e64_; have z9_ := e52_.1; unfold lnf at z9_; have F9_ : ¬ ((S0_.2.2.1 220 0 (S0_.1 13 0 137 - 1).toNat) < F_) := fun F9_ => by (rw [if_pos F9_] at z9_; omega)
         rw [if_neg F9_] at z9_; have c9_ : S0_.2.2.1 211 0 (2 * (S0_.2.2.1 220 0 (S0_.1 13 0 137 - 1).toNat)).toNat ≤ 1 := (hI_.2 211 0 _).2
         exact wk_push hI_ hgs_ hjs_ hj_ (by omega) e64_ f64_ (Or.inr ⟨rfl, by omega, by omega, by (rw [q2w]; exact t1_.2.2.1), by omega⟩) (by (unfold jrk jtos jtop; rw [if_neg (by decide), if_pos (by omega), q2w]; omega)) (by (unfold jdn jtos jtop; omega)) (by (unfold jdn; omega)))
      | (have y8_ := e81_; exact wk_t (by assumption) hgs_ hjs_ (by omega) (by omega) f81_ ⟨t1_.1, t1_.2.1⟩ (by omega) e81_)
      | exact wk_pop hI_ hgs_ hjs_ hj_ (by omega) (Or.inl ⟨by (show (S0_.2.2.1 221 0 (S0_.1 13 0 137 - 1).toNat) = 1; omega), by (show S0_.2.2.1 219 0 (S0_.2.2.1 220 0 (S0_.1 13 0 137 - 1).toNat).toNat ≠ -1; omega)⟩)

theorem wal9_cg {F_ N_ : Int} {S_ S'_ : sm_S} (h_ : wal9 F_ N_ S_) (e2_ : S'_.2.2.1 202 0 = S_.2.2.1 202 0) (e3_ : S'_.2.2.1 203 0 = S_.2.2.1 203 0) (e5_ : S'_.2.2.1 185 0 = S_.2.2.1 185 0) (e6_ : S'_.2.2.1 206 0 = S_.2.2.1 206 0) (e7_ : S'_.2.2.1 207 0 = S_.2.2.1 207 0) (e8_ : S'_.2.2.1 208 0 = S_.2.2.1 208 0) (e9_ : S'_.2.2.1 209 0 = S_.2.2.1 209 0) (e10 : S'_.2.2.1 210 0 = S_.2.2.1 210 0) (e11 : S'_.2.2.1 211 0 = S_.2.2.1 211 0) (e106_ : S'_.1 13 0 106 = S_.1 13 0 106) (e108_ : S'_.1 13 0 108 = S_.1 13 0 108) : wal9 F_ N_ S'_ := by
  unfold wal9 wok2 wyc ned inp cst at *
  rw [e2_, e3_, e5_, e6_, e7_, e8_, e9_, e10, e11, e106_, e108_]
  exact h_
theorem gdr_cg {F_ N_ : Int} {S_ S'_ : sm_S} (h_ : gdr F_ N_ S_) (e2_ : S'_.2.2.1 202 0 = S_.2.2.1 202 0) (e3_ : S'_.2.2.1 203 0 = S_.2.2.1 203 0) (e10 : S'_.2.2.1 210 0 = S_.2.2.1 210 0) : gdr F_ N_ S'_ := by
  unfold gdr at *
  rw [e2_, e3_, e10]
  exact h_
theorem jsk_0 {F_ N_ : Int} {S_ : sm_S} (h_ : S_.1 13 0 137 = 0) : jsk F_ N_ S_ := fun i_ a_ b_ => by omega
theorem jsk_1 {F_ N_ x_ t_ : Int} {S_ S'_ : sm_S} (hI_ : gi S_) (hF_ : 1 ≤ F_) (hx_ : 1 ≤ x_ ∧ x_ < N_ ∧ N_ ≤ 1013) (ht_ : 0 ≤ t_ ∧ t_ ≤ 1) (h_ : S_.1 13 0 137 = 0) (hd_ : gdr F_ N_ S_) (m_ : mrk F_ S_ x_) (n_ : noi F_ S_ x_ t_ = -1) (e_ : ((x_ < F_ ∨ S_.2.2.1 203 0 x_.toNat = 1) ∧ t_ = 1 ∧ jap 1 x_ S_ S'_) ∨ (((F_ ≤ x_ ∧ S_.2.2.1 203 0 x_.toNat = 0) ∨ t_ = 0) ∧ jap 0 (2 * x_ + t_) S_ S'_)) (e2_ : S'_.2.2.1 202 0 = S_.2.2.1 202 0) (e3_ : S'_.2.2.1 203 0 = S_.2.2.1 203 0) (e10 : S'_.2.2.1 210 0 = S_.2.2.1 210 0) (e11 : S'_.2.2.1 211 0 = S_.2.2.1 211 0) : jsk F_ N_ S'_ := by
  have k_ : x_ < F_ ∨ (S_.2.2.1 203 0 x_.toNat = 1 ∧ S_.2.2.1 210 0 (2 * x_).toNat < 1000000000) := by
    by_cases c_ : x_ < F_
    · exact Or.inl c_
    · have y_ : S_.2.2.1 203 0 x_.toNat = 1 := by
        rcases m_.2 with z_ | z_
        · exact absurd z_ c_
        · exact z_
      exact Or.inr ⟨y_, hd_ x_ (by omega) hx_.2.1 m_.1 y_⟩
  rcases e_ with e_ | e_
  · exact jsk_ap (jsk_0 h_) e_.2.2 (by omega) (Or.inl ⟨rfl, hx_.1, hx_.2.1, m_.1, k_⟩) (by unfold jrk; rw [if_pos rfl]; omega) e2_ e3_ e10 e11
  · have t0_ : t_ = 0 := by
      rcases e_.1 with z_ | z_
      · rcases k_ with k_ | k_
        · exfalso; omega
        · exfalso; omega
      · exact z_
    have g_ : F_ ≤ x_ := by
      by_cases c_ : F_ ≤ x_
      · exact c_
      · exfalso
        unfold noi at n_
        rw [if_neg (by omega), if_pos t0_] at n_
        unfold lnf at n_
        rw [if_pos (by omega)] at n_
        omega
    have a_ := e_.2
    rw [t0_, Int.add_zero] at a_
    have q_ : 2 * x_ / 2 = x_ := by omega
    have c9_ : S_.2.2.1 211 0 (2 * x_).toNat ≤ 1 := (hI_.2 211 0 _).2
    exact jsk_ap (jsk_0 h_) a_ (by omega) (Or.inr ⟨rfl, by omega, by omega, by rw [q_]; exact m_.1, by omega⟩) (by unfold jrk; rw [if_neg (by decide), q_]; omega) e2_ e3_ e10 e11
/-! M_.netOfRoot -/
def vw_418 : sx_Wl := ([(13, 129), (13, 134), (13, 137)], [216, 217, 218, 219, 220, 221], [])
def vq_418 (l_ : Int) (F_ : Int) (N_ : Int) (d_ : Int) (S0_ : sm_S) (u_ : Option sm_V) (S1_ : sm_S) : Prop := ∃ v_ : Int, u_ = some (.inl v_) ∧ gi S1_ ∧ ai_fr (sx_W vw_418) S0_ S1_ ∧ (gst F_ N_ S1_ ∧ S0_.1 13 0 129 ≤ S1_.1 13 0 129 ∧ (v_ = -1 ∨ v_ = -2 ∨ (0 ≤ v_ ∧ v_ < F_ - 1 + S1_.1 13 0 129)))
set_option maxHeartbeats 2000000 in
set_option maxRecDepth 20000 in
theorem vl_418 {sc_ : Nat × (Nat → Int)} (l_ : Int) (F_ : Int) (N_ : Int) (d_ : Int) (S0_ : sm_S) (hd_ : dmp F_ N_ d_ S0_) (hal_ : wal9 F_ N_ S0_) (hgd_ : gdr F_ N_ S0_) (hiv_ : (S0_.1 13 0 107) = -1 ∨ S0_.2.2.1 185 0 (12 * S0_.1 13 0 106 + S0_.1 13 0 107).toNat = 1) (hgs_ : gst F_ N_ S0_) (hl_ : 0 ≤ l_ ∧ l_ < 2 * N_) (hm_ : mrk F_ S0_ (nod d_ S0_ l_)) : ∀ nn_ : Nat, (∀ (q_ : Int) (S_ : sm_S), gi S_ → ai_fr (sx_W vw_418) S0_ S_ → ((q_ / 2 = nod d_ S0_ l_ ∧ 2 ≤ q_ ∧ q_ ≤ 2025) ∧ (gst F_ N_ S_) ∧ (jsk F_ N_ S_) ∧ (S0_.1 13 0 129 ≤ S_.1 13 0 129) ∧ True) → (mea_ N_ S_) < nn_ → sm_T (mt_P sc_) 4 418 (44, [some (.inr (.inr (some (13, 0)))), some (.inl l_), some (.inl q_)], [], S_) (fun ro9_ => ∃ u_ S1_, ro9_ = (.inl u_, S1_, 0) ∧ vq_418 l_ F_ N_ d_ S0_ u_ S1_)) := by
  intro nn_
  induction nn_ with
  | zero => exact fun _ _ _ _ _ h_ => absurd h_ (Nat.not_lt_zero _)
  | succ nn_ ih_ =>
    rintro q_ S_ hI_ hF_ ⟨h0_, hg9_, hj9_, hm9_, -⟩ hm_
    have d9_ := dmp_fr hd_ hF_
    have d1_ := d9_.1
    have f160_ : S_.2.2.1 160 0 (S_.1 13 0 105).toNat = F_ := by (rw [d1_.2.2.1]; exact d1_.2.2.2.1)
    have nb := nod_b hd_ hl_.1 hl_.2
    have cj_ : 0 ≤ S_.1 13 0 137 := (hI_.1 13 0 137 rfl).1
    have bx1_ : 0 ≤ S_.1 13 0 137 ∧ S_.1 13 0 137 ≤ 8191 := hI_.1 13 0 137 rfl
    refine sm_T_go 2 (c1 := (48, [some (.inr (.inr (some (13, 0)))), some (.inl l_), some (.inl q_)], [.inl (S_.1 13 0 137)], S_)) rfl ?_
    refine sm_T_b0 (a := 5) (z := 10) rfl (fun cx2_ => ?_) (fun cx2_ => ?_)
    · have cx2_ : (S_.1 13 0 137) ≤ 0 := of_decide_eq_true cx2_
      refine sm_T_go 3 (c1 := (61, [some (.inr (.inr (some (13, 0)))), some (.inl l_), some (.inl q_)], [.inl 1, .inl q_, .inr (.inr (some (13, 0)))], S_)) rfl ?_
      refine sm_T_bin (w := (q_ / 2)) rfl (bi_shr (k := 1) (by decide) (by omega) (by omega)) ?_ -- pc_ 61
      refine sm_T_go 2 (c1 := (64, [some (.inr (.inr (some (13, 0)))), some (.inl l_), some (.inl q_)], [.inl 1, .inl q_, .inl (q_ / 2), .inr (.inr (some (13, 0)))], S_)) rfl ?_
      refine sm_T_bin (w := (q_ % 2)) rfl (bi_msk (k := 1) (by decide)) ?_ -- pc_ 64
      refine sm_T_cal (d1 := 2) (Q1 := vq_415 (q_ / 2) (q_ % 2) F_ S_) rfl rfl (by decide) (vc_415 (q_ / 2) (q_ % 2) F_ S_ hI_ (by exact f160_) (by omega)) (fun u_ Sx3_ px6_ => ?_)
      obtain ⟨rfl, vx8_, rfl, px6_⟩ := px6_
      have e65_ := px6_
      refine sm_T_ri rfl ⟨_, _, rfl, _, rfl, hI_, hF_, ?_⟩
      have b9_ := noi_b hg9_ (x_ := q_ / 2) (t_ := q_ % 2) (by omega) (by omega)
      rw [← e65_.1] at b9_
      exact ⟨hg9_, hm9_, by (rcases b9_ with b9_ | b9_; exact Or.inl b9_; exact Or.inr (Or.inr b9_))⟩
    · have cx2_ : ¬ ((S_.1 13 0 137) ≤ 0) := of_decide_eq_false cx2_
      refine sm_T_go 1 (c1 := (52, [some (.inr (.inr (some (13, 0)))), some (.inl l_), some (.inl q_)], [.inr (.inr (some (13, 0)))], S_)) rfl ?_
      refine sm_T_cal (d1 := 3) (Q1 := vq_417 F_ N_ d_ S_) rfl rfl (by decide) (vc_417 F_ N_ d_ S_ hI_ (by exact d9_) (by exact wal9_cg hal_ (fr_arr hF_ rfl) (fr_arr hF_ rfl) (fr_arr hF_ rfl) (fr_arr hF_ rfl) (fr_arr hF_ rfl) (fr_arr hF_ rfl) (fr_arr hF_ rfl) (fr_arr hF_ rfl) (fr_arr hF_ rfl) (hF_.1 13 0 106 rfl) (hF_.1 13 0 108 rfl)) (by exact gdr_cg hgd_ (fr_arr hF_ rfl) (fr_arr hF_ rfl) (fr_arr hF_ rfl)) (by (rw [hF_.1 13 0 107 rfl, hF_.1 13 0 106 rfl, fr_arr hF_ (t := 185) rfl]; exact hiv_)) (by exact hg9_) (by exact hj9_) (by omega)) (fun u_ Sx9_ px12_ => ?_)
      obtain ⟨rfl, hIx10_, hFx11_, px12_⟩ := px12_
      have hFx13_ : ai_fr (sx_W vw_418) S0_ Sx9_ := ai_fr_tr hF_ (fr_le hFx11_ rfl)
      have e52_ := px12_
      refine sm_T_go 1 (c1 := (44, [some (.inr (.inr (some (13, 0)))), some (.inl l_), some (.inl q_)], [], Sx9_)) rfl ?_
      refine ih_ q_ Sx9_ hIx10_ hFx13_ ⟨?_, ?_, ?_, ?_, trivial⟩ ?_
      · exact h0_
      · exact e52_.1
      · exact e52_.2.1
      · omega
      · (have y9_ := e52_.2.2.1; omega)
set_option maxHeartbeats 2000000 in
set_option maxRecDepth 20000 in
theorem vc_418 {sc_ : Nat × (Nat → Int)} (l_ : Int) (F_ : Int) (N_ : Int) (d_ : Int) (S0_ : sm_S) (hI_ : gi S0_) (hd_ : dmp F_ N_ d_ S0_) (hal_ : wal9 F_ N_ S0_) (hgd_ : gdr F_ N_ S0_) (hiv_ : (S0_.1 13 0 107) = -1 ∨ S0_.2.2.1 185 0 (12 * S0_.1 13 0 106 + S0_.1 13 0 107).toNat = 1) (hgs_ : gst F_ N_ S0_) (hl_ : 0 ≤ l_ ∧ l_ < 2 * N_) (hm_ : mrk F_ S0_ (nod d_ S0_ l_)) : sm_T (mt_P sc_) 4 418 (0, [some (.inr (.inr (some (13, 0)))), some (.inl l_), none], [], S0_) (fun ro9_ => ∃ u_ S1_, ro9_ = (.inl u_, S1_, 0) ∧ vq_418 l_ F_ N_ d_ S0_ u_ S1_) := by
  have hF_ : ai_fr (sx_W vw_418) S0_ S0_ := ai_fr_rf
  have d1_ := hd_.1
  have f160_ : S0_.2.2.1 160 0 (S0_.1 13 0 105).toNat = F_ := by (rw [d1_.2.2.1]; exact d1_.2.2.2.1)
  have nb := nod_b hd_ hl_.1 hl_.2
  refine sm_T_go 2 (c1 := (2, [some (.inr (.inr (some (13, 0)))), some (.inl l_), none], [.inl l_, .inr (.inr (some (13, 0)))], S0_)) rfl ?_
  refine sm_T_cal (d1 := 0) (Q1 := vq_392 l_ F_ N_ d_ S0_) rfl rfl (by decide) (vc_392 l_ F_ N_ d_ S0_ hI_ (by exact hd_) (by exact hl_)) (fun u_ Sx1_ px4_ => ?_)
  obtain ⟨rfl, vx6_, rfl, px4_⟩ := px4_
  have e2_ := px4_
  refine sm_T_go 3 (c1 := (8, [some (.inr (.inr (some (13, 0)))), some (.inl l_), some (.inl vx6_)], [.inl 2, .inl vx6_], S0_)) rfl ?_
  refine sm_T_br (a := 3) (z := 7) rfl (fun cx7_ => ?_) (fun cx7_ => ?_)
  · have cx7_ : 2 ≤ vx6_ := of_decide_eq_true cx7_
    have hIx8_ : gi (sm_pI S0_ 13 0 137 0) := gi_pI hI_ (show 0 ≤ 0 ∧ 0 ≤ 8191 from ⟨by omega, by omega⟩)
    have hFx9_ : ai_fr (sx_W vw_418) S0_ (sm_pI S0_ 13 0 137 0) := ai_fr_tr hF_ (ai_fr_pI rfl)
    refine sm_T_go 6 (c1 := (23, [some (.inr (.inr (some (13, 0)))), some (.inl l_), some (.inl vx6_)], [.inl 1, .inl vx6_, .inr (.inr (some (13, 0)))], sm_pI S0_ 13 0 137 0)) rfl ?_
    refine sm_T_bin (w := (vx6_ / 2)) rfl (bi_shr (k := 1) (by decide) (by omega) (by omega)) ?_ -- pc_ 23
    refine sm_T_go 2 (c1 := (26, [some (.inr (.inr (some (13, 0)))), some (.inl l_), some (.inl vx6_)], [.inl 1, .inl vx6_, .inl (vx6_ / 2), .inr (.inr (some (13, 0)))], sm_pI S0_ 13 0 137 0)) rfl ?_
    refine sm_T_bin (w := (vx6_ % 2)) rfl (bi_msk (k := 1) (by decide)) ?_ -- pc_ 26
    refine sm_T_cal (d1 := 2) (Q1 := vq_415 (vx6_ / 2) (vx6_ % 2) F_ (sm_pI S0_ 13 0 137 0)) rfl rfl (by decide) (vc_415 (vx6_ / 2) (vx6_ % 2) F_ (sm_pI S0_ 13 0 137 0) hIx8_ (by exact f160_) (by omega)) (fun u_ Sx10_ px13_ => ?_)
    obtain ⟨rfl, vx15_, rfl, px13_⟩ := px13_
    have e27_ := px13_
    refine sm_T_go 1 (c1 := (31, [some (.inr (.inr (some (13, 0)))), some (.inl l_), some (.inl vx6_)], [.inl (-1), .inl vx15_], sm_pI S0_ 13 0 137 0)) rfl ?_
    refine sm_T_br (a := 1) (z := 13) rfl (fun cx16_ => ?_) (fun cx16_ => ?_)
    · have cx16_ : vx15_ ≠ (-1) := of_decide_eq_true cx16_
      refine sm_T_go 0 (c1 := (44, [some (.inr (.inr (some (13, 0)))), some (.inl l_), some (.inl vx6_)], [], sm_pI S0_ 13 0 137 0)) rfl ?_
      refine (vl_418 l_ F_ N_ d_ S0_ hd_ hal_ hgd_ hiv_ hgs_ hl_ hm_ _) vx6_ (sm_pI S0_ 13 0 137 0) hIx8_ hFx9_ ⟨?_, ?_, ?_, ?_, trivial⟩ (Nat.lt_succ_self _)
      · omega
      · have G9_ : gst F_ N_ (sm_pI S0_ 13 0 137 0) := gst_cg hgs_ (rf_nk (by decide)) rfl rfl rfl rfl rfl (rf_nk (by decide)) (rf_nk (by decide))
        first | (have y8_ := f41_; exact gst_cg G9_ (f41_.1 13 0 129 rfl) (fr_arr f41_ rfl) (fr_arr f41_ rfl) (fr_arr f41_ rfl) (fr_arr f41_ rfl) (fr_arr f41_ rfl) (f41_.1 13 0 106 rfl) (f41_.1 13 0 134 rfl)) | exact G9_
      · have M9_ : mrk F_ (sm_pI S0_ 13 0 137 0) (nod d_ S0_ l_) := hm_
        rw [← e2_.1] at M9_
        first | (have y8_ := e41_; exact jsk_1 (S_ := sm_pI S0_ 13 0 137 0) (by assumption) (by omega) (by omega) (by omega) rf_eq (gdr_cg hgd_ rfl rfl rfl) M9_ (by (rw [← e27_.1]; omega)) e41_ (fr_arr f41_ rfl) (fr_arr f41_ rfl) (fr_arr f41_ rfl) (fr_arr f41_ rfl)) | exact jsk_0 rf_eq
      · have r9_ : (sm_pI S0_ 13 0 137 0).1 13 0 129 = S0_.1 13 0 129 := rf_nk (by decide)
        first | (have y8_ := f41_.1 13 0 129 rfl; omega) | omega
    · have cx16_ : ¬ (vx15_ ≠ (-1)) := of_decide_eq_false cx16_
      refine sm_T_go 3 (c1 := (37, [some (.inr (.inr (some (13, 0)))), some (.inl l_), some (.inl vx6_)], [.inl 1, .inl vx6_, .inr (.inr (some (13, 0)))], sm_pI S0_ 13 0 137 0)) rfl ?_
      refine sm_T_bin (w := (vx6_ / 2)) rfl (bi_shr (k := 1) (by decide) (by omega) (by omega)) ?_ -- pc_ 37
      refine sm_T_go 2 (c1 := (40, [some (.inr (.inr (some (13, 0)))), some (.inl l_), some (.inl vx6_)], [.inl 1, .inl vx6_, .inl (vx6_ / 2), .inr (.inr (some (13, 0)))], sm_pI S0_ 13 0 137 0)) rfl ?_
      refine sm_T_bin (w := (vx6_ % 2)) rfl (bi_msk (k := 1) (by decide)) ?_ -- pc_ 40
      refine sm_T_cal (d1 := 2) (Q1 := vq_416 (vx6_ / 2) (vx6_ % 2) F_ (sm_pI S0_ 13 0 137 0)) rfl rfl (by decide) (vc_416 (vx6_ / 2) (vx6_ % 2) F_ (sm_pI S0_ 13 0 137 0) hIx8_ (by exact f160_) (by omega) (by ((try simp only [rd_eq, rd_ne, rf_eq, rf_nk, rf_nt, rd_fa, rd_af, rd_fl, rd_al, rd_lf, rd_la, rd_leq, rd_lne, rd_fr, rd_ar, ne_eq, Nat.reduceEqDiff, not_false_eq_true]); omega))) (fun u_ Sx17_ px20_ => ?_)
      obtain ⟨rfl, hIx18_, hFx19_, px20_⟩ := px20_
      have hFx21_ : ai_fr (sx_W vw_418) S0_ Sx17_ := ai_fr_tr hFx9_ (fr_le hFx19_ rfl)
      have e41_ := px20_
      have f41_ := hFx19_
      refine sm_T_go 0 (c1 := (44, [some (.inr (.inr (some (13, 0)))), some (.inl l_), some (.inl vx6_)], [], Sx17_)) rfl ?_
      refine (vl_418 l_ F_ N_ d_ S0_ hd_ hal_ hgd_ hiv_ hgs_ hl_ hm_ _) vx6_ Sx17_ hIx18_ hFx21_ ⟨?_, ?_, ?_, ?_, trivial⟩ (Nat.lt_succ_self _)
      · omega
      · have G9_ : gst F_ N_ (sm_pI S0_ 13 0 137 0) := gst_cg hgs_ (rf_nk (by decide)) rfl rfl rfl rfl rfl (rf_nk (by decide)) (rf_nk (by decide))
        first | (have y8_ := f41_; exact gst_cg G9_ (f41_.1 13 0 129 rfl) (fr_arr f41_ rfl) (fr_arr f41_ rfl) (fr_arr f41_ rfl) (fr_arr f41_ rfl) (fr_arr f41_ rfl) (f41_.1 13 0 106 rfl) (f41_.1 13 0 134 rfl)) | exact G9_
      · have M9_ : mrk F_ (sm_pI S0_ 13 0 137 0) (nod d_ S0_ l_) := hm_
        rw [← e2_.1] at M9_
        first | (have y8_ := e41_; exact jsk_1 (S_ := sm_pI S0_ 13 0 137 0) (by assumption) (by omega) (by omega) (by omega) rf_eq (gdr_cg hgd_ rfl rfl rfl) M9_ (by (rw [← e27_.1]; omega)) e41_ (fr_arr f41_ rfl) (fr_arr f41_ rfl) (fr_arr f41_ rfl) (fr_arr f41_ rfl)) | exact jsk_0 rf_eq
      · have r9_ : (sm_pI S0_ 13 0 137 0).1 13 0 129 = S0_.1 13 0 129 := rf_nk (by decide)
        first | (have y8_ := f41_.1 13 0 129 rfl; omega) | omega
  · have cx7_ : ¬ (2 ≤ vx6_) := of_decide_eq_false cx7_
    refine sm_T_go 2 (c1 := (13, [some (.inr (.inr (some (13, 0)))), some (.inl l_), some (.inl vx6_)], [.inl vx6_, .inl (-1)], S0_)) rfl ?_
    refine sm_T_bin (w := -vx6_ - 1) rfl (bi_sub (by omega) (by omega) (by omega)) ?_ -- pc_ 13
    refine sm_T_ri rfl ⟨_, _, rfl, _, rfl, hI_, hF_, ?_⟩
    exact ⟨hgs_, by omega, by omega⟩
end
