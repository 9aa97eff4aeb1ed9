/-! the reference: ways; written by wip/p55/gen/vg -/

/-! the_ reference: ways of_ making a_ literal -/
theorem l_0_s {x_ y_ : Int} (hx_ : -1000000000000 ≤ x_ ∧ x_ ≤ 1000000000000) (hy_ : -2147483648 ≤ y_ ∧ y_ ≤ 2147483647) : l_0 x_ (l_i2l y_) = x_ + y_ := by
  rw [l_i2l_s hy_.1 hy_.2]
  unfold l_0
  rw [Int64.toInt_add, Int64.toInt_ofInt_of_le (by omega) (by omega), Int64.toInt_ofInt_of_le (by omega) (by omega)]
  exact Int.bmod_eq_of_le (by omega) (by omega)
theorem l2i_s {x_ : Int} (h_ : -2147483648 ≤ x_ ∧ x_ ≤ 2147483647) : l_l2i x_ = x_ := by
  unfold l_l2i
  rw [Int64.toInt_toInt32, Int64.toInt_ofInt_of_le (by omega) (by omega)]
  exact Int.bmod_eq_of_le (by omega) (by omega)
theorem lcmp_lt {x_ y_ : Int} : sm_lcmp x_ y_ < 0 ↔ x_ < y_ := by
  unfold sm_lcmp
  split
  · rename_i h_
    exact ⟨fun z_ => absurd z_ (by decide), fun z_ => by omega⟩
  · split
    · rename_i h_
      exact ⟨fun z_ => absurd z_ (by decide), fun z_ => by omega⟩
    · exact ⟨fun _ => by omega, fun _ => by decide⟩
theorem iat_b {sz_ o_ k_ : Int} (hs_ : 1 ≤ sz_ ∧ sz_ ≤ 3) (ho_ : 0 ≤ o_ ∧ o_ ≤ 5) (hk_ : 0 ≤ k_ ∧ k_ < sz_) : 0 ≤ iat sz_ o_ k_ ∧ iat sz_ o_ k_ < sz_ := by
  unfold iat
  split
  · split <;> omega
  · split
    · omega
    · split
      · split <;> omega
      · split <;> omega
def inp (F_ n_ : Int) (S_ : sm_S) (x_ t_ : Int) : Prop := cnd9 n_ (S_.2.2.1 202 0) x_ ∧ cst F_ S_ x_ t_ < 1000000000
/-- the_ way_ of_ a_ literal can_ be_ gone -/
def wyc (F_ n_ : Int) (S_ : sm_S) (w_ : Int) : Prop := imq (S_.2.2.1 206 0 w_.toNat < 1000000000) (0 ≤ S_.2.2.1 207 0 w_.toNat ∧ 1 ≤ S_.2.2.1 185 0 (12 * S_.1 13 0 106 + S_.2.2.1 207 0 w_.toNat).toNat ∧ ∀ k_ : Int, 0 ≤ k_ → k_ < S_.2.2.1 185 0 (12 * S_.1 13 0 106 + S_.2.2.1 207 0 w_.toNat).toNat → inp F_ n_ S_ (S_.2.2.1 208 0 (3 * w_ + k_).toNat) (i_shr (S_.2.2.1 209 0 w_.toNat) k_ % 2))
/-- only the_ way_ of_ one_ literal changes -/
def wfr (w_ : Int) (S_ S'_ : sm_S) : Prop := (∀ j_, j_ ≠ w_.toNat → S'_.2.2.1 206 0 j_ = S_.2.2.1 206 0 j_ ∧ S'_.2.2.1 207 0 j_ = S_.2.2.1 207 0 j_ ∧ S'_.2.2.1 209 0 j_ = S_.2.2.1 209 0 j_) ∧ ∀ j_, (j_ < 3 * w_.toNat ∨ 3 * w_.toNat + 3 ≤ j_) → S'_.2.2.1 208 0 j_ = S_.2.2.1 208 0 j_
def wf2 (n_ : Int) (S_ S'_ : sm_S) : Prop := (∀ j_, (j_ < 2 * n_.toNat ∨ 2 * n_.toNat + 2 ≤ j_) → S'_.2.2.1 206 0 j_ = S_.2.2.1 206 0 j_ ∧ S'_.2.2.1 207 0 j_ = S_.2.2.1 207 0 j_ ∧ S'_.2.2.1 209 0 j_ = S_.2.2.1 209 0 j_) ∧ ∀ j_, (j_ < 6 * n_.toNat ∨ 6 * n_.toNat + 6 ≤ j_) → S'_.2.2.1 208 0 j_ = S_.2.2.1 208 0 j_
theorem wf2_rf {n_ : Int} {S_ : sm_S} : wf2 n_ S_ S_ := ⟨fun _ _ => ⟨rfl, rfl, rfl⟩, fun _ _ => rfl⟩
theorem wf2_tr {n_ : Int} {S_ S'_ S2_ : sm_S} (h_ : wf2 n_ S_ S'_) (g_ : wf2 n_ S'_ S2_) : wf2 n_ S_ S2_ := ⟨fun j_ hj_ => ⟨(g_.1 j_ hj_).1.trans (h_.1 j_ hj_).1, (g_.1 j_ hj_).2.1.trans (h_.1 j_ hj_).2.1, (g_.1 j_ hj_).2.2.trans (h_.1 j_ hj_).2.2⟩, fun j_ hj_ => (g_.2 j_ hj_).trans (h_.2 j_ hj_)⟩
theorem wf2_fr {w_ : sx_Wl} {n_ : Int} {S_ S'_ : sm_S} (g_ : ai_fr (sx_W w_) S_ S'_) (h1_ : (sx_W w_).2.1 206 = false := by rfl) (h2_ : (sx_W w_).2.1 207 = false := by rfl) (h3_ : (sx_W w_).2.1 208 = false := by rfl) (h4_ : (sx_W w_).2.1 209 = false := by rfl) : wf2 n_ S_ S'_ := ⟨fun j_ _ => ⟨congrFun (fr_arr g_ h1_) j_, congrFun (fr_arr g_ h2_) j_, congrFun (fr_arr g_ h4_) j_⟩, fun j_ _ => congrFun (fr_arr g_ h3_) j_⟩
theorem wf2_w {n_ w_ : Int} {S_ S'_ : sm_S} (h_ : wfr w_ S_ S'_) (hn_ : 0 ≤ n_) (hw_ : w_ = 2 * n_ ∨ w_ = 2 * n_ + 1) : wf2 n_ S_ S'_ := ⟨fun j_ hj_ => h_.1 j_ (by omega), fun j_ hj_ => h_.2 j_ (by omega)⟩
/-- a_ way_ stays, where its_ rows and what it_ stands on_ stay -/
theorem wyc_cg {F_ n_ w_ : Int} {S_ S'_ : sm_S} (hI_ : gi S'_) (h_ : wyc F_ n_ S_ w_) (hw_ : 0 ≤ w_) (e6_ : S'_.2.2.1 206 0 w_.toNat = S_.2.2.1 206 0 w_.toNat) (e7_ : S'_.2.2.1 207 0 w_.toNat = S_.2.2.1 207 0 w_.toNat) (e9_ : S'_.2.2.1 209 0 w_.toNat = S_.2.2.1 209 0 w_.toNat) (e8_ : ∀ k_ : Int, 0 ≤ k_ → k_ < 3 → S'_.2.2.1 208 0 (3 * w_ + k_).toNat = S_.2.2.1 208 0 (3 * w_ + k_).toNat) (e5_ : S'_.2.2.1 185 0 = S_.2.2.1 185 0) (e106_ : S'_.1 13 0 106 = S_.1 13 0 106) (e2_ : S'_.2.2.1 202 0 = S_.2.2.1 202 0) (ec : ∀ x_ t_ : Int, 1 ≤ x_ → x_ < n_ → 0 ≤ t_ → t_ ≤ 1 → cst F_ S'_ x_ t_ = cst F_ S_ x_ t_) : wyc F_ n_ S'_ w_ := by
  unfold wyc
  rw [e6_, e7_, e9_, e5_, e106_]
  intro p_
  have q_ := h_ p_
  refine ⟨q_.1, q_.2.1, fun k_ k0_ k1_ => ?_⟩
  have b_ : S'_.2.2.1 185 0 (12 * S_.1 13 0 106 + S_.2.2.1 207 0 w_.toNat).toNat ≤ 3 := (hI_.2 185 0 _).2
  rw [e5_] at b_
  have z_ := q_.2.2 k_ k0_ k1_
  rw [e8_ k_ k0_ (by omega)]
  refine ⟨by rw [e2_]; exact z_.1, ?_⟩
  rw [ec _ _ z_.1.1 z_.1.2.1 (by omega) (by omega)]
  exact z_.2
theorem cst_fr {w_ : sx_Wl} {F_ : Int} {S_ S'_ : sm_S} (g_ : ai_fr (sx_W w_) S_ S'_) (h1_ : (sx_W w_).2.1 203 = false := by rfl) (h2_ : (sx_W w_).2.1 210 = false := by rfl) (h3_ : (sx_W w_).1 13 108 = false := by rfl) : cst F_ S'_ = cst F_ S_ := by
  funext x_ t_
  unfold cst
  rw [fr_arr g_ h1_, fr_arr g_ h2_, g_.1 13 0 108 h3_]
theorem wyc_fr {w_ : sx_Wl} {F_ n_ l_ : Int} {S_ S'_ : sm_S} (hI_ : gi S'_) (h_ : wyc F_ n_ S_ l_) (hl_ : 0 ≤ l_) (g_ : ai_fr (sx_W w_) S_ S'_) (f_ : (sx_W w_).2.1 206 = false := by rfl) (f7_ : (sx_W w_).2.1 207 = false := by rfl) (f8 : (sx_W w_).2.1 208 = false := by rfl) (f9_ : (sx_W w_).2.1 209 = false := by rfl) (f5_ : (sx_W w_).2.1 185 = false := by rfl) (f1_ : (sx_W w_).1 13 106 = false := by rfl) (f2_ : (sx_W w_).2.1 202 = false := by rfl) (h1_ : (sx_W w_).2.1 203 = false := by rfl) (h2_ : (sx_W w_).2.1 210 = false := by rfl) (h3_ : (sx_W w_).1 13 108 = false := by rfl) : wyc F_ n_ S'_ l_ :=
  wyc_cg hI_ h_ hl_ (congrFun (fr_arr g_ f_) _) (congrFun (fr_arr g_ f7_) _) (congrFun (fr_arr g_ f9_) _) (fun k_ _ _ => congrFun (fr_arr g_ f8) _) (fr_arr g_ f5_) (g_.1 13 0 106 f1_) (fr_arr g_ f2_) (fun x_ t_ _ _ _ _ => by rw [cst_fr g_ h1_ h2_ h3_])
/-! M_.cellOver -/
def vw_405 : sx_Wl := ([], [], [])
def vq_405 (fn_ : Int) (sz_ : Int) (or9_ : Int) (tu_ : Int) (S0_ : sm_S) (u_ : Option sm_V) (S1_ : sm_S) : Prop := S0_ = S1_ ∧ ∃ v_ : Int, u_ = some (.inl v_) ∧ (-2147483648 ≤ v_ ∧ v_ ≤ 2147483647)
set_option maxHeartbeats 400000 in
set_option maxRecDepth 20000 in
theorem vl_405 {sc_ : Nat × (Nat → Int)} (fn_ : Int) (sz_ : Int) (or9_ : Int) (tu_ : Int) (S0_ : sm_S) (hs_ : 1 ≤ sz_ ∧ sz_ ≤ 3 ∧ 0 ≤ or9_ ∧ or9_ ≤ 5) : ∀ nn_ : Nat, (∀ (to_ : Int) (v9_ : Int) (S_ : sm_S), gi S_ → ai_fr (sx_W vw_405) S0_ S_ → ((0 ≤ v9_ ∧ v9_ ≤ 8 ∧ -2147483648 ≤ to_ ∧ to_ ≤ 2147483647) ∧ (S_ = S0_) ∧ True) → ((10 * (100 - v9_) + 9).toNat) < nn_ → sm_T (mt_P sc_) 1 405 (6, [some (.inl fn_), some (.inl sz_), some (.inl or9_), some (.inl tu_), some (.inl to_), some (.inl v9_), none, none], [], S_) (fun ro9_ => ∃ u_ S1_, ro9_ = (.inl u_, S1_, 0) ∧ vq_405 fn_ sz_ or9_ tu_ S0_ u_ S1_)) ∧ (∀ (to_ : Int) (v9_ : Int) (s_ : Int) (k_ : Int) (S_ : sm_S), gi S_ → ai_fr (sx_W vw_405) S0_ S_ → ((0 ≤ v9_ ∧ v9_ < 8 ∧ -2147483648 ≤ to_ ∧ to_ ≤ 2147483647 ∧ 0 ≤ k_ ∧ k_ ≤ 3) ∧ (S_ = S0_) ∧ True) → ((10 * (100 - v9_) + 5 - k_).toNat) < nn_ → sm_T (mt_P sc_) 1 405 (19, [some (.inl fn_), some (.inl sz_), some (.inl or9_), some (.inl tu_), some (.inl to_), some (.inl v9_), some (.inl s_), some (.inl k_)], [], S_) (fun ro9_ => ∃ u_ S1_, ro9_ = (.inl u_, S1_, 0) ∧ vq_405 fn_ sz_ or9_ tu_ S0_ u_ S1_)) := by
  intro nn_
  induction nn_ with
  | zero => exact ⟨fun _ _ _ _ _ _ h_ => absurd h_ (Nat.not_lt_zero _), fun _ _ _ _ _ _ _ _ h_ => absurd h_ (Nat.not_lt_zero _)⟩
  | succ nn_ ih_ =>
    refine ⟨?_, ?_⟩
    · rintro to_ v9_ S_ hI_ hF_ ⟨h0_, hS_, -⟩ hm_
      refine sm_T_go 2 (c1 := (10, [some (.inl fn_), some (.inl sz_), some (.inl or9_), some (.inl tu_), some (.inl to_), some (.inl v9_), none, none], [.inl 8, .inl v9_], S_)) rfl ?_
      refine sm_T_br (a := 3) (z := 66) rfl (fun cx1_ => ?_) (fun cx1_ => ?_)
      · have cx1_ : 8 ≤ v9_ := of_decide_eq_true cx1_
        refine sm_T_go 1 (c1 := (78, [some (.inl fn_), some (.inl sz_), some (.inl or9_), some (.inl tu_), some (.inl to_), some (.inl v9_), none, none], [.inl to_], S_)) rfl ?_
        refine sm_T_ri rfl ⟨_, _, rfl, (by first | rfl | exact hS_.symm), _, rfl, ?_⟩
        omega
      · have cx1_ : ¬ (8 ≤ v9_) := of_decide_eq_false cx1_
        refine sm_T_go 4 (c1 := (19, [some (.inl fn_), some (.inl sz_), some (.inl or9_), some (.inl tu_), some (.inl to_), some (.inl v9_), some (.inl 0), some (.inl 0)], [], S_)) rfl ?_
        refine ih_.2 to_ v9_ 0 0 S_ hI_ hF_ ⟨?_, ?_, trivial⟩ ?_
        · omega
        · first | rfl | exact hS_
        · omega
    · rintro to_ v9_ s_ k_ S_ hI_ hF_ ⟨h0_, hS_, -⟩ hm_
      refine sm_T_go 2 (c1 := (22, [some (.inl fn_), some (.inl sz_), some (.inl or9_), some (.inl tu_), some (.inl to_), some (.inl v9_), some (.inl s_), some (.inl k_)], [.inl sz_, .inl k_], S_)) rfl ?_
      refine sm_T_br (a := 3) (z := 34) rfl (fun cx1_ => ?_) (fun cx1_ => ?_)
      · have cx1_ : sz_ ≤ k_ := of_decide_eq_true cx1_
        refine sm_T_go 3 (c1 := (61, [some (.inl fn_), some (.inl sz_), some (.inl or9_), some (.inl tu_), some (.inl to_), some (.inl v9_), some (.inl s_), some (.inl k_)], [.inl s_, .inl fn_, .inl to_], S_)) rfl ?_
        refine sm_T_bin (w := (i_shr fn_ s_)) rfl rfl ?_ -- pc_ 61
        have bx2_ := i_shr_n fn_ s_
        refine sm_T_go 1 (c1 := (63, [some (.inl fn_), some (.inl sz_), some (.inl or9_), some (.inl tu_), some (.inl to_), some (.inl v9_), some (.inl s_), some (.inl k_)], [.inl 1, .inl (i_shr fn_ s_), .inl to_], S_)) rfl ?_
        refine sm_T_bin (w := ((i_shr fn_ s_) % 2)) rfl (bi_msk (k := 1) (by decide)) ?_ -- pc_ 63
        refine sm_T_go 1 (c1 := (66, [some (.inl fn_), some (.inl sz_), some (.inl or9_), some (.inl tu_), some (.inl to_), some (.inl v9_), some (.inl s_), some (.inl k_)], [.inl v9_, .inl ((i_shr fn_ s_) % 2), .inl to_], S_)) rfl ?_
        refine sm_T_bin (w := (i_shl ((i_shr fn_ s_) % 2) v9_)) rfl rfl ?_ -- pc_ 66
        have bx3_ := i_shl_n ((i_shr fn_ s_) % 2) v9_
        refine sm_T_bin (w := (i_or to_ (i_shl ((i_shr fn_ s_) % 2) v9_))) rfl rfl ?_ -- pc_ 67
        have bx4_ := i_or_n to_ (i_shl ((i_shr fn_ s_) % 2) v9_)
        refine sm_T_go 1 (c1 := (70, [some (.inl fn_), some (.inl sz_), some (.inl or9_), some (.inl tu_), some (.inl (i_or to_ (i_shl ((i_shr fn_ s_) % 2) v9_))), some (.inl v9_), some (.inl s_), some (.inl k_)], [], S_)) rfl ?_
        refine sm_T_inc (a := 5) (z := 1) (v := v9_) (w := v9_ + 1) rfl rfl (by omega) (by omega) (by omega) ?_ -- pc_ 70
        refine sm_T_go 1 (c1 := (6, [some (.inl fn_), some (.inl sz_), some (.inl or9_), some (.inl tu_), some (.inl (i_or to_ (i_shl ((i_shr fn_ s_) % 2) v9_))), some (.inl (v9_ + 1)), some (.inl s_), some (.inl k_)], [], S_)) rfl ?_
        refine sm_T_wk [some (.inl fn_), some (.inl sz_), some (.inl or9_), some (.inl tu_), some (.inl (i_or to_ (i_shl ((i_shr fn_ s_) % 2) v9_))), some (.inl (v9_ + 1)), none, none] (by exact ⟨rfl, rfl, rfl, rfl, rfl, rfl, trivial⟩) ?_
        refine ih_.1 (i_or to_ (i_shl ((i_shr fn_ s_) % 2) v9_)) (v9_ + 1) S_ hI_ hF_ ⟨?_, ?_, trivial⟩ ?_
        · omega
        · first | rfl | exact hS_
        · omega
      · have cx1_ : ¬ (sz_ ≤ k_) := of_decide_eq_false cx1_
        refine sm_T_go 5 (c1 := (33, [some (.inl fn_), some (.inl sz_), some (.inl or9_), some (.inl tu_), some (.inl to_), some (.inl v9_), some (.inl s_), some (.inl k_)], [.inl k_, .inl or9_, .inl sz_, .inl v9_, .inl s_], S_)) rfl ?_
        refine sm_T_cal (d1 := 0) (Q1 := vq_403 sz_ or9_ k_ S_) rfl rfl (by decide) (vc_403 sz_ or9_ k_ S_ hI_ (by omega)) (fun u_ Sx5_ px8_ => ?_)
        obtain ⟨rfl, vx10_, rfl, px8_⟩ := px8_
        refine sm_T_bin (w := (i_shr v9_ vx10_)) rfl rfl ?_ -- pc_ 36
        have bx11_ := i_shr_n v9_ vx10_
        refine sm_T_go 2 (c1 := (40, [some (.inl fn_), some (.inl sz_), some (.inl or9_), some (.inl tu_), some (.inl to_), some (.inl v9_), some (.inl s_), some (.inl k_)], [.inl k_, .inl tu_, .inl (i_shr v9_ vx10_), .inl s_], S_)) rfl ?_
        refine sm_T_bin (w := (i_shr tu_ k_)) rfl rfl ?_ -- pc_ 40
        have bx12_ := i_shr_n tu_ k_
        refine sm_T_bin (w := (i_xor (i_shr v9_ vx10_) (i_shr tu_ k_))) rfl rfl ?_ -- pc_ 41
        have bx13_ := i_xor_n (i_shr v9_ vx10_) (i_shr tu_ k_)
        refine sm_T_go 1 (c1 := (43, [some (.inl fn_), some (.inl sz_), some (.inl or9_), some (.inl tu_), some (.inl to_), some (.inl v9_), some (.inl s_), some (.inl k_)], [.inl 1, .inl (i_xor (i_shr v9_ vx10_) (i_shr tu_ k_)), .inl s_], S_)) rfl ?_
        refine sm_T_bin (w := ((i_xor (i_shr v9_ vx10_) (i_shr tu_ k_)) % 2)) rfl (bi_msk (k := 1) (by decide)) ?_ -- pc_ 43
        refine sm_T_go 1 (c1 := (46, [some (.inl fn_), some (.inl sz_), some (.inl or9_), some (.inl tu_), some (.inl to_), some (.inl v9_), some (.inl s_), some (.inl k_)], [.inl k_, .inl ((i_xor (i_shr v9_ vx10_) (i_shr tu_ k_)) % 2), .inl s_], S_)) rfl ?_
        refine sm_T_bin (w := (i_shl ((i_xor (i_shr v9_ vx10_) (i_shr tu_ k_)) % 2) k_)) rfl rfl ?_ -- pc_ 46
        have bx14_ := i_shl_n ((i_xor (i_shr v9_ vx10_) (i_shr tu_ k_)) % 2) k_
        refine sm_T_bin (w := (i_or s_ (i_shl ((i_xor (i_shr v9_ vx10_) (i_shr tu_ k_)) % 2) k_))) rfl rfl ?_ -- pc_ 47
        have bx15_ := i_or_n s_ (i_shl ((i_xor (i_shr v9_ vx10_) (i_shr tu_ k_)) % 2) k_)
        refine sm_T_go 1 (c1 := (50, [some (.inl fn_), some (.inl sz_), some (.inl or9_), some (.inl tu_), some (.inl to_), some (.inl v9_), some (.inl (i_or s_ (i_shl ((i_xor (i_shr v9_ vx10_) (i_shr tu_ k_)) % 2) k_))), some (.inl k_)], [], S_)) rfl ?_
        refine sm_T_inc (a := 7) (z := 1) (v := k_) (w := k_ + 1) rfl rfl (by omega) (by omega) (by omega) ?_ -- pc_ 50
        refine sm_T_go 1 (c1 := (19, [some (.inl fn_), some (.inl sz_), some (.inl or9_), some (.inl tu_), some (.inl to_), some (.inl v9_), some (.inl (i_or s_ (i_shl ((i_xor (i_shr v9_ vx10_) (i_shr tu_ k_)) % 2) k_))), some (.inl (k_ + 1))], [], S_)) rfl ?_
        refine ih_.2 to_ v9_ (i_or s_ (i_shl ((i_xor (i_shr v9_ vx10_) (i_shr tu_ k_)) % 2) k_)) (k_ + 1) S_ hI_ hF_ ⟨?_, ?_, trivial⟩ ?_
        · omega
        · first | rfl | exact hS_
        · omega
set_option maxHeartbeats 400000 in
set_option maxRecDepth 20000 in
theorem vc_405 {sc_ : Nat × (Nat → Int)} (fn_ : Int) (sz_ : Int) (or9_ : Int) (tu_ : Int) (S0_ : sm_S) (hI_ : gi S0_) (hs_ : 1 ≤ sz_ ∧ sz_ ≤ 3 ∧ 0 ≤ or9_ ∧ or9_ ≤ 5) : sm_T (mt_P sc_) 1 405 (0, [some (.inl fn_), some (.inl sz_), some (.inl or9_), some (.inl tu_), none, none, none, none], [], S0_) (fun ro9_ => ∃ u_ S1_, ro9_ = (.inl u_, S1_, 0) ∧ vq_405 fn_ sz_ or9_ tu_ S0_ u_ S1_) := by
  have hF_ : ai_fr (sx_W vw_405) S0_ S0_ := ai_fr_rf
  refine sm_T_go 4 (c1 := (6, [some (.inl fn_), some (.inl sz_), some (.inl or9_), some (.inl tu_), some (.inl 0), some (.inl 0), none, none], [], S0_)) rfl ?_
  refine (vl_405 fn_ sz_ or9_ tu_ S0_ hs_ _).1 0 0 S0_ hI_ hF_ ⟨?_, ?_, trivial⟩ (Nat.lt_succ_self _)
  · omega
  · first | rfl | exact hS_
/-! M_.costOf -/
def vw_404 : sx_Wl := ([], [], [])
def vq_404 (x_ : Int) (t_ : Int) (F_ : Int) (S0_ : sm_S) (u_ : Option sm_V) (S1_ : sm_S) : Prop := S0_ = S1_ ∧ ∃ v_ : Int, u_ = some (.inl v_) ∧ (v_ = cst F_ S0_ x_ t_ ∧ 0 ≤ v_ ∧ v_ ≤ 1000000000)
set_option maxHeartbeats 400000 in
set_option maxRecDepth 20000 in
theorem vc_404 {sc_ : Nat × (Nat → Int)} (x_ : Int) (t_ : Int) (F_ : Int) (S0_ : sm_S) (hI_ : gi S0_) (hf_ : S0_.2.2.1 160 0 (S0_.1 13 0 105).toNat = F_) (hx_ : 0 ≤ x_ ∧ x_ ≤ 1012 ∧ 0 ≤ t_ ∧ t_ ≤ 1) : sm_T (mt_P sc_) 1 404 (0, [some (.inr (.inr (some (13, 0)))), some (.inl x_), some (.inl t_)], [], S0_) (fun ro9_ => ∃ u_ S1_, ro9_ = (.inl u_, S1_, 0) ∧ vq_404 x_ t_ F_ S0_ u_ S1_) := by
  have hF_ : ai_fr (sx_W vw_404) S0_ S0_ := ai_fr_rf
  refine sm_T_go 2 (c1 := (2, [some (.inr (.inr (some (13, 0)))), some (.inl x_), some (.inl t_)], [.inl x_, .inr (.inr (some (13, 0)))], S0_)) rfl ?_
  refine sm_T_cal (d1 := 0) (Q1 := vq_395 x_ F_ S0_) rfl rfl (by decide) (vc_395 x_ F_ S0_ hI_ (by exact hf_) (by omega)) (fun u_ Sx1_ px4_ => ?_)
  obtain ⟨rfl, vx6_, rfl, px4_⟩ := px4_
  have e2_ := px4_
  refine sm_T_b0 (a := 0) (z := 16) rfl (fun cx7_ => ?_) (fun cx7_ => ?_)
  · have cx7_ : vx6_ = 0 := of_decide_eq_true cx7_
    refine sm_T_go 1 (c1 := (22, [some (.inr (.inr (some (13, 0)))), some (.inl x_), some (.inl t_)], [.inl t_], S0_)) rfl ?_
    refine sm_T_b0 (a := 1) (z := 7) rfl (fun cx8_ => ?_) (fun cx8_ => ?_)
    · have cx8_ : t_ ≠ 0 := of_decide_eq_true cx8_
      have bx9_ : 0 ≤ S0_.1 13 0 108 ∧ S0_.1 13 0 108 ≤ 1000000000 := hI_.1 13 0 108 rfl
      refine sm_T_go 2 (c1 := (33, [some (.inr (.inr (some (13, 0)))), some (.inl x_), some (.inl t_)], [.inl (S0_.1 13 0 108)], S0_)) rfl ?_
      refine sm_T_ri rfl ⟨_, _, rfl, rfl, _, rfl, ?_⟩
      refine ⟨?_, by omega, by omega⟩
      unfold cst
      first | rw [if_pos ⟨by omega, by omega⟩] | (rw [if_neg (by omega)]; first | rw [if_pos (by omega)] | rw [if_neg (by omega)])
    · have cx8_ : ¬ (t_ ≠ 0) := of_decide_eq_false cx8_
      refine sm_T_go 2 (c1 := (33, [some (.inr (.inr (some (13, 0)))), some (.inl x_), some (.inl t_)], [.inl 0], S0_)) rfl ?_
      refine sm_T_ri rfl ⟨_, _, rfl, rfl, _, rfl, ?_⟩
      refine ⟨?_, by omega, by omega⟩
      unfold cst
      first | rw [if_pos ⟨by omega, by omega⟩] | (rw [if_neg (by omega)]; first | rw [if_pos (by omega)] | rw [if_neg (by omega)])
  · have cx7_ : ¬ (vx6_ = 0) := of_decide_eq_false cx7_
    refine sm_T_go 4 (c1 := (14, [some (.inr (.inr (some (13, 0)))), some (.inl x_), some (.inl t_)], [.inl x_, .inl 2, .inr (.inr (some (210, 0)))], S0_)) rfl ?_
    refine sm_T_bin (w := 2 * x_) rfl (bi_mul (by omega) (by omega) (by omega)) ?_ -- pc_ 14
    refine sm_T_go 1 (c1 := (16, [some (.inr (.inr (some (13, 0)))), some (.inl x_), some (.inl t_)], [.inl t_, .inl (2 * x_), .inr (.inr (some (210, 0)))], S0_)) rfl ?_
    refine sm_T_bin (w := 2 * x_ + t_) rfl (bi_add (by omega) (by omega) (by omega)) ?_ -- pc_ 16
    refine sm_T_iald (n := 4096) rfl rfl (by omega) (by omega) ?_
    have bx10_ : 0 ≤ S0_.2.2.1 210 0 (2 * x_ + t_).toNat ∧ S0_.2.2.1 210 0 (2 * x_ + t_).toNat ≤ 1000000000 := hI_.2 210 0 _
    refine sm_T_go 1 (c1 := (33, [some (.inr (.inr (some (13, 0)))), some (.inl x_), some (.inl t_)], [.inl (S0_.2.2.1 210 0 (2 * x_ + t_).toNat)], S0_)) rfl ?_
    refine sm_T_ri rfl ⟨_, _, rfl, rfl, _, rfl, ?_⟩
    refine ⟨?_, by omega, by omega⟩
    unfold cst
    first | rw [if_pos ⟨by omega, by omega⟩] | (rw [if_neg (by omega)]; first | rw [if_pos (by omega)] | rw [if_neg (by omega)])
/-! M_.tryWay -/
def vw_406 : sx_Wl := ([], [206, 207, 208, 209], [])
def vq_406 (n_ : Int) (t_ : Int) (c_ : Int) (cu_ : Int) (or9_ : Int) (tu_ : Int) (F_ : Int) (S0_ : sm_S) (u_ : Option sm_V) (S1_ : sm_S) : Prop := u_ = none ∧ gi S1_ ∧ ai_fr (sx_W vw_406) S0_ S1_ ∧ (wyc F_ n_ S1_ (2 * n_) ∧ wyc F_ n_ S1_ (2 * n_ + 1) ∧ wf2 n_ S0_ S1_)
set_option maxHeartbeats 4000000 in
set_option maxRecDepth 20000 in
theorem vl_406 {sc_ : Nat × (Nat → Int)} (n_ : Int) (t_ : Int) (c_ : Int) (cu_ : Int) (or9_ : Int) (tu_ : Int) (F_ : Int) (S0_ : sm_S) (hf_ : S0_.2.2.1 160 0 (S0_.1 13 0 105).toNat = F_) (hn_ : 1 ≤ F_ ∧ F_ ≤ n_ ∧ n_ ≤ 1012) (hh_ : 0 ≤ c_ ∧ c_ ≤ 11 ∧ 0 ≤ cu_ ∧ cu_ < S0_.1 13 0 114 ∧ 0 ≤ or9_ ∧ or9_ ≤ 5 ∧ 0 ≤ tu_ ∧ tu_ ≤ 7) (hct_ : ctp (cnd9 n_ (S0_.2.2.1 202 0)) S0_) (hsz_ : S0_.2.2.1 204 0 cu_.toNat = S0_.2.2.1 185 0 (12 * S0_.1 13 0 106 + c_).toNat) (hw0_ : wyc F_ n_ S0_ (2 * n_)) (hw1_ : wyc F_ n_ S0_ (2 * n_ + 1)) (hx_ : 0 ≤ t_ ∧ t_ ≤ 1) : ∀ nn_ : Nat, (∀ (lt_ : Int) (k_ : Int) (S_ : sm_S), gi S_ → ai_fr (sx_W vw_406) S0_ S_ → ((0 ≤ k_ ∧ k_ ≤ 3 ∧ 0 ≤ lt_ ∧ lt_ ≤ 1000 + 1000000000 * k_ ∧ S0_.1 13 0 114 ≤ 64) ∧ (∀ j9_ : Int, 0 ≤ j9_ → j9_ < k_ → cst F_ S0_ (S0_.2.2.1 205 0 (3 * cu_ + iat (S0_.2.2.1 204 0 cu_.toNat) or9_ j9_).toNat) (i_shr tu_ j9_ % 2) ≤ lt_) ∧ (S_ = S0_) ∧ True) → ((900 - k_).toNat) < nn_ → sm_T (mt_P sc_) 2 406 (20, [some (.inr (.inr (some (13, 0)))), some (.inl n_), some (.inl t_), some (.inl c_), some (.inl cu_), some (.inl or9_), some (.inl tu_), some (.inr (.inl lt_)), none, some (.inl k_), none], [], S_) (fun ro9_ => ∃ u_ S1_, ro9_ = (.inl u_, S1_, 0) ∧ vq_406 n_ t_ c_ cu_ or9_ tu_ F_ S0_ u_ S1_)) ∧ (∀ (w_ : Int) (k_ : Int) (S_ : sm_S), gi S_ → ai_fr (sx_W vw_406) S0_ S_ → ((0 ≤ k_ ∧ k_ ≤ 3 ∧ w_ = 2 * n_ + t_ ∧ S0_.1 13 0 114 ≤ 64 ∧ k_ ≤ S0_.2.2.1 204 0 cu_.toNat) ∧ (∀ j9_ : Int, 0 ≤ j9_ → j9_ < S0_.2.2.1 204 0 cu_.toNat → cst F_ S0_ (S0_.2.2.1 205 0 (3 * cu_ + iat (S0_.2.2.1 204 0 cu_.toNat) or9_ j9_).toNat) (i_shr tu_ j9_ % 2) < 1000000000) ∧ (S_.2.2.1 207 0 w_.toNat = c_ ∧ S_.2.2.1 209 0 w_.toNat = tu_) ∧ (∀ j9_ : Int, 0 ≤ j9_ → j9_ < k_ → S_.2.2.1 208 0 (3 * w_ + j9_).toNat = S0_.2.2.1 205 0 (3 * cu_ + iat (S0_.2.2.1 204 0 cu_.toNat) or9_ j9_).toNat) ∧ (wfr w_ S0_ S_) ∧ True) → ((500 - k_).toNat) < nn_ → sm_T (mt_P sc_) 2 406 (131, [some (.inr (.inr (some (13, 0)))), some (.inl n_), some (.inl t_), some (.inl c_), some (.inl cu_), some (.inl or9_), some (.inl tu_), none, none, some (.inl w_), some (.inl k_)], [], S_) (fun ro9_ => ∃ u_ S1_, ro9_ = (.inl u_, S1_, 0) ∧ vq_406 n_ t_ c_ cu_ or9_ tu_ F_ S0_ u_ S1_)) := by
  intro nn_
  induction nn_ with
  | zero => exact ⟨fun _ _ _ _ _ _ h_ => absurd h_ (Nat.not_lt_zero _), fun _ _ _ _ _ _ h_ => absurd h_ (Nat.not_lt_zero _)⟩
  | succ nn_ ih_ =>
    refine ⟨?_, ?_⟩
    · rintro lt_ k_ S_ hI_ hF_ ⟨h0_, h1_, h4_, -⟩ hm_
      have f204_ : S_.2.2.1 204 0 = S0_.2.2.1 204 0 := fr_arr hF_ rfl
      have f205_ : S_.2.2.1 205 0 = S0_.2.2.1 205 0 := fr_arr hF_ rfl
      have f160_ : S_.2.2.1 160 0 (S_.1 13 0 105).toNat = F_ := by (rw [hF_.1 13 0 105 rfl, fr_arr (t := 160) (i := 0) hF_ rfl]; exact hf_)
      have c9_ : cst F_ S_ = cst F_ S0_ := cst_fr hF_
      have x204_ : S_.2.2.1 204 0 cu_.toNat = S0_.2.2.1 204 0 cu_.toNat := congrFun f204_ _
      have b204_ : 0 ≤ S_.2.2.1 204 0 cu_.toNat ∧ S_.2.2.1 204 0 cu_.toNat ≤ 3 := hI_.2 204 0 _
      have g106_ : S_.1 13 0 106 = S0_.1 13 0 106 := hF_.1 13 0 106 rfl
      refine sm_T_go 4 (c1 := (28, [some (.inr (.inr (some (13, 0)))), some (.inl n_), some (.inl t_), some (.inl c_), some (.inl cu_), some (.inl or9_), some (.inl tu_), some (.inr (.inl lt_)), none, some (.inl k_), none], [.inl cu_, .inr (.inr (some (204, 0))), .inl k_], S_)) rfl ?_
      refine sm_T_iald (n := 64) rfl rfl (by omega) (by omega) ?_
      have bx1_ : 0 ≤ S_.2.2.1 204 0 cu_.toNat ∧ S_.2.2.1 204 0 cu_.toNat ≤ 3 := hI_.2 204 0 _
      refine sm_T_br (a := 3) (z := 50) rfl (fun cx2_ => ?_) (fun cx2_ => ?_)
      · have cx2_ : (S_.2.2.1 204 0 cu_.toNat) ≤ k_ := of_decide_eq_true cx2_
        refine sm_T_go 2 (c1 := (81, [some (.inr (.inr (some (13, 0)))), some (.inl n_), some (.inl t_), some (.inl c_), some (.inl cu_), some (.inl or9_), some (.inl tu_), some (.inr (.inl lt_)), none, some (.inl k_), none], [.inl n_, .inl 2], S_)) rfl ?_
        refine sm_T_bin (w := 2 * n_) rfl (bi_mul (by omega) (by omega) (by omega)) ?_ -- pc_ 81
        refine sm_T_go 1 (c1 := (83, [some (.inr (.inr (some (13, 0)))), some (.inl n_), some (.inl t_), some (.inl c_), some (.inl cu_), some (.inl or9_), some (.inl tu_), some (.inr (.inl lt_)), none, some (.inl k_), none], [.inl t_, .inl (2 * n_)], S_)) rfl ?_
        refine sm_T_bin (w := 2 * n_ + t_) rfl (bi_add (by omega) (by omega) (by omega)) ?_ -- pc_ 83
        refine sm_T_go 5 (c1 := (94, [some (.inr (.inr (some (13, 0)))), some (.inl n_), some (.inl t_), some (.inl c_), some (.inl cu_), some (.inl or9_), some (.inl tu_), some (.inr (.inl lt_)), none, some (.inl (2 * n_ + t_)), none], [.inl (2 * n_ + t_), .inr (.inr (some (206, 0))), .inr (.inl lt_)], S_)) rfl ?_
        refine sm_T_iald (n := 4096) rfl rfl (by omega) (by omega) ?_
        have bx3_ : 0 ≤ S_.2.2.1 206 0 (2 * n_ + t_).toNat ∧ S_.2.2.1 206 0 (2 * n_ + t_).toNat ≤ 1000000000 := hI_.2 206 0 _
        refine sm_T_go 2 (c1 := (97, [some (.inr (.inr (some (13, 0)))), some (.inl n_), some (.inl t_), some (.inl c_), some (.inl cu_), some (.inl or9_), some (.inl tu_), some (.inr (.inl lt_)), none, some (.inl (2 * n_ + t_)), none], [.inl (sm_lcmp lt_ ((l_i2l (S_.2.2.1 206 0 (2 * n_ + t_).toNat))))], S_)) rfl ?_
        refine sm_T_b0 (a := 2) (z := 4) rfl (fun cx4_ => ?_) (fun cx4_ => ?_)
        · have cx4_ : (sm_lcmp lt_ ((l_i2l (S_.2.2.1 206 0 (2 * n_ + t_).toNat)))) < 0 := of_decide_eq_true cx4_
          have L8_ : lt_ < S_.2.2.1 206 0 (2 * n_ + t_).toNat := by (have q9_ := lcmp_lt.mp cx4_; rw [l_i2l_s (by omega) (by omega)] at q9_; exact q9_)
          have L7_ := l2i_s (x_ := lt_) (by omega)
          have bx5_ := l_l2i_n lt_
          refine sm_T_go 5 (c1 := (110, [some (.inr (.inr (some (13, 0)))), some (.inl n_), some (.inl t_), some (.inl c_), some (.inl cu_), some (.inl or9_), some (.inl tu_), some (.inr (.inl lt_)), none, some (.inl (2 * n_ + t_)), none], [.inl (l_l2i lt_), .inl (2 * n_ + t_), .inr (.inr (some (206, 0)))], S_)) rfl ?_
          refine sm_T_iast (n := 4096) rfl rfl (by omega) (by omega) ?_
          have hIx6_ : gi (sm_aI S_ 206 0 (2 * n_ + t_).toNat (l_l2i lt_)) := gi_aI hI_ (show 0 ≤ (l_l2i lt_) ∧ (l_l2i lt_) ≤ 1000000000 from ⟨by omega, by omega⟩)
          have hFx7_ : ai_fr (sx_W vw_406) S0_ (sm_aI S_ 206 0 (2 * n_ + t_).toNat (l_l2i lt_)) := ai_fr_tr hF_ (ai_fr_aI rfl)
          refine sm_T_go 4 (c1 := (118, [some (.inr (.inr (some (13, 0)))), some (.inl n_), some (.inl t_), some (.inl c_), some (.inl cu_), some (.inl or9_), some (.inl tu_), some (.inr (.inl lt_)), none, some (.inl (2 * n_ + t_)), none], [.inl c_, .inl (2 * n_ + t_), .inr (.inr (some (207, 0)))], sm_aI S_ 206 0 (2 * n_ + t_).toNat (l_l2i lt_))) rfl ?_
          refine sm_T_iast (n := 4096) rfl rfl (by omega) (by omega) ?_
          have hIx8_ : gi (sm_aI (sm_aI S_ 206 0 (2 * n_ + t_).toNat (l_l2i lt_)) 207 0 (2 * n_ + t_).toNat c_) := gi_aI hIx6_ (show (-1) ≤ c_ ∧ c_ ≤ 11 from ⟨by omega, by omega⟩)
          have hFx9_ : ai_fr (sx_W vw_406) S0_ (sm_aI (sm_aI S_ 206 0 (2 * n_ + t_).toNat (l_l2i lt_)) 207 0 (2 * n_ + t_).toNat c_) := ai_fr_tr hFx7_ (ai_fr_aI rfl)
          refine sm_T_go 4 (c1 := (127, [some (.inr (.inr (some (13, 0)))), some (.inl n_), some (.inl t_), some (.inl c_), some (.inl cu_), some (.inl or9_), some (.inl tu_), some (.inr (.inl lt_)), none, some (.inl (2 * n_ + t_)), none], [.inl tu_, .inl (2 * n_ + t_), .inr (.inr (some (209, 0)))], sm_aI (sm_aI S_ 206 0 (2 * n_ + t_).toNat (l_l2i lt_)) 207 0 (2 * n_ + t_).toNat c_)) rfl ?_
          refine sm_T_iast (n := 4096) rfl rfl (by omega) (by omega) ?_
          have hIx10_ : gi (sm_aI (sm_aI (sm_aI S_ 206 0 (2 * n_ + t_).toNat (l_l2i lt_)) 207 0 (2 * n_ + t_).toNat c_) 209 0 (2 * n_ + t_).toNat tu_) := gi_aI hIx8_ (show 0 ≤ tu_ ∧ tu_ ≤ 7 from ⟨by omega, by omega⟩)
          have hFx11_ : ai_fr (sx_W vw_406) S0_ (sm_aI (sm_aI (sm_aI S_ 206 0 (2 * n_ + t_).toNat (l_l2i lt_)) 207 0 (2 * n_ + t_).toNat c_) 209 0 (2 * n_ + t_).toNat tu_) := ai_fr_tr hFx9_ (ai_fr_aI rfl)
          refine sm_T_go 2 (c1 := (131, [some (.inr (.inr (some (13, 0)))), some (.inl n_), some (.inl t_), some (.inl c_), some (.inl cu_), some (.inl or9_), some (.inl tu_), some (.inr (.inl lt_)), none, some (.inl (2 * n_ + t_)), some (.inl 0)], [], sm_aI (sm_aI (sm_aI S_ 206 0 (2 * n_ + t_).toNat (l_l2i lt_)) 207 0 (2 * n_ + t_).toNat c_) 209 0 (2 * n_ + t_).toNat tu_)) rfl ?_
          refine sm_T_wk [some (.inr (.inr (some (13, 0)))), some (.inl n_), some (.inl t_), some (.inl c_), some (.inl cu_), some (.inl or9_), some (.inl tu_), none, none, some (.inl (2 * n_ + t_)), some (.inl 0)] (by exact ⟨rfl, rfl, rfl, rfl, rfl, rfl, rfl, rfl, rfl, trivial⟩) ?_
          refine ih_.2 (2 * n_ + t_) 0 (sm_aI (sm_aI (sm_aI S_ 206 0 (2 * n_ + t_).toNat (l_l2i lt_)) 207 0 (2 * n_ + t_).toNat c_) 209 0 (2 * n_ + t_).toNat tu_) hIx10_ hFx11_ ⟨?_, ?_, ?_, ?_, ?_, trivial⟩ ?_
          · omega
          · (intro j9_ u0_ u1_; have w9_ := h1_ j9_ u0_ (by omega); omega)
          · ((try simp only [rd_eq, rd_ne, rf_eq, rf_nk, rf_nt, rd_fa, rd_af, rd_fl, rd_al, rd_lf, rd_la, rd_leq, rd_lne, rd_fr, rd_ar, ne_eq, Nat.reduceEqDiff, not_false_eq_true]); first | exact ⟨if_pos rfl, if_pos rfl⟩ | exact ⟨trivial, trivial⟩ | (constructor <;> first | rfl | rw [if_pos rfl]))
          · (intro j9_ u0_ u1_; exfalso; omega)
          · (rw [← h4_]; exact ⟨fun j9_ h9_ => by ((try simp only [rd_eq, rd_ne, rf_eq, rf_nk, rf_nt, rd_fa, rd_af, rd_fl, rd_al, rd_lf, rd_la, rd_leq, rd_lne, rd_fr, rd_ar, ne_eq, Nat.reduceEqDiff, not_false_eq_true]); rw [if_neg (by omega), if_neg (by omega), if_neg (by omega)]; exact ⟨rfl, rfl, rfl⟩), fun j9_ _ => by (try simp only [rd_eq, rd_ne, rf_eq, rf_nk, rf_nt, rd_fa, rd_af, rd_fl, rd_al, rd_lf, rd_la, rd_leq, rd_lne, rd_fr, rd_ar, ne_eq, Nat.reduceEqDiff, not_false_eq_true])⟩)
          · omega
        · have cx4_ : ¬ ((sm_lcmp lt_ ((l_i2l (S_.2.2.1 206 0 (2 * n_ + t_).toNat)))) < 0) := of_decide_eq_false cx4_
          refine sm_T_rv rfl ⟨_, _, rfl, rfl, hI_, hF_, ?_⟩
          rw [h4_]
          exact ⟨hw0_, hw1_, wf2_rf⟩
      · have cx2_ : ¬ ((S_.2.2.1 204 0 cu_.toNat) ≤ k_) := of_decide_eq_false cx2_
        have b9_ := hct_ cu_ (by omega) (by omega)
        refine sm_T_go 6 (c1 := (42, [some (.inr (.inr (some (13, 0)))), some (.inl n_), some (.inl t_), some (.inl c_), some (.inl cu_), some (.inl or9_), some (.inl tu_), some (.inr (.inl lt_)), none, some (.inl k_), none], [.inl cu_, .inl 3, .inr (.inr (some (205, 0))), .inr (.inr (some (13, 0))), .inr (.inl lt_)], S_)) rfl ?_
        refine sm_T_bin (w := 3 * cu_) rfl (bi_mul (by omega) (by omega) (by omega)) ?_ -- pc_ 42
        refine sm_T_go 3 (c1 := (49, [some (.inr (.inr (some (13, 0)))), some (.inl n_), some (.inl t_), some (.inl c_), some (.inl cu_), some (.inl or9_), some (.inl tu_), some (.inr (.inl lt_)), none, some (.inl k_), none], [.inl cu_, .inr (.inr (some (204, 0))), .inl (3 * cu_), .inr (.inr (some (205, 0))), .inr (.inr (some (13, 0))), .inr (.inl lt_)], S_)) rfl ?_
        refine sm_T_iald (n := 64) rfl rfl (by omega) (by omega) ?_
        refine sm_T_go 2 (c1 := (54, [some (.inr (.inr (some (13, 0)))), some (.inl n_), some (.inl t_), some (.inl c_), some (.inl cu_), some (.inl or9_), some (.inl tu_), some (.inr (.inl lt_)), none, some (.inl k_), none], [.inl k_, .inl or9_, .inl (S_.2.2.1 204 0 cu_.toNat), .inl (3 * cu_), .inr (.inr (some (205, 0))), .inr (.inr (some (13, 0))), .inr (.inl lt_)], S_)) rfl ?_
        refine sm_T_cal (d1 := 0) (Q1 := vq_403 (S_.2.2.1 204 0 cu_.toNat) or9_ k_ S_) rfl rfl (by decide) (vc_403 (S_.2.2.1 204 0 cu_.toNat) or9_ k_ S_ hI_ (by omega)) (fun u_ Sx12_ px15_ => ?_)
        obtain ⟨rfl, vx17_, rfl, px15_⟩ := px15_
        have e54_ := px15_
        rw [x204_] at e54_
        have n9_ := b9_.2 vx17_ (by omega) (by omega)
        rw [← f205_] at n9_
        have n8_ := n9_.1
        have n7_ := n9_.2.1
        refine sm_T_bin (w := 3 * cu_ + vx17_) rfl (bi_add (by omega) (by omega) (by omega)) ?_ -- pc_ 57
        refine sm_T_iald (n := 192) rfl rfl (by omega) (by omega) ?_
        have bx18_ : 0 ≤ S_.2.2.1 205 0 (3 * cu_ + vx17_).toNat ∧ S_.2.2.1 205 0 (3 * cu_ + vx17_).toNat ≤ 1012 := hI_.2 205 0 _
        refine sm_T_go 2 (c1 := (63, [some (.inr (.inr (some (13, 0)))), some (.inl n_), some (.inl t_), some (.inl c_), some (.inl cu_), some (.inl or9_), some (.inl tu_), some (.inr (.inl lt_)), none, some (.inl k_), none], [.inl k_, .inl tu_, .inl (S_.2.2.1 205 0 (3 * cu_ + vx17_).toNat), .inr (.inr (some (13, 0))), .inr (.inl lt_)], S_)) rfl ?_
        refine sm_T_bin (w := (i_shr tu_ k_)) rfl rfl ?_ -- pc_ 63
        refine sm_T_go 1 (c1 := (65, [some (.inr (.inr (some (13, 0)))), some (.inl n_), some (.inl t_), some (.inl c_), some (.inl cu_), some (.inl or9_), some (.inl tu_), some (.inr (.inl lt_)), none, some (.inl k_), none], [.inl 1, .inl (i_shr tu_ k_), .inl (S_.2.2.1 205 0 (3 * cu_ + vx17_).toNat), .inr (.inr (some (13, 0))), .inr (.inl lt_)], S_)) rfl ?_
        refine sm_T_bin (w := ((i_shr tu_ k_) % 2)) rfl (bi_msk (k := 1) (by decide)) ?_ -- pc_ 65
        refine sm_T_cal (d1 := 1) (Q1 := vq_404 (S_.2.2.1 205 0 (3 * cu_ + vx17_).toNat) ((i_shr tu_ k_) % 2) F_ S_) rfl rfl (by decide) (vc_404 (S_.2.2.1 205 0 (3 * cu_ + vx17_).toNat) ((i_shr tu_ k_) % 2) F_ S_ hI_ (by exact f160_) (by omega)) (fun u_ Sx19_ px22_ => ?_)
        obtain ⟨rfl, vx24_, rfl, px22_⟩ := px22_
        have e66_ := px22_
        rw [c9_, f205_, e54_.1] at e66_
        have L9_ := l_0_s (x_ := lt_) (y_ := vx24_) (by omega) (by omega)
        refine sm_T_go 3 (c1 := (73, [some (.inr (.inr (some (13, 0)))), some (.inl n_), some (.inl t_), some (.inl c_), some (.inl cu_), some (.inl or9_), some (.inl tu_), some (.inr (.inl (l_0 lt_ ((l_i2l vx24_))))), none, some (.inl k_), none], [], S_)) rfl ?_
        refine sm_T_inc (a := 9) (z := 1) (v := k_) (w := k_ + 1) rfl rfl (by omega) (by omega) (by omega) ?_ -- pc_ 73
        refine sm_T_go 1 (c1 := (20, [some (.inr (.inr (some (13, 0)))), some (.inl n_), some (.inl t_), some (.inl c_), some (.inl cu_), some (.inl or9_), some (.inl tu_), some (.inr (.inl (l_0 lt_ ((l_i2l vx24_))))), none, some (.inl (k_ + 1)), none], [], S_)) rfl ?_
        refine ih_.1 ((l_0 lt_ ((l_i2l vx24_)))) (k_ + 1) S_ hI_ hF_ ⟨?_, ?_, ?_, trivial⟩ ?_
        · (rw [L9_]; omega)
        · intro j9_ u0_ u1_
          rw [L9_]
          by_cases z9_ : j9_ = k_
          · rw [z9_]; omega
          · have w9_ := h1_ j9_ u0_ (by omega); omega
        · exact h4_
        · omega
    · rintro w_ k_ S_ hI_ hF_ ⟨h0_, h1_, h2_, h3_, h5_, -⟩ hm_
      have f204_ : S_.2.2.1 204 0 = S0_.2.2.1 204 0 := fr_arr hF_ rfl
      have f205_ : S_.2.2.1 205 0 = S0_.2.2.1 205 0 := fr_arr hF_ rfl
      have f160_ : S_.2.2.1 160 0 (S_.1 13 0 105).toNat = F_ := by (rw [hF_.1 13 0 105 rfl, fr_arr (t := 160) (i := 0) hF_ rfl]; exact hf_)
      have c9_ : cst F_ S_ = cst F_ S0_ := cst_fr hF_
      have x204_ : S_.2.2.1 204 0 cu_.toNat = S0_.2.2.1 204 0 cu_.toNat := congrFun f204_ _
      have b204_ : 0 ≤ S_.2.2.1 204 0 cu_.toNat ∧ S_.2.2.1 204 0 cu_.toNat ≤ 3 := hI_.2 204 0 _
      have g106_ : S_.1 13 0 106 = S0_.1 13 0 106 := hF_.1 13 0 106 rfl
      refine sm_T_go 4 (c1 := (139, [some (.inr (.inr (some (13, 0)))), some (.inl n_), some (.inl t_), some (.inl c_), some (.inl cu_), some (.inl or9_), some (.inl tu_), none, none, some (.inl w_), some (.inl k_)], [.inl cu_, .inr (.inr (some (204, 0))), .inl k_], S_)) rfl ?_
      refine sm_T_iald (n := 64) rfl rfl (by omega) (by omega) ?_
      have bx1_ : 0 ≤ S_.2.2.1 204 0 cu_.toNat ∧ S_.2.2.1 204 0 cu_.toNat ≤ 3 := hI_.2 204 0 _
      refine sm_T_br (a := 3) (z := 45) rfl (fun cx2_ => ?_) (fun cx2_ => ?_)
      · have cx2_ : (S_.2.2.1 204 0 cu_.toNat) ≤ k_ := of_decide_eq_true cx2_
        refine sm_T_rv rfl ⟨_, _, rfl, rfl, hI_, hF_, ?_⟩
        have z0_ : S_.2.2.1 185 0 = S0_.2.2.1 185 0 := fr_arr hF_ rfl
        have z2_ : S_.2.2.1 202 0 = S0_.2.2.1 202 0 := fr_arr hF_ rfl
        have own_ : wyc F_ n_ S_ w_ := fun _ => by
          rw [h2_.1, h2_.2, z0_, g106_, ← hsz_]
          refine ⟨by omega, (hct_ cu_ (by omega) (by omega)).1, fun k9_ v0_ v1_ => ?_⟩
          rw [h3_ k9_ v0_ (by omega)]
          refine ⟨by (rw [z2_]; exact (hct_ cu_ (by omega) (by omega)).2 _ (iat_b (by omega) (by omega) (by omega)).1 (iat_b (by omega) (by omega) (by omega)).2), ?_⟩
          rw [c9_]
          exact h1_ k9_ v0_ v1_
        have oth_ : ∀ l9_ : Int, 0 ≤ l9_ → l9_ ≠ w_ → wyc F_ n_ S0_ l9_ → wyc F_ n_ S_ l9_ := fun l9_ u0_ u1_ u2_ => wyc_cg hI_ u2_ u0_ (h5_.1 _ (by omega)).1 (h5_.1 _ (by omega)).2.1 (h5_.1 _ (by omega)).2.2 (fun k9_ v0_ v1_ => h5_.2 _ (by omega)) z0_ g106_ z2_ (fun x9_ t9_ _ _ _ _ => by rw [c9_])
        have v9_ : w_ = 2 * n_ ∨ w_ = 2 * n_ + 1 := by omega
        rcases v9_ with v9_ | v9_
        · exact ⟨by (rw [← v9_]; exact own_), oth_ _ (by omega) (by omega) hw1_, wf2_w h5_ (by omega) (Or.inl v9_)⟩
        · exact ⟨oth_ _ (by omega) (by omega) hw0_, by (rw [← v9_]; exact own_), wf2_w h5_ (by omega) (Or.inr v9_)⟩
      · have cx2_ : ¬ ((S_.2.2.1 204 0 cu_.toNat) ≤ k_) := of_decide_eq_false cx2_
        have b9_ := hct_ cu_ (by omega) (by omega)
        refine sm_T_go 4 (c1 := (150, [some (.inr (.inr (some (13, 0)))), some (.inl n_), some (.inl t_), some (.inl c_), some (.inl cu_), some (.inl or9_), some (.inl tu_), none, none, some (.inl w_), some (.inl k_)], [.inl w_, .inl 3, .inr (.inr (some (208, 0)))], S_)) rfl ?_
        refine sm_T_bin (w := 3 * w_) rfl (bi_mul (by omega) (by omega) (by omega)) ?_ -- pc_ 150
        refine sm_T_go 1 (c1 := (153, [some (.inr (.inr (some (13, 0)))), some (.inl n_), some (.inl t_), some (.inl c_), some (.inl cu_), some (.inl or9_), some (.inl tu_), none, none, some (.inl w_), some (.inl k_)], [.inl k_, .inl (3 * w_), .inr (.inr (some (208, 0)))], S_)) rfl ?_
        refine sm_T_bin (w := 3 * w_ + k_) rfl (bi_add (by omega) (by omega) (by omega)) ?_ -- pc_ 153
        refine sm_T_go 4 (c1 := (161, [some (.inr (.inr (some (13, 0)))), some (.inl n_), some (.inl t_), some (.inl c_), some (.inl cu_), some (.inl or9_), some (.inl tu_), none, none, some (.inl w_), some (.inl k_)], [.inl cu_, .inl 3, .inr (.inr (some (205, 0))), .inl (3 * w_ + k_), .inr (.inr (some (208, 0)))], S_)) rfl ?_
        refine sm_T_bin (w := 3 * cu_) rfl (bi_mul (by omega) (by omega) (by omega)) ?_ -- pc_ 161
        refine sm_T_go 3 (c1 := (168, [some (.inr (.inr (some (13, 0)))), some (.inl n_), some (.inl t_), some (.inl c_), some (.inl cu_), some (.inl or9_), some (.inl tu_), none, none, some (.inl w_), some (.inl k_)], [.inl cu_, .inr (.inr (some (204, 0))), .inl (3 * cu_), .inr (.inr (some (205, 0))), .inl (3 * w_ + k_), .inr (.inr (some (208, 0)))], S_)) rfl ?_
        refine sm_T_iald (n := 64) rfl rfl (by omega) (by omega) ?_
        refine sm_T_go 2 (c1 := (173, [some (.inr (.inr (some (13, 0)))), some (.inl n_), some (.inl t_), some (.inl c_), some (.inl cu_), some (.inl or9_), some (.inl tu_), none, none, some (.inl w_), some (.inl k_)], [.inl k_, .inl or9_, .inl (S_.2.2.1 204 0 cu_.toNat), .inl (3 * cu_), .inr (.inr (some (205, 0))), .inl (3 * w_ + k_), .inr (.inr (some (208, 0)))], S_)) rfl ?_
        refine sm_T_cal (d1 := 0) (Q1 := vq_403 (S_.2.2.1 204 0 cu_.toNat) or9_ k_ S_) rfl rfl (by decide) (vc_403 (S_.2.2.1 204 0 cu_.toNat) or9_ k_ S_ hI_ (by omega)) (fun u_ Sx3_ px6_ => ?_)
        obtain ⟨rfl, vx8_, rfl, px6_⟩ := px6_
        have e173_ := px6_
        rw [x204_] at e173_
        have n9_ := b9_.2 vx8_ (by omega) (by omega)
        rw [← f205_] at n9_
        have n8_ := n9_.1
        have n7_ := n9_.2.1
        refine sm_T_bin (w := 3 * cu_ + vx8_) rfl (bi_add (by omega) (by omega) (by omega)) ?_ -- pc_ 176
        refine sm_T_iald (n := 192) rfl rfl (by omega) (by omega) ?_
        have bx9_ : 0 ≤ S_.2.2.1 205 0 (3 * cu_ + vx8_).toNat ∧ S_.2.2.1 205 0 (3 * cu_ + vx8_).toNat ≤ 1012 := hI_.2 205 0 _
        refine sm_T_iast (n := 12288) rfl rfl (by omega) (by omega) ?_
        have hIx10_ : gi (sm_aI S_ 208 0 (3 * w_ + k_).toNat (S_.2.2.1 205 0 (3 * cu_ + vx8_).toNat)) := gi_aI hI_ (show 0 ≤ (S_.2.2.1 205 0 (3 * cu_ + vx8_).toNat) ∧ (S_.2.2.1 205 0 (3 * cu_ + vx8_).toNat) ≤ 2047 from ⟨by omega, by omega⟩)
        have hFx11_ : ai_fr (sx_W vw_406) S0_ (sm_aI S_ 208 0 (3 * w_ + k_).toNat (S_.2.2.1 205 0 (3 * cu_ + vx8_).toNat)) := ai_fr_tr hF_ (ai_fr_aI rfl)
        refine sm_T_inc (a := 10) (z := 1) (v := k_) (w := k_ + 1) rfl rfl (by omega) (by omega) (by omega) ?_ -- pc_ 179
        refine sm_T_go 1 (c1 := (131, [some (.inr (.inr (some (13, 0)))), some (.inl n_), some (.inl t_), some (.inl c_), some (.inl cu_), some (.inl or9_), some (.inl tu_), none, none, some (.inl w_), some (.inl (k_ + 1))], [], sm_aI S_ 208 0 (3 * w_ + k_).toNat (S_.2.2.1 205 0 (3 * cu_ + vx8_).toNat))) rfl ?_
        refine ih_.2 w_ (k_ + 1) (sm_aI S_ 208 0 (3 * w_ + k_).toNat (S_.2.2.1 205 0 (3 * cu_ + vx8_).toNat)) hIx10_ hFx11_ ⟨?_, ?_, ?_, ?_, ?_, trivial⟩ ?_
        · omega
        · exact h1_
        · ((try simp only [rd_eq, rd_ne, rf_eq, rf_nk, rf_nt, rd_fa, rd_af, rd_fl, rd_al, rd_lf, rd_la, rd_leq, rd_lne, rd_fr, rd_ar, ne_eq, Nat.reduceEqDiff, not_false_eq_true]); exact h2_)
        · intro j9_ u0_ u1_
          rw [rd_eq]
          by_cases z9_ : (3 * w_ + j9_).toNat = (3 * w_ + k_).toNat
          · rw [if_pos z9_, f205_, e173_.1, show j9_ = k_ by omega]
          · rw [if_neg z9_]; exact h3_ j9_ u0_ (by omega)
        · exact ⟨fun j9_ h9_ => by ((try simp only [rd_eq, rd_ne, rf_eq, rf_nk, rf_nt, rd_fa, rd_af, rd_fl, rd_al, rd_lf, rd_la, rd_leq, rd_lne, rd_fr, rd_ar, ne_eq, Nat.reduceEqDiff, not_false_eq_true]); exact h5_.1 j9_ h9_), fun j9_ h9_ => by ((try simp only [rd_eq, rd_ne, rf_eq, rf_nk, rf_nt, rd_fa, rd_af, rd_fl, rd_al, rd_lf, rd_la, rd_leq, rd_lne, rd_fr, rd_ar, ne_eq, Nat.reduceEqDiff, not_false_eq_true]); rw [if_neg (by omega)]; exact h5_.2 j9_ h9_)⟩
        · omega
set_option maxHeartbeats 4000000 in
set_option maxRecDepth 20000 in
theorem vc_406 {sc_ : Nat × (Nat → Int)} (n_ : Int) (t_ : Int) (c_ : Int) (cu_ : Int) (or9_ : Int) (tu_ : Int) (F_ : Int) (S0_ : sm_S) (hI_ : gi S0_) (hf_ : S0_.2.2.1 160 0 (S0_.1 13 0 105).toNat = F_) (hn_ : 1 ≤ F_ ∧ F_ ≤ n_ ∧ n_ ≤ 1012) (hh_ : 0 ≤ c_ ∧ c_ ≤ 11 ∧ 0 ≤ cu_ ∧ cu_ < S0_.1 13 0 114 ∧ 0 ≤ or9_ ∧ or9_ ≤ 5 ∧ 0 ≤ tu_ ∧ tu_ ≤ 7) (hct_ : ctp (cnd9 n_ (S0_.2.2.1 202 0)) S0_) (hsz_ : S0_.2.2.1 204 0 cu_.toNat = S0_.2.2.1 185 0 (12 * S0_.1 13 0 106 + c_).toNat) (hw0_ : wyc F_ n_ S0_ (2 * n_)) (hw1_ : wyc F_ n_ S0_ (2 * n_ + 1)) (hx_ : 0 ≤ t_ ∧ t_ ≤ 1) : sm_T (mt_P sc_) 2 406 (0, [some (.inr (.inr (some (13, 0)))), some (.inl n_), some (.inl t_), some (.inl c_), some (.inl cu_), some (.inl or9_), some (.inl tu_), none, none, none, none], [], S0_) (fun ro9_ => ∃ u_ S1_, ro9_ = (.inl u_, S1_, 0) ∧ vq_406 n_ t_ c_ cu_ or9_ tu_ F_ S0_ u_ S1_) := by
  have hF_ : ai_fr (sx_W vw_406) S0_ S0_ := ai_fr_rf
  have b114_ : S0_.1 13 0 114 ≤ 64 := (hI_.1 13 0 114 rfl).2
  have q204_ : 0 ≤ S0_.2.2.1 204 0 cu_.toNat ∧ S0_.2.2.1 204 0 cu_.toNat ≤ 3 := hI_.2 204 0 _
  have b106_ : 0 ≤ S0_.1 13 0 106 ∧ S0_.1 13 0 106 ≤ 2 := hI_.1 13 0 106 rfl
  have bx1_ : 0 ≤ S0_.1 13 0 106 ∧ S0_.1 13 0 106 ≤ 2 := hI_.1 13 0 106 rfl
  refine sm_T_go 5 (c1 := (10, [some (.inr (.inr (some (13, 0)))), some (.inl n_), some (.inl t_), some (.inl c_), some (.inl cu_), some (.inl or9_), some (.inl tu_), none, none, none, none], [.inl (S0_.1 13 0 106), .inl 12, .inr (.inr (some (187, 0)))], S0_)) rfl ?_
  refine sm_T_bin (w := 12 * (S0_.1 13 0 106)) rfl (bi_mul (by omega) (by omega) (by omega)) ?_ -- pc_ 10
  refine sm_T_go 1 (c1 := (12, [some (.inr (.inr (some (13, 0)))), some (.inl n_), some (.inl t_), some (.inl c_), some (.inl cu_), some (.inl or9_), some (.inl tu_), none, none, none, none], [.inl c_, .inl (12 * (S0_.1 13 0 106)), .inr (.inr (some (187, 0)))], S0_)) rfl ?_
  refine sm_T_bin (w := 12 * (S0_.1 13 0 106) + c_) rfl (bi_add (by omega) (by omega) (by omega)) ?_ -- pc_ 12
  refine sm_T_iald (n := 36) rfl rfl (by omega) (by omega) ?_
  have bx2_ : 0 ≤ S0_.2.2.1 187 0 (12 * (S0_.1 13 0 106) + c_).toNat ∧ S0_.2.2.1 187 0 (12 * (S0_.1 13 0 106) + c_).toNat ≤ 1000 := hI_.2 187 0 _
  refine sm_T_go 4 (c1 := (20, [some (.inr (.inr (some (13, 0)))), some (.inl n_), some (.inl t_), some (.inl c_), some (.inl cu_), some (.inl or9_), some (.inl tu_), some (.inr (.inl (l_i2l (S0_.2.2.1 187 0 (12 * (S0_.1 13 0 106) + c_).toNat)))), none, some (.inl 0), none], [], S0_)) rfl ?_
  refine (vl_406 n_ t_ c_ cu_ or9_ tu_ F_ S0_ hf_ hn_ hh_ hct_ hsz_ hw0_ hw1_ hx_ _).1 ((l_i2l (S0_.2.2.1 187 0 (12 * (S0_.1 13 0 106) + c_).toNat))) 0 S0_ hI_ hF_ ⟨?_, ?_, ?_, trivial⟩ (Nat.lt_succ_self _)
  · (rw [l_i2l_s (by omega) (by omega)]; omega)
  · (intro j9_ u0_ u1_; exfalso; omega)
  · rfl
/-! M_.tryCell -/
def vw_408 : sx_Wl := ([], [206, 207, 208, 209], [])
def vq_408 (n_ : Int) (c_ : Int) (cu_ : Int) (sz_ : Int) (F_ : Int) (S0_ : sm_S) (u_ : Option sm_V) (S1_ : sm_S) : Prop := u_ = none ∧ gi S1_ ∧ ai_fr (sx_W vw_408) S0_ S1_ ∧ (wyc F_ n_ S1_ (2 * n_) ∧ wyc F_ n_ S1_ (2 * n_ + 1) ∧ wf2 n_ S0_ S1_)
set_option maxHeartbeats 2000000 in
set_option maxRecDepth 20000 in
theorem vl_408 {sc_ : Nat × (Nat → Int)} (n_ : Int) (c_ : Int) (cu_ : Int) (sz_ : Int) (F_ : Int) (S0_ : sm_S) (hf_ : S0_.2.2.1 160 0 (S0_.1 13 0 105).toNat = F_) (hn_ : 1 ≤ F_ ∧ F_ ≤ n_ ∧ n_ ≤ 1012) (hh_ : 0 ≤ c_ ∧ c_ ≤ 11 ∧ 0 ≤ cu_ ∧ cu_ < S0_.1 13 0 114 ∧ 1 ≤ sz_ ∧ sz_ ≤ 3) (hct_ : ctp (cnd9 n_ (S0_.2.2.1 202 0)) S0_) (hsz_ : S0_.2.2.1 204 0 cu_.toNat = S0_.2.2.1 185 0 (12 * S0_.1 13 0 106 + c_).toNat) (hw0_ : wyc F_ n_ S0_ (2 * n_)) (hw1_ : wyc F_ n_ S0_ (2 * n_ + 1)) : ∀ nn_ : Nat, (∀ (o_ : Int) (S_ : sm_S), gi S_ → ai_fr (sx_W vw_408) S0_ S_ → ((0 ≤ o_ ∧ o_ ≤ 6) ∧ (wyc F_ n_ S_ (2 * n_)) ∧ (wyc F_ n_ S_ (2 * n_ + 1)) ∧ (wf2 n_ S0_ S_) ∧ True) → ((100 * (50 - o_) + 90).toNat) < nn_ → sm_T (mt_P sc_) 3 408 (3, [some (.inr (.inr (some (13, 0)))), some (.inl n_), some (.inl c_), some (.inl cu_), some (.inl sz_), some (.inl o_), none, none], [], S_) (fun ro9_ => ∃ u_ S1_, ro9_ = (.inl u_, S1_, 0) ∧ vq_408 n_ c_ cu_ sz_ F_ S0_ u_ S1_)) ∧ (∀ (o_ : Int) (tu_ : Int) (S_ : sm_S), gi S_ → ai_fr (sx_W vw_408) S0_ S_ → ((0 ≤ o_ ∧ o_ ≤ 5 ∧ 0 ≤ tu_ ∧ tu_ ≤ 8) ∧ (wyc F_ n_ S_ (2 * n_)) ∧ (wyc F_ n_ S_ (2 * n_ + 1)) ∧ (wf2 n_ S0_ S_) ∧ True) → ((100 * (50 - o_) + 80 - tu_).toNat) < nn_ → sm_T (mt_P sc_) 3 408 (24, [some (.inr (.inr (some (13, 0)))), some (.inl n_), some (.inl c_), some (.inl cu_), some (.inl sz_), some (.inl o_), some (.inl tu_), none], [], S_) (fun ro9_ => ∃ u_ S1_, ro9_ = (.inl u_, S1_, 0) ∧ vq_408 n_ c_ cu_ sz_ F_ S0_ u_ S1_)) := by
  intro nn_
  induction nn_ with
  | zero => exact ⟨fun _ _ _ _ _ h_ => absurd h_ (Nat.not_lt_zero _), fun _ _ _ _ _ _ h_ => absurd h_ (Nat.not_lt_zero _)⟩
  | succ nn_ ih_ =>
    refine ⟨?_, ?_⟩
    · rintro o_ S_ hI_ hF_ ⟨h0_, k0_, k1_, k2_, -⟩ hm_
      have f160_ : S_.2.2.1 160 0 (S_.1 13 0 105).toNat = F_ := by (rw [hF_.1 13 0 105 rfl, fr_arr (t := 160) (i := 0) hF_ rfl]; exact hf_)
      have g106_ : S_.1 13 0 106 = S0_.1 13 0 106 := hF_.1 13 0 106 rfl
      have g114_ : S_.1 13 0 114 = S0_.1 13 0 114 := hF_.1 13 0 114 rfl
      have f202_ : S_.2.2.1 202 0 = S0_.2.2.1 202 0 := fr_arr hF_ rfl
      have f204_ : S_.2.2.1 204 0 = S0_.2.2.1 204 0 := fr_arr hF_ rfl
      have f185_ : S_.2.2.1 185 0 = S0_.2.2.1 185 0 := fr_arr hF_ rfl
      have ct9_ : ctp (cnd9 n_ (S0_.2.2.1 202 0)) S_ := ctp_fr hct_ hF_
      have b114_ : S_.1 13 0 114 ≤ 64 := (hI_.1 13 0 114 rfl).2
      have b106_ : 0 ≤ S_.1 13 0 106 ∧ S_.1 13 0 106 ≤ 2 := hI_.1 13 0 106 rfl
      refine sm_T_go 3 (c1 := (8, [some (.inr (.inr (some (13, 0)))), some (.inl n_), some (.inl c_), some (.inl cu_), some (.inl sz_), some (.inl o_), none, none], [.inl 3, .inl sz_, .inl o_], S_)) rfl ?_
      refine sm_T_br (a := 1) (z := 8) rfl (fun cx1_ => ?_) (fun cx1_ => ?_)
      · have cx1_ : sz_ ≠ 3 := of_decide_eq_true cx1_
        refine sm_T_go 1 (c1 := (18, [some (.inr (.inr (some (13, 0)))), some (.inl n_), some (.inl c_), some (.inl cu_), some (.inl sz_), some (.inl o_), none, none], [.inl sz_, .inl o_], S_)) rfl ?_
        refine sm_T_br (a := 3) (z := 102) rfl (fun cx2_ => ?_) (fun cx2_ => ?_)
        · have cx2_ : sz_ ≤ o_ := of_decide_eq_true cx2_
          refine sm_T_rv rfl ⟨_, _, rfl, rfl, hI_, hF_, ?_⟩
          exact ⟨k0_, k1_, k2_⟩
        · have cx2_ : ¬ (sz_ ≤ o_) := of_decide_eq_false cx2_
          refine sm_T_go 2 (c1 := (24, [some (.inr (.inr (some (13, 0)))), some (.inl n_), some (.inl c_), some (.inl cu_), some (.inl sz_), some (.inl o_), some (.inl 0), none], [], S_)) rfl ?_
          refine ih_.2 o_ 0 S_ hI_ hF_ ⟨?_, ?_, ?_, ?_, trivial⟩ ?_
          · omega
          · first | exact p105_.1 | exact p78_.1 | exact k0_
          · first | exact p105_.2.1 | exact p78_.2.1 | exact k1_
          · first | exact wf2_tr (wf2_tr k2_ p78_.2.2) p105_.2.2 | exact wf2_tr k2_ p105_.2.2 | exact wf2_tr k2_ p78_.2.2 | exact k2_
          · omega
      · have cx1_ : ¬ (sz_ ≠ 3) := of_decide_eq_false cx1_
        refine sm_T_go 2 (c1 := (18, [some (.inr (.inr (some (13, 0)))), some (.inl n_), some (.inl c_), some (.inl cu_), some (.inl sz_), some (.inl o_), none, none], [.inl 6, .inl o_], S_)) rfl ?_
        refine sm_T_br (a := 3) (z := 102) rfl (fun cx3_ => ?_) (fun cx3_ => ?_)
        · have cx3_ : 6 ≤ o_ := of_decide_eq_true cx3_
          refine sm_T_rv rfl ⟨_, _, rfl, rfl, hI_, hF_, ?_⟩
          exact ⟨k0_, k1_, k2_⟩
        · have cx3_ : ¬ (6 ≤ o_) := of_decide_eq_false cx3_
          refine sm_T_go 2 (c1 := (24, [some (.inr (.inr (some (13, 0)))), some (.inl n_), some (.inl c_), some (.inl cu_), some (.inl sz_), some (.inl o_), some (.inl 0), none], [], S_)) rfl ?_
          refine ih_.2 o_ 0 S_ hI_ hF_ ⟨?_, ?_, ?_, ?_, trivial⟩ ?_
          · omega
          · first | exact p105_.1 | exact p78_.1 | exact k0_
          · first | exact p105_.2.1 | exact p78_.2.1 | exact k1_
          · first | exact wf2_tr (wf2_tr k2_ p78_.2.2) p105_.2.2 | exact wf2_tr k2_ p105_.2.2 | exact wf2_tr k2_ p78_.2.2 | exact k2_
          · omega
    · rintro o_ tu_ S_ hI_ hF_ ⟨h0_, k0_, k1_, k2_, -⟩ hm_
      have f160_ : S_.2.2.1 160 0 (S_.1 13 0 105).toNat = F_ := by (rw [hF_.1 13 0 105 rfl, fr_arr (t := 160) (i := 0) hF_ rfl]; exact hf_)
      have g106_ : S_.1 13 0 106 = S0_.1 13 0 106 := hF_.1 13 0 106 rfl
      have g114_ : S_.1 13 0 114 = S0_.1 13 0 114 := hF_.1 13 0 114 rfl
      have f202_ : S_.2.2.1 202 0 = S0_.2.2.1 202 0 := fr_arr hF_ rfl
      have f204_ : S_.2.2.1 204 0 = S0_.2.2.1 204 0 := fr_arr hF_ rfl
      have f185_ : S_.2.2.1 185 0 = S0_.2.2.1 185 0 := fr_arr hF_ rfl
      have ct9_ : ctp (cnd9 n_ (S0_.2.2.1 202 0)) S_ := ctp_fr hct_ hF_
      have b114_ : S_.1 13 0 114 ≤ 64 := (hI_.1 13 0 114 rfl).2
      have b106_ : 0 ≤ S_.1 13 0 106 ∧ S_.1 13 0 106 ≤ 2 := hI_.1 13 0 106 rfl
      have s9_ := i_shl1 (e := sz_) (by omega) (by omega)
      have w9_ := pw_le (n := sz_.toNat) (m := 3) (by omega)
      refine sm_T_go 3 (c1 := (29, [some (.inr (.inr (some (13, 0)))), some (.inl n_), some (.inl c_), some (.inl cu_), some (.inl sz_), some (.inl o_), some (.inl tu_), none], [.inl sz_, .inl 1, .inl tu_], S_)) rfl ?_
      refine sm_T_bin (w := (i_shl 1 sz_)) rfl rfl ?_ -- pc_ 29
      refine sm_T_br (a := 3) (z := 84) rfl (fun cx1_ => ?_) (fun cx1_ => ?_)
      · have cx1_ : (i_shl 1 sz_) ≤ tu_ := of_decide_eq_true cx1_
        refine sm_T_inc (a := 5) (z := 1) (v := o_) (w := o_ + 1) rfl rfl (by omega) (by omega) (by omega) ?_ -- pc_ 114
        refine sm_T_go 1 (c1 := (3, [some (.inr (.inr (some (13, 0)))), some (.inl n_), some (.inl c_), some (.inl cu_), some (.inl sz_), some (.inl (o_ + 1)), some (.inl tu_), none], [], S_)) rfl ?_
        refine sm_T_wk [some (.inr (.inr (some (13, 0)))), some (.inl n_), some (.inl c_), some (.inl cu_), some (.inl sz_), some (.inl (o_ + 1)), none, none] (by exact ⟨rfl, rfl, rfl, rfl, rfl, rfl, trivial⟩) ?_
        refine ih_.1 (o_ + 1) S_ hI_ hF_ ⟨?_, ?_, ?_, ?_, trivial⟩ ?_
        · omega
        · first | exact p105_.1 | exact p78_.1 | exact k0_
        · first | exact p105_.2.1 | exact p78_.2.1 | exact k1_
        · first | exact wf2_tr (wf2_tr k2_ p78_.2.2) p105_.2.2 | exact wf2_tr k2_ p105_.2.2 | exact wf2_tr k2_ p78_.2.2 | exact k2_
        · omega
      · have cx1_ : ¬ ((i_shl 1 sz_) ≤ tu_) := of_decide_eq_false cx1_
        have bx2_ : 0 ≤ S_.1 13 0 106 ∧ S_.1 13 0 106 ≤ 2 := hI_.1 13 0 106 rfl
        refine sm_T_go 5 (c1 := (43, [some (.inr (.inr (some (13, 0)))), some (.inl n_), some (.inl c_), some (.inl cu_), some (.inl sz_), some (.inl o_), some (.inl tu_), none], [.inl (S_.1 13 0 106), .inl 12, .inr (.inr (some (186, 0)))], S_)) rfl ?_
        refine sm_T_bin (w := 12 * (S_.1 13 0 106)) rfl (bi_mul (by omega) (by omega) (by omega)) ?_ -- pc_ 43
        refine sm_T_go 1 (c1 := (45, [some (.inr (.inr (some (13, 0)))), some (.inl n_), some (.inl c_), some (.inl cu_), some (.inl sz_), some (.inl o_), some (.inl tu_), none], [.inl c_, .inl (12 * (S_.1 13 0 106)), .inr (.inr (some (186, 0)))], S_)) rfl ?_
        refine sm_T_bin (w := 12 * (S_.1 13 0 106) + c_) rfl (bi_add (by omega) (by omega) (by omega)) ?_ -- pc_ 45
        refine sm_T_iald (n := 36) rfl rfl (by omega) (by omega) ?_
        have bx3_ : 0 ≤ S_.2.2.1 186 0 (12 * (S_.1 13 0 106) + c_).toNat ∧ S_.2.2.1 186 0 (12 * (S_.1 13 0 106) + c_).toNat ≤ 255 := hI_.2 186 0 _
        refine sm_T_go 3 (c1 := (53, [some (.inr (.inr (some (13, 0)))), some (.inl n_), some (.inl c_), some (.inl cu_), some (.inl sz_), some (.inl o_), some (.inl tu_), none], [.inl tu_, .inl o_, .inl sz_, .inl (S_.2.2.1 186 0 (12 * (S_.1 13 0 106) + c_).toNat)], S_)) rfl ?_
        refine sm_T_cal (d1 := 1) (Q1 := vq_405 (S_.2.2.1 186 0 (12 * (S_.1 13 0 106) + c_).toNat) sz_ o_ tu_ S_) rfl rfl (by decide) (vc_405 (S_.2.2.1 186 0 (12 * (S_.1 13 0 106) + c_).toNat) sz_ o_ tu_ S_ hI_ (by omega)) (fun u_ Sx4_ px7_ => ?_)
        obtain ⟨rfl, vx9_, rfl, px7_⟩ := px7_
        refine sm_T_go 5 (c1 := (65, [some (.inr (.inr (some (13, 0)))), some (.inl n_), some (.inl c_), some (.inl cu_), some (.inl sz_), some (.inl o_), some (.inl tu_), some (.inl vx9_)], [.inl cu_, .inr (.inr (some (215, 0))), .inl vx9_], S_)) rfl ?_
        refine sm_T_iald (n := 64) rfl rfl (by omega) (by omega) ?_
        have bx10_ : 0 ≤ S_.2.2.1 215 0 cu_.toNat ∧ S_.2.2.1 215 0 cu_.toNat ≤ 255 := hI_.2 215 0 _
        refine sm_T_br (a := 1) (z := 15) rfl (fun cx11_ => ?_) (fun cx11_ => ?_)
        · have cx11_ : vx9_ ≠ (S_.2.2.1 215 0 cu_.toNat) := of_decide_eq_true cx11_
          refine sm_T_go 4 (c1 := (88, [some (.inr (.inr (some (13, 0)))), some (.inl n_), some (.inl c_), some (.inl cu_), some (.inl sz_), some (.inl o_), some (.inl tu_), some (.inl vx9_)], [.inl cu_, .inr (.inr (some (215, 0))), .inl vx9_], S_)) rfl ?_
          refine sm_T_iald (n := 64) rfl rfl (by omega) (by omega) ?_
          refine sm_T_go 1 (c1 := (92, [some (.inr (.inr (some (13, 0)))), some (.inl n_), some (.inl c_), some (.inl cu_), some (.inl sz_), some (.inl o_), some (.inl tu_), some (.inl vx9_)], [.inl 255, .inl (S_.2.2.1 215 0 cu_.toNat), .inl vx9_], S_)) rfl ?_
          refine sm_T_bin (w := (i_xor (S_.2.2.1 215 0 cu_.toNat) 255)) rfl rfl ?_ -- pc_ 92
          have bx12_ := i_xor_n (S_.2.2.1 215 0 cu_.toNat) 255
          refine sm_T_br (a := 1) (z := 15) rfl (fun cx13_ => ?_) (fun cx13_ => ?_)
          · have cx13_ : vx9_ ≠ (i_xor (S_.2.2.1 215 0 cu_.toNat) 255) := of_decide_eq_true cx13_
            refine sm_T_inc (a := 6) (z := 1) (v := tu_) (w := tu_ + 1) rfl rfl (by omega) (by omega) (by omega) ?_ -- pc_ 108
            refine sm_T_go 1 (c1 := (24, [some (.inr (.inr (some (13, 0)))), some (.inl n_), some (.inl c_), some (.inl cu_), some (.inl sz_), some (.inl o_), some (.inl (tu_ + 1)), some (.inl vx9_)], [], S_)) rfl ?_
            refine sm_T_wk [some (.inr (.inr (some (13, 0)))), some (.inl n_), some (.inl c_), some (.inl cu_), some (.inl sz_), some (.inl o_), some (.inl (tu_ + 1)), none] (by exact ⟨rfl, rfl, rfl, rfl, rfl, rfl, rfl, trivial⟩) ?_
            refine ih_.2 o_ (tu_ + 1) S_ hI_ hF_ ⟨?_, ?_, ?_, ?_, trivial⟩ ?_
            · omega
            · first | exact p105_.1 | exact p78_.1 | exact k0_
            · first | exact p105_.2.1 | exact p78_.2.1 | exact k1_
            · first | exact wf2_tr (wf2_tr k2_ p78_.2.2) p105_.2.2 | exact wf2_tr k2_ p105_.2.2 | exact wf2_tr k2_ p78_.2.2 | exact k2_
            · omega
          · have cx13_ : ¬ (vx9_ ≠ (i_xor (S_.2.2.1 215 0 cu_.toNat) 255)) := of_decide_eq_false cx13_
            refine sm_T_go 7 (c1 := (105, [some (.inr (.inr (some (13, 0)))), some (.inl n_), some (.inl c_), some (.inl cu_), some (.inl sz_), some (.inl o_), some (.inl tu_), some (.inl vx9_)], [.inl tu_, .inl o_, .inl cu_, .inl c_, .inl 1, .inl n_, .inr (.inr (some (13, 0)))], S_)) rfl ?_
            refine sm_T_cal (d1 := 2) (Q1 := vq_406 n_ 1 c_ cu_ o_ tu_ F_ S_) rfl rfl (by decide) (vc_406 n_ 1 c_ cu_ o_ tu_ F_ S_ hI_ (by first | exact y160_ | exact f160_) (by omega) (by omega) (by first | (rw [y202_, f202_]; exact yct_) | (rw [f202_]; exact ct9_)) (by first | (rw [y204_, y185_, y106_, f204_, f185_, g106_]; exact hsz_) | (rw [f204_, f185_, g106_]; exact hsz_)) (by first | exact p78_.1 | exact k0_) (by first | exact p78_.2.1 | exact k1_) (by omega)) (fun u_ Sx14_ px17_ => ?_)
            obtain ⟨rfl, hIx15_, hFx16_, px17_⟩ := px17_
            have hFx18_ : ai_fr (sx_W vw_408) S0_ Sx14_ := ai_fr_tr hF_ (fr_le hFx16_ rfl)
            have ex19_ : Sx14_.1 13 0 106 = S_.1 13 0 106 := hFx16_.1 13 0 106 rfl
            have p105_ := px17_
            refine sm_T_inc (a := 6) (z := 1) (v := tu_) (w := tu_ + 1) rfl rfl (by omega) (by omega) (by omega) ?_ -- pc_ 108
            refine sm_T_go 1 (c1 := (24, [some (.inr (.inr (some (13, 0)))), some (.inl n_), some (.inl c_), some (.inl cu_), some (.inl sz_), some (.inl o_), some (.inl (tu_ + 1)), some (.inl vx9_)], [], Sx14_)) rfl ?_
            refine sm_T_wk [some (.inr (.inr (some (13, 0)))), some (.inl n_), some (.inl c_), some (.inl cu_), some (.inl sz_), some (.inl o_), some (.inl (tu_ + 1)), none] (by exact ⟨rfl, rfl, rfl, rfl, rfl, rfl, rfl, trivial⟩) ?_
            refine ih_.2 o_ (tu_ + 1) Sx14_ hIx15_ hFx18_ ⟨?_, ?_, ?_, ?_, trivial⟩ ?_
            · omega
            · first | exact p105_.1 | exact p78_.1 | exact k0_
            · first | exact p105_.2.1 | exact p78_.2.1 | exact k1_
            · first | exact wf2_tr (wf2_tr k2_ p78_.2.2) p105_.2.2 | exact wf2_tr k2_ p105_.2.2 | exact wf2_tr k2_ p78_.2.2 | exact k2_
            · omega
        · have cx11_ : ¬ (vx9_ ≠ (S_.2.2.1 215 0 cu_.toNat)) := of_decide_eq_false cx11_
          refine sm_T_go 7 (c1 := (78, [some (.inr (.inr (some (13, 0)))), some (.inl n_), some (.inl c_), some (.inl cu_), some (.inl sz_), some (.inl o_), some (.inl tu_), some (.inl vx9_)], [.inl tu_, .inl o_, .inl cu_, .inl c_, .inl 0, .inl n_, .inr (.inr (some (13, 0)))], S_)) rfl ?_
          refine sm_T_cal (d1 := 2) (Q1 := vq_406 n_ 0 c_ cu_ o_ tu_ F_ S_) rfl rfl (by decide) (vc_406 n_ 0 c_ cu_ o_ tu_ F_ S_ hI_ (by exact f160_) (by omega) (by omega) (by (rw [f202_]; exact ct9_)) (by (rw [f204_, f185_, g106_]; exact hsz_)) (by exact k0_) (by exact k1_) (by omega)) (fun u_ Sx20_ px23_ => ?_)
          obtain ⟨rfl, hIx21_, hFx22_, px23_⟩ := px23_
          have hFx24_ : ai_fr (sx_W vw_408) S0_ Sx20_ := ai_fr_tr hF_ (fr_le hFx22_ rfl)
          have ex25_ : Sx20_.1 13 0 106 = S_.1 13 0 106 := hFx22_.1 13 0 106 rfl
          have p78_ := px23_
          have y160_ : Sx20_.2.2.1 160 0 (Sx20_.1 13 0 105).toNat = F_ := by (rw [hFx22_.1 13 0 105 rfl, fr_arr (t := 160) (i := 0) hFx22_ rfl]; exact f160_)
          have y202_ : Sx20_.2.2.1 202 0 = S_.2.2.1 202 0 := fr_arr hFx22_ rfl
          have y204_ : Sx20_.2.2.1 204 0 = S_.2.2.1 204 0 := fr_arr hFx22_ rfl
          have y185_ : Sx20_.2.2.1 185 0 = S_.2.2.1 185 0 := fr_arr hFx22_ rfl
          have y106_ := hFx22_.1 13 0 106 rfl
          have y114_ := hFx22_.1 13 0 114 rfl
          have yct_ : ctp (cnd9 n_ (S0_.2.2.1 202 0)) Sx20_ := ctp_fr ct9_ hFx22_
          refine sm_T_go 4 (c1 := (88, [some (.inr (.inr (some (13, 0)))), some (.inl n_), some (.inl c_), some (.inl cu_), some (.inl sz_), some (.inl o_), some (.inl tu_), some (.inl vx9_)], [.inl cu_, .inr (.inr (some (215, 0))), .inl vx9_], Sx20_)) rfl ?_
          refine sm_T_iald (n := 64) rfl rfl (by omega) (by omega) ?_
          have bx26_ : 0 ≤ Sx20_.2.2.1 215 0 cu_.toNat ∧ Sx20_.2.2.1 215 0 cu_.toNat ≤ 255 := hIx21_.2 215 0 _
          refine sm_T_go 1 (c1 := (92, [some (.inr (.inr (some (13, 0)))), some (.inl n_), some (.inl c_), some (.inl cu_), some (.inl sz_), some (.inl o_), some (.inl tu_), some (.inl vx9_)], [.inl 255, .inl (Sx20_.2.2.1 215 0 cu_.toNat), .inl vx9_], Sx20_)) rfl ?_
          refine sm_T_bin (w := (i_xor (Sx20_.2.2.1 215 0 cu_.toNat) 255)) rfl rfl ?_ -- pc_ 92
          have bx27_ := i_xor_n (Sx20_.2.2.1 215 0 cu_.toNat) 255
          refine sm_T_br (a := 1) (z := 15) rfl (fun cx28_ => ?_) (fun cx28_ => ?_)
          · have cx28_ : vx9_ ≠ (i_xor (Sx20_.2.2.1 215 0 cu_.toNat) 255) := of_decide_eq_true cx28_
            refine sm_T_inc (a := 6) (z := 1) (v := tu_) (w := tu_ + 1) rfl rfl (by omega) (by omega) (by omega) ?_ -- pc_ 108
            refine sm_T_go 1 (c1 := (24, [some (.inr (.inr (some (13, 0)))), some (.inl n_), some (.inl c_), some (.inl cu_), some (.inl sz_), some (.inl o_), some (.inl (tu_ + 1)), some (.inl vx9_)], [], Sx20_)) rfl ?_
            refine sm_T_wk [some (.inr (.inr (some (13, 0)))), some (.inl n_), some (.inl c_), some (.inl cu_), some (.inl sz_), some (.inl o_), some (.inl (tu_ + 1)), none] (by exact ⟨rfl, rfl, rfl, rfl, rfl, rfl, rfl, trivial⟩) ?_
            refine ih_.2 o_ (tu_ + 1) Sx20_ hIx21_ hFx24_ ⟨?_, ?_, ?_, ?_, trivial⟩ ?_
            · omega
            · first | exact p105_.1 | exact p78_.1 | exact k0_
            · first | exact p105_.2.1 | exact p78_.2.1 | exact k1_
            · first | exact wf2_tr (wf2_tr k2_ p78_.2.2) p105_.2.2 | exact wf2_tr k2_ p105_.2.2 | exact wf2_tr k2_ p78_.2.2 | exact k2_
            · omega
          · have cx28_ : ¬ (vx9_ ≠ (i_xor (Sx20_.2.2.1 215 0 cu_.toNat) 255)) := of_decide_eq_false cx28_
            refine sm_T_go 7 (c1 := (105, [some (.inr (.inr (some (13, 0)))), some (.inl n_), some (.inl c_), some (.inl cu_), some (.inl sz_), some (.inl o_), some (.inl tu_), some (.inl vx9_)], [.inl tu_, .inl o_, .inl cu_, .inl c_, .inl 1, .inl n_, .inr (.inr (some (13, 0)))], Sx20_)) rfl ?_
            refine sm_T_cal (d1 := 2) (Q1 := vq_406 n_ 1 c_ cu_ o_ tu_ F_ Sx20_) rfl rfl (by decide) (vc_406 n_ 1 c_ cu_ o_ tu_ F_ Sx20_ hIx21_ (by first | exact y160_ | exact f160_) (by omega) (by omega) (by first | (rw [y202_, f202_]; exact yct_) | (rw [f202_]; exact ct9_)) (by first | (rw [y204_, y185_, y106_, f204_, f185_, g106_]; exact hsz_) | (rw [f204_, f185_, g106_]; exact hsz_)) (by first | exact p78_.1 | exact k0_) (by first | exact p78_.2.1 | exact k1_) (by omega)) (fun u_ Sx29_ px32_ => ?_)
            obtain ⟨rfl, hIx30_, hFx31_, px32_⟩ := px32_
            have hFx33_ : ai_fr (sx_W vw_408) S0_ Sx29_ := ai_fr_tr hFx24_ (fr_le hFx31_ rfl)
            have p105_ := px32_
            refine sm_T_inc (a := 6) (z := 1) (v := tu_) (w := tu_ + 1) rfl rfl (by omega) (by omega) (by omega) ?_ -- pc_ 108
            refine sm_T_go 1 (c1 := (24, [some (.inr (.inr (some (13, 0)))), some (.inl n_), some (.inl c_), some (.inl cu_), some (.inl sz_), some (.inl o_), some (.inl (tu_ + 1)), some (.inl vx9_)], [], Sx29_)) rfl ?_
            refine sm_T_wk [some (.inr (.inr (some (13, 0)))), some (.inl n_), some (.inl c_), some (.inl cu_), some (.inl sz_), some (.inl o_), some (.inl (tu_ + 1)), none] (by exact ⟨rfl, rfl, rfl, rfl, rfl, rfl, rfl, trivial⟩) ?_
            refine ih_.2 o_ (tu_ + 1) Sx29_ hIx30_ hFx33_ ⟨?_, ?_, ?_, ?_, trivial⟩ ?_
            · omega
            · first | exact p105_.1 | exact p78_.1 | exact k0_
            · first | exact p105_.2.1 | exact p78_.2.1 | exact k1_
            · first | exact wf2_tr (wf2_tr k2_ p78_.2.2) p105_.2.2 | exact wf2_tr k2_ p105_.2.2 | exact wf2_tr k2_ p78_.2.2 | exact k2_
            · omega
set_option maxHeartbeats 2000000 in
set_option maxRecDepth 20000 in
theorem vc_408 {sc_ : Nat × (Nat → Int)} (n_ : Int) (c_ : Int) (cu_ : Int) (sz_ : Int) (F_ : Int) (S0_ : sm_S) (hI_ : gi S0_) (hf_ : S0_.2.2.1 160 0 (S0_.1 13 0 105).toNat = F_) (hn_ : 1 ≤ F_ ∧ F_ ≤ n_ ∧ n_ ≤ 1012) (hh_ : 0 ≤ c_ ∧ c_ ≤ 11 ∧ 0 ≤ cu_ ∧ cu_ < S0_.1 13 0 114 ∧ 1 ≤ sz_ ∧ sz_ ≤ 3) (hct_ : ctp (cnd9 n_ (S0_.2.2.1 202 0)) S0_) (hsz_ : S0_.2.2.1 204 0 cu_.toNat = S0_.2.2.1 185 0 (12 * S0_.1 13 0 106 + c_).toNat) (hw0_ : wyc F_ n_ S0_ (2 * n_)) (hw1_ : wyc F_ n_ S0_ (2 * n_ + 1)) : sm_T (mt_P sc_) 3 408 (0, [some (.inr (.inr (some (13, 0)))), some (.inl n_), some (.inl c_), some (.inl cu_), some (.inl sz_), none, none, none], [], S0_) (fun ro9_ => ∃ u_ S1_, ro9_ = (.inl u_, S1_, 0) ∧ vq_408 n_ c_ cu_ sz_ F_ S0_ u_ S1_) := by
  have hF_ : ai_fr (sx_W vw_408) S0_ S0_ := ai_fr_rf
  refine sm_T_go 2 (c1 := (3, [some (.inr (.inr (some (13, 0)))), some (.inl n_), some (.inl c_), some (.inl cu_), some (.inl sz_), some (.inl 0), none, none], [], S0_)) rfl ?_
  refine (vl_408 n_ c_ cu_ sz_ F_ S0_ hf_ hn_ hh_ hct_ hsz_ hw0_ hw1_ _).1 0 S0_ hI_ hF_ ⟨?_, ?_, ?_, ?_, trivial⟩ (Nat.lt_succ_self _)
  · omega
  · exact hw0_
  · exact hw1_
  · exact wf2_rf

/-- what making a_ literal costs, and how_ -/
def ned (S_ : sm_S) (w_ o_ : Int) : Prop := (S_.2.2.1 211 0 w_.toNat = 1 ∧ S_.2.2.1 206 0 o_.toNat + S_.1 13 0 108 < S_.2.2.1 206 0 w_.toNat ∧ S_.2.2.1 210 0 w_.toNat = S_.2.2.1 206 0 o_.toNat + S_.1 13 0 108) ∨ (S_.2.2.1 211 0 w_.toNat = 0 ∧ S_.2.2.1 210 0 w_.toNat = S_.2.2.1 206 0 w_.toNat)
def wok2 (F_ n_ : Int) (S_ : sm_S) : Prop := wyc F_ n_ S_ (2 * n_) ∧ wyc F_ n_ S_ (2 * n_ + 1) ∧ ned S_ (2 * n_) (2 * n_ + 1) ∧ ned S_ (2 * n_ + 1) (2 * n_)
def wf3 (n_ : Int) (S_ S'_ : sm_S) : Prop := wf2 n_ S_ S'_ ∧ ∀ j_, (j_ < 2 * n_.toNat ∨ 2 * n_.toNat + 2 ≤ j_) → S'_.2.2.1 210 0 j_ = S_.2.2.1 210 0 j_ ∧ S'_.2.2.1 211 0 j_ = S_.2.2.1 211 0 j_
def wal9 (F_ N_ : Int) (S_ : sm_S) : Prop := ∀ n_ : Int, F_ ≤ n_ → n_ < N_ → S_.2.2.1 202 0 n_.toNat = 1 → wok2 F_ n_ S_
theorem wok2_cg {F_ n_ m_ : Int} {S_ S'_ : sm_S} (hI_ : gi S'_) (h_ : wok2 F_ m_ S_) (g_ : wf3 n_ S_ S'_) (hm_ : 0 ≤ m_) (hn_ : m_ < n_) (e5_ : S'_.2.2.1 185 0 = S_.2.2.1 185 0) (e106_ : S'_.1 13 0 106 = S_.1 13 0 106) (e108_ : S'_.1 13 0 108 = S_.1 13 0 108) (e2_ : S'_.2.2.1 202 0 = S_.2.2.1 202 0) (e3_ : S'_.2.2.1 203 0 = S_.2.2.1 203 0) : wok2 F_ m_ S'_ := by
  have ec : ∀ x_ t_ : Int, 1 ≤ x_ → x_ < m_ → 0 ≤ t_ → t_ ≤ 1 → cst F_ S'_ x_ t_ = cst F_ S_ x_ t_ := fun x_ t_ a_ b_ c_ d_ => by
    unfold cst
    rw [e3_, e108_, (g_.2 (2 * x_ + t_).toNat (by omega)).1]
  have q_ : ∀ l_ : Int, l_ = 2 * m_ ∨ l_ = 2 * m_ + 1 → wyc F_ m_ S_ l_ → wyc F_ m_ S'_ l_ := fun l_ hl_ k_ => by
    have w_ := g_.1.1 l_.toNat (by omega)
    exact wyc_cg hI_ k_ (by omega) w_.1 w_.2.1 w_.2.2 (fun k_ k0_ k1_ => g_.1.2 _ (by omega)) e5_ e106_ e2_ ec
  have r_ : ∀ l_ o_ : Int, (l_ = 2 * m_ ∨ l_ = 2 * m_ + 1) → (o_ = 2 * m_ ∨ o_ = 2 * m_ + 1) → ned S_ l_ o_ → ned S'_ l_ o_ := fun l_ o_ hl_ ho_ k_ => by
    unfold ned
    rw [(g_.2 l_.toNat (by omega)).1, (g_.2 l_.toNat (by omega)).2, (g_.1.1 l_.toNat (by omega)).1, (g_.1.1 o_.toNat (by omega)).1, e108_]
    exact k_
  exact ⟨q_ _ (Or.inl rfl) h_.1, q_ _ (Or.inr rfl) h_.2.1, r_ _ _ (Or.inl rfl) (Or.inr rfl) h_.2.2.1, r_ _ _ (Or.inr rfl) (Or.inl rfl) h_.2.2.2⟩
/-! M_.findWays -/
def vw_407 : sx_Wl := ([(13, 114), (13, 123), (13, 127)], [204, 205, 206, 207, 208, 209, 210, 211, 212, 213, 214, 215], [])
def vq_407 (n_ : Int) (F_ : Int) (N_ : Int) (S0_ : sm_S) (u_ : Option sm_V) (S1_ : sm_S) : Prop := u_ = none ∧ gi S1_ ∧ ai_fr (sx_W vw_407) S0_ S1_ ∧ (wok2 F_ n_ S1_ ∧ wf3 n_ S0_ S1_)
set_option maxHeartbeats 4000000 in
set_option maxRecDepth 20000 in
theorem vl_407 {sc_ : Nat × (Nat → Int)} (n_ : Int) (F_ : Int) (N_ : Int) (S0_ : sm_S) (hf_ : S0_.2.2.1 160 0 (S0_.1 13 0 105).toNat = F_) (hn_ : 1 ≤ F_ ∧ F_ ≤ n_ ∧ n_ < N_ ∧ N_ ≤ 1013) (hw_ : S0_.2.2.1 202 0 n_.toNat = 1) (hl_ : lgn F_ N_ S0_) : ∀ nn_ : Nat, (∀ (u_ : Int) (S_ : sm_S), gi S_ → ai_fr (sx_W vw_407) S0_ S_ → ((0 ≤ u_ ∧ u_ ≤ 64) ∧ (wyc F_ n_ S_ (2 * n_)) ∧ (wyc F_ n_ S_ (2 * n_ + 1)) ∧ (wf2 n_ S0_ S_) ∧ (ctp (cnd9 n_ (S0_.2.2.1 202 0)) S_) ∧ (S_.2.2.1 210 0 = S0_.2.2.1 210 0 ∧ S_.2.2.1 211 0 = S0_.2.2.1 211 0) ∧ True) → ((90000 - u_).toNat) < nn_ → sm_T (mt_P sc_) 4 407 (31, [some (.inr (.inr (some (13, 0)))), some (.inl n_), some (.inl u_), none, none], [], S_) (fun ro9_ => ∃ u_ S1_, ro9_ = (.inl u_, S1_, 0) ∧ vq_407 n_ F_ N_ S0_ u_ S1_)) ∧ (∀ (c_ : Int) (S_ : sm_S), gi S_ → ai_fr (sx_W vw_407) S0_ S_ → ((0 ≤ c_ ∧ c_ ≤ 12) ∧ (wyc F_ n_ S_ (2 * n_)) ∧ (wyc F_ n_ S_ (2 * n_ + 1)) ∧ (wf2 n_ S0_ S_) ∧ (ctp (cnd9 n_ (S0_.2.2.1 202 0)) S_) ∧ (S_.2.2.1 210 0 = S0_.2.2.1 210 0 ∧ S_.2.2.1 211 0 = S0_.2.2.1 211 0) ∧ True) → ((1000 * (50 - c_) + 900).toNat) < nn_ → sm_T (mt_P sc_) 4 407 (59, [some (.inr (.inr (some (13, 0)))), some (.inl n_), some (.inl c_), none, none], [], S_) (fun ro9_ => ∃ u_ S1_, ro9_ = (.inl u_, S1_, 0) ∧ vq_407 n_ F_ N_ S0_ u_ S1_)) ∧ (∀ (c_ : Int) (sz_ : Int) (u_ : Int) (S_ : sm_S), gi S_ → ai_fr (sx_W vw_407) S0_ S_ → ((0 ≤ c_ ∧ c_ ≤ 11 ∧ 0 ≤ u_ ∧ u_ ≤ 64 ∧ sz_ = S_.2.2.1 185 0 (12 * S_.1 13 0 106 + c_).toNat) ∧ (wyc F_ n_ S_ (2 * n_)) ∧ (wyc F_ n_ S_ (2 * n_ + 1)) ∧ (wf2 n_ S0_ S_) ∧ (ctp (cnd9 n_ (S0_.2.2.1 202 0)) S_) ∧ (S_.2.2.1 210 0 = S0_.2.2.1 210 0 ∧ S_.2.2.1 211 0 = S0_.2.2.1 211 0) ∧ True) → ((1000 * (50 - c_) + 800 - u_).toNat) < nn_ → sm_T (mt_P sc_) 4 407 (90, [some (.inr (.inr (some (13, 0)))), some (.inl n_), some (.inl c_), some (.inl sz_), some (.inl u_)], [], S_) (fun ro9_ => ∃ u_ S1_, ro9_ = (.inl u_, S1_, 0) ∧ vq_407 n_ F_ N_ S0_ u_ S1_)) ∧ (∀ (t_ : Int) (S_ : sm_S), gi S_ → ai_fr (sx_W vw_407) S0_ S_ → ((0 ≤ t_ ∧ t_ ≤ 2) ∧ (wyc F_ n_ S_ (2 * n_) ∧ wyc F_ n_ S_ (2 * n_ + 1) ∧ ∀ s9_ : Int, 0 ≤ s9_ → s9_ < t_ → ned S_ (2 * n_ + s9_) (2 * n_ + 1 - s9_)) ∧ (wf3 n_ S0_ S_) ∧ True) → ((500 - t_).toNat) < nn_ → sm_T (mt_P sc_) 4 407 (133, [some (.inr (.inr (some (13, 0)))), some (.inl n_), some (.inl t_), none, none], [], S_) (fun ro9_ => ∃ u_ S1_, ro9_ = (.inl u_, S1_, 0) ∧ vq_407 n_ F_ N_ S0_ u_ S1_)) := by
  intro nn_
  induction nn_ with
  | zero => exact ⟨fun _ _ _ _ _ h_ => absurd h_ (Nat.not_lt_zero _), fun _ _ _ _ _ h_ => absurd h_ (Nat.not_lt_zero _), fun _ _ _ _ _ _ _ h_ => absurd h_ (Nat.not_lt_zero _), fun _ _ _ _ _ h_ => absurd h_ (Nat.not_lt_zero _)⟩
  | succ nn_ ih_ =>
    refine ⟨?_, ?_, ?_, ?_⟩
    · rintro u_ S_ hI_ hF_ ⟨h0_, k0_, k1_, k2_, hct_, h4_, -⟩ hm_
      have f160_ : S_.2.2.1 160 0 (S_.1 13 0 105).toNat = F_ := by (rw [hF_.1 13 0 105 rfl, fr_arr (t := 160) (i := 0) hF_ rfl]; exact hf_)
      have f202_ : S_.2.2.1 202 0 = S0_.2.2.1 202 0 := fr_arr hF_ rfl
      have b114_ : 0 ≤ S_.1 13 0 114 ∧ S_.1 13 0 114 ≤ 64 := hI_.1 13 0 114 rfl
      have b106_ : 0 ≤ S_.1 13 0 106 ∧ S_.1 13 0 106 ≤ 2 := hI_.1 13 0 106 rfl
      have bx1_ : 0 ≤ S_.1 13 0 114 ∧ S_.1 13 0 114 ≤ 64 := hI_.1 13 0 114 rfl
      refine sm_T_go 3 (c1 := (36, [some (.inr (.inr (some (13, 0)))), some (.inl n_), some (.inl u_), none, none], [.inl (S_.1 13 0 114), .inl u_], S_)) rfl ?_
      refine sm_T_br (a := 3) (z := 21) rfl (fun cx2_ => ?_) (fun cx2_ => ?_)
      · have cx2_ : (S_.1 13 0 114) ≤ u_ := of_decide_eq_true cx2_
        refine sm_T_go 2 (c1 := (59, [some (.inr (.inr (some (13, 0)))), some (.inl n_), some (.inl 0), none, none], [], S_)) rfl ?_
        refine ih_.2.1 0 S_ hI_ hF_ ⟨?_, ?_, ?_, ?_, ?_, ?_, trivial⟩ ?_
        · omega
        · exact k0_
        · exact k1_
        · exact k2_
        · exact hct_
        · exact h4_
        · omega
      · have cx2_ : ¬ ((S_.1 13 0 114) ≤ u_) := of_decide_eq_false cx2_
        refine sm_T_go 6 (c1 := (47, [some (.inr (.inr (some (13, 0)))), some (.inl n_), some (.inl u_), none, none], [.inl u_, .inl n_, .inr (.inr (some (13, 0))), .inl u_, .inr (.inr (some (215, 0)))], S_)) rfl ?_
        refine sm_T_cal (d1 := 1) (Q1 := vq_402 n_ u_ S_) rfl rfl (by decide) (vc_402 n_ u_ S_ hI_ (by omega) (by omega)) (fun u_ Sx3_ px6_ => ?_)
        obtain ⟨vx8_, rfl, hIx4_, hFx5_, px6_⟩ := px6_
        have hFx7_ : ai_fr (sx_W vw_407) S0_ Sx3_ := ai_fr_tr hF_ (fr_le hFx5_ rfl)
        have ex9_ : Sx3_.1 13 0 114 = S_.1 13 0 114 := hFx5_.1 13 0 114 rfl
        have e47_ := px6_
        have w47_ : ∀ l9_ : Int, 0 ≤ l9_ → wyc F_ n_ S_ l9_ → wyc F_ n_ Sx3_ l9_ := fun l9_ u0_ u1_ => wyc_fr hIx4_ u1_ u0_ hFx5_
        have c47_ : ctp (cnd9 n_ (S0_.2.2.1 202 0)) Sx3_ := ctp_fr hct_ hFx5_
        have f47_ : wf2 n_ S_ Sx3_ := wf2_fr hFx5_
        have y47_ : Sx3_.2.2.1 210 0 = S_.2.2.1 210 0 := fr_arr hFx5_ rfl
        have z47_ : Sx3_.2.2.1 211 0 = S_.2.2.1 211 0 := fr_arr hFx5_ rfl
        refine sm_T_iast (n := 64) rfl rfl (by omega) (by omega) ?_
        have hIx10_ : gi (sm_aI Sx3_ 215 0 u_.toNat vx8_) := gi_aI hIx4_ (show 0 ≤ vx8_ ∧ vx8_ ≤ 255 from ⟨by omega, by omega⟩)
        have hFx11_ : ai_fr (sx_W vw_407) S0_ (sm_aI Sx3_ 215 0 u_.toNat vx8_) := ai_fr_tr hFx7_ (ai_fr_aI rfl)
        refine sm_T_inc (a := 2) (z := 1) (v := u_) (w := u_ + 1) rfl rfl (by omega) (by omega) (by omega) ?_ -- pc_ 51
        refine sm_T_go 1 (c1 := (31, [some (.inr (.inr (some (13, 0)))), some (.inl n_), some (.inl (u_ + 1)), none, none], [], sm_aI Sx3_ 215 0 u_.toNat vx8_)) rfl ?_
        refine ih_.1 (u_ + 1) (sm_aI Sx3_ 215 0 u_.toNat vx8_) hIx10_ hFx11_ ⟨?_, ?_, ?_, ?_, ?_, ?_, trivial⟩ ?_
        · omega
        · exact wyc_fr (w_ := ([], [215], [])) hIx10_ (w47_ _ (by omega) k0_) (by omega) (ai_fr_aI rfl)
        · exact wyc_fr (w_ := ([], [215], [])) hIx10_ (w47_ _ (by omega) k1_) (by omega) (ai_fr_aI rfl)
        · exact wf2_tr (wf2_tr k2_ f47_) (wf2_fr (w_ := ([], [215], [])) (ai_fr_aI rfl))
        · exact ctp_fr (w_ := ([], [215], [])) c47_ (ai_fr_aI rfl)
        · exact ⟨by (funext j9_; (try simp only [rd_eq, rd_ne, rf_eq, rf_nk, rf_nt, rd_fa, rd_af, rd_fl, rd_al, rd_lf, rd_la, rd_leq, rd_lne, rd_fr, rd_ar, ne_eq, Nat.reduceEqDiff, not_false_eq_true]); rw [y47_, h4_.1]), by (funext j9_; (try simp only [rd_eq, rd_ne, rf_eq, rf_nk, rf_nt, rd_fa, rd_af, rd_fl, rd_al, rd_lf, rd_la, rd_leq, rd_lne, rd_fr, rd_ar, ne_eq, Nat.reduceEqDiff, not_false_eq_true]); rw [z47_, h4_.2])⟩
        · omega
    · rintro c_ S_ hI_ hF_ ⟨h0_, k0_, k1_, k2_, hct_, h4_, -⟩ hm_
      have f160_ : S_.2.2.1 160 0 (S_.1 13 0 105).toNat = F_ := by (rw [hF_.1 13 0 105 rfl, fr_arr (t := 160) (i := 0) hF_ rfl]; exact hf_)
      have f202_ : S_.2.2.1 202 0 = S0_.2.2.1 202 0 := fr_arr hF_ rfl
      have b114_ : 0 ≤ S_.1 13 0 114 ∧ S_.1 13 0 114 ≤ 64 := hI_.1 13 0 114 rfl
      have b106_ : 0 ≤ S_.1 13 0 106 ∧ S_.1 13 0 106 ≤ 2 := hI_.1 13 0 106 rfl
      have bx1_ : 0 ≤ S_.1 13 0 106 ∧ S_.1 13 0 106 ≤ 2 := hI_.1 13 0 106 rfl
      refine sm_T_go 5 (c1 := (68, [some (.inr (.inr (some (13, 0)))), some (.inl n_), some (.inl c_), none, none], [.inl (S_.1 13 0 106), .inr (.inr (some (184, 0))), .inl c_], S_)) rfl ?_
      refine sm_T_iald (n := 3) rfl rfl (by omega) (by omega) ?_
      have bx2_ : 0 ≤ S_.2.2.1 184 0 (S_.1 13 0 106).toNat ∧ S_.2.2.1 184 0 (S_.1 13 0 106).toNat ≤ 12 := hI_.2 184 0 _
      refine sm_T_br (a := 3) (z := 62) rfl (fun cx3_ => ?_) (fun cx3_ => ?_)
      · have cx3_ : (S_.2.2.1 184 0 (S_.1 13 0 106).toNat) ≤ c_ := of_decide_eq_true cx3_
        refine sm_T_go 2 (c1 := (133, [some (.inr (.inr (some (13, 0)))), some (.inl n_), some (.inl 0), none, none], [], S_)) rfl ?_
        refine ih_.2.2.2 0 S_ hI_ hF_ ⟨?_, ?_, ?_, trivial⟩ ?_
        · omega
        · exact ⟨k0_, k1_, fun s9_ u0_ u1_ => absurd u1_ (by omega)⟩
        · exact ⟨k2_, fun j9_ _ => ⟨congrFun h4_.1 j9_, congrFun h4_.2 j9_⟩⟩
        · omega
      · have cx3_ : ¬ ((S_.2.2.1 184 0 (S_.1 13 0 106).toNat) ≤ c_) := of_decide_eq_false cx3_
        refine sm_T_go 5 (c1 := (82, [some (.inr (.inr (some (13, 0)))), some (.inl n_), some (.inl c_), none, none], [.inl (S_.1 13 0 106), .inl 12, .inr (.inr (some (185, 0)))], S_)) rfl ?_
        refine sm_T_bin (w := 12 * (S_.1 13 0 106)) rfl (bi_mul (by omega) (by omega) (by omega)) ?_ -- pc_ 82
        refine sm_T_go 1 (c1 := (84, [some (.inr (.inr (some (13, 0)))), some (.inl n_), some (.inl c_), none, none], [.inl c_, .inl (12 * (S_.1 13 0 106)), .inr (.inr (some (185, 0)))], S_)) rfl ?_
        refine sm_T_bin (w := 12 * (S_.1 13 0 106) + c_) rfl (bi_add (by omega) (by omega) (by omega)) ?_ -- pc_ 84
        refine sm_T_iald (n := 36) rfl rfl (by omega) (by omega) ?_
        have bx4_ : 0 ≤ S_.2.2.1 185 0 (12 * (S_.1 13 0 106) + c_).toNat ∧ S_.2.2.1 185 0 (12 * (S_.1 13 0 106) + c_).toNat ≤ 3 := hI_.2 185 0 _
        refine sm_T_go 3 (c1 := (90, [some (.inr (.inr (some (13, 0)))), some (.inl n_), some (.inl c_), some (.inl (S_.2.2.1 185 0 (12 * (S_.1 13 0 106) + c_).toNat)), some (.inl 0)], [], S_)) rfl ?_
        refine ih_.2.2.1 c_ (S_.2.2.1 185 0 (12 * (S_.1 13 0 106) + c_).toNat) 0 S_ hI_ hF_ ⟨?_, ?_, ?_, ?_, ?_, ?_, trivial⟩ ?_
        · omega
        · exact k0_
        · exact k1_
        · exact k2_
        · exact hct_
        · exact h4_
        · omega
    · rintro c_ sz_ u_ S_ hI_ hF_ ⟨h0_, k0_, k1_, k2_, hct_, h4_, -⟩ hm_
      have f160_ : S_.2.2.1 160 0 (S_.1 13 0 105).toNat = F_ := by (rw [hF_.1 13 0 105 rfl, fr_arr (t := 160) (i := 0) hF_ rfl]; exact hf_)
      have f202_ : S_.2.2.1 202 0 = S0_.2.2.1 202 0 := fr_arr hF_ rfl
      have b114_ : 0 ≤ S_.1 13 0 114 ∧ S_.1 13 0 114 ≤ 64 := hI_.1 13 0 114 rfl
      have b106_ : 0 ≤ S_.1 13 0 106 ∧ S_.1 13 0 106 ≤ 2 := hI_.1 13 0 106 rfl
      have bx1_ : 0 ≤ S_.1 13 0 114 ∧ S_.1 13 0 114 ≤ 64 := hI_.1 13 0 114 rfl
      refine sm_T_go 3 (c1 := (96, [some (.inr (.inr (some (13, 0)))), some (.inl n_), some (.inl c_), some (.inl sz_), some (.inl u_)], [.inl (S_.1 13 0 114), .inl u_], S_)) rfl ?_
      refine sm_T_br (a := 3) (z := 29) rfl (fun cx2_ => ?_) (fun cx2_ => ?_)
      · have cx2_ : (S_.1 13 0 114) ≤ u_ := of_decide_eq_true cx2_
        refine sm_T_inc (a := 2) (z := 1) (v := c_) (w := c_ + 1) rfl rfl (by omega) (by omega) (by omega) ?_ -- pc_ 125
        refine sm_T_go 1 (c1 := (59, [some (.inr (.inr (some (13, 0)))), some (.inl n_), some (.inl (c_ + 1)), some (.inl sz_), some (.inl u_)], [], S_)) rfl ?_
        refine sm_T_wk [some (.inr (.inr (some (13, 0)))), some (.inl n_), some (.inl (c_ + 1)), none, none] (by exact ⟨rfl, rfl, rfl, trivial⟩) ?_
        refine ih_.2.1 (c_ + 1) S_ hI_ hF_ ⟨?_, ?_, ?_, ?_, ?_, ?_, trivial⟩ ?_
        · omega
        · exact k0_
        · exact k1_
        · exact k2_
        · exact hct_
        · exact h4_
        · omega
      · have cx2_ : ¬ ((S_.1 13 0 114) ≤ u_) := of_decide_eq_false cx2_
        refine sm_T_go 3 (c1 := (105, [some (.inr (.inr (some (13, 0)))), some (.inl n_), some (.inl c_), some (.inl sz_), some (.inl u_)], [.inl u_, .inr (.inr (some (204, 0)))], S_)) rfl ?_
        refine sm_T_iald (n := 64) rfl rfl (by omega) (by omega) ?_
        have bx3_ : 0 ≤ S_.2.2.1 204 0 u_.toNat ∧ S_.2.2.1 204 0 u_.toNat ≤ 3 := hI_.2 204 0 _
        refine sm_T_go 1 (c1 := (107, [some (.inr (.inr (some (13, 0)))), some (.inl n_), some (.inl c_), some (.inl sz_), some (.inl u_)], [.inl sz_, .inl (S_.2.2.1 204 0 u_.toNat)], S_)) rfl ?_
        refine sm_T_br (a := 1) (z := 12) rfl (fun cx4_ => ?_) (fun cx4_ => ?_)
        · have cx4_ : (S_.2.2.1 204 0 u_.toNat) ≠ sz_ := of_decide_eq_true cx4_
          refine sm_T_inc (a := 4) (z := 1) (v := u_) (w := u_ + 1) rfl rfl (by omega) (by omega) (by omega) ?_ -- pc_ 119
          refine sm_T_go 1 (c1 := (90, [some (.inr (.inr (some (13, 0)))), some (.inl n_), some (.inl c_), some (.inl sz_), some (.inl (u_ + 1))], [], S_)) rfl ?_
          refine ih_.2.2.1 c_ sz_ (u_ + 1) S_ hI_ hF_ ⟨?_, ?_, ?_, ?_, ?_, ?_, trivial⟩ ?_
          · first | omega | (rw [x116_, t116_]; omega)
          · first | exact p116_.1 | exact k0_
          · first | exact p116_.2.1 | exact k1_
          · first | exact wf2_tr k2_ p116_.2.2 | exact k2_
          · first | exact c116_ | exact hct_
          · first | exact ⟨y116_.trans h4_.1, z116_.trans h4_.2⟩ | exact h4_
          · omega
        · have cx4_ : ¬ ((S_.2.2.1 204 0 u_.toNat) ≠ sz_) := of_decide_eq_false cx4_
          have s9_ := (hct_ u_ (by omega) (by omega)).1
          have s8_ : S_.2.2.1 204 0 u_.toNat ≤ 3 := (hI_.2 204 0 _).2
          refine sm_T_go 5 (c1 := (116, [some (.inr (.inr (some (13, 0)))), some (.inl n_), some (.inl c_), some (.inl sz_), some (.inl u_)], [.inl sz_, .inl u_, .inl c_, .inl n_, .inr (.inr (some (13, 0)))], S_)) rfl ?_
          refine sm_T_cal (d1 := 3) (Q1 := vq_408 n_ c_ u_ sz_ F_ S_) rfl rfl (by decide) (vc_408 n_ c_ u_ sz_ F_ S_ hI_ (by exact f160_) (by omega) (by omega) (by (rw [f202_]; exact hct_)) (by omega) (by exact k0_) (by exact k1_)) (fun u_ Sx5_ px8_ => ?_)
          obtain ⟨rfl, hIx6_, hFx7_, px8_⟩ := px8_
          have hFx9_ : ai_fr (sx_W vw_407) S0_ Sx5_ := ai_fr_tr hF_ (fr_le hFx7_ rfl)
          have ex10_ : Sx5_.1 13 0 114 = S_.1 13 0 114 := hFx7_.1 13 0 114 rfl
          have p116_ := px8_
          have c116_ : ctp (cnd9 n_ (S0_.2.2.1 202 0)) Sx5_ := ctp_fr hct_ hFx7_
          have y116_ : Sx5_.2.2.1 210 0 = S_.2.2.1 210 0 := fr_arr hFx7_ rfl
          have z116_ : Sx5_.2.2.1 211 0 = S_.2.2.1 211 0 := fr_arr hFx7_ rfl
          have x116_ : Sx5_.2.2.1 185 0 = S_.2.2.1 185 0 := fr_arr hFx7_ rfl
          have t116_ := hFx7_.1 13 0 106 rfl
          refine sm_T_inc (a := 4) (z := 1) (v := u_) (w := u_ + 1) rfl rfl (by omega) (by omega) (by omega) ?_ -- pc_ 119
          refine sm_T_go 1 (c1 := (90, [some (.inr (.inr (some (13, 0)))), some (.inl n_), some (.inl c_), some (.inl sz_), some (.inl (u_ + 1))], [], Sx5_)) rfl ?_
          refine ih_.2.2.1 c_ sz_ (u_ + 1) Sx5_ hIx6_ hFx9_ ⟨?_, ?_, ?_, ?_, ?_, ?_, trivial⟩ ?_
          · first | omega | (rw [x116_, t116_]; omega)
          · first | exact p116_.1 | exact k0_
          · first | exact p116_.2.1 | exact k1_
          · first | exact wf2_tr k2_ p116_.2.2 | exact k2_
          · first | exact c116_ | exact hct_
          · first | exact ⟨y116_.trans h4_.1, z116_.trans h4_.2⟩ | exact h4_
          · omega
    · rintro t_ S_ hI_ hF_ ⟨h0_, hz_, h5_, -⟩ hm_
      have f160_ : S_.2.2.1 160 0 (S_.1 13 0 105).toNat = F_ := by (rw [hF_.1 13 0 105 rfl, fr_arr (t := 160) (i := 0) hF_ rfl]; exact hf_)
      have f202_ : S_.2.2.1 202 0 = S0_.2.2.1 202 0 := fr_arr hF_ rfl
      have b114_ : 0 ≤ S_.1 13 0 114 ∧ S_.1 13 0 114 ≤ 64 := hI_.1 13 0 114 rfl
      have b106_ : 0 ≤ S_.1 13 0 106 ∧ S_.1 13 0 106 ≤ 2 := hI_.1 13 0 106 rfl
      have b108_ : 0 ≤ S_.1 13 0 108 ∧ S_.1 13 0 108 ≤ 1000000000 := hI_.1 13 0 108 rfl
      have c0_ : 0 ≤ S_.2.2.1 206 0 (2 * n_).toNat ∧ S_.2.2.1 206 0 (2 * n_).toNat ≤ 1000000000 := hI_.2 206 0 _
      have c1_ : 0 ≤ S_.2.2.1 206 0 (2 * n_ + 1).toNat ∧ S_.2.2.1 206 0 (2 * n_ + 1).toNat ≤ 1000000000 := hI_.2 206 0 _
      refine sm_T_go 2 (c1 := (135, [some (.inr (.inr (some (13, 0)))), some (.inl n_), some (.inl t_), none, none], [.inl 2, .inl t_], S_)) rfl ?_
      refine sm_T_br (a := 3) (z := 101) rfl (fun cx1_ => ?_) (fun cx1_ => ?_)
      · have cx1_ : 2 ≤ t_ := of_decide_eq_true cx1_
        refine sm_T_rv rfl ⟨_, _, rfl, rfl, hI_, hF_, ?_⟩
        have n0_ := hz_.2.2 0 (by omega) (by omega)
        have n1_ := hz_.2.2 1 (by omega) (by omega)
        rw [show 2 * n_ + 0 = 2 * n_ by omega, show 2 * n_ + 1 - 0 = 2 * n_ + 1 by omega] at n0_
        rw [show 2 * n_ + 1 - 1 = 2 * n_ by omega] at n1_
        exact ⟨⟨hz_.1, hz_.2.1, n0_, n1_⟩, h5_⟩
      · have cx1_ : ¬ (2 ≤ t_) := of_decide_eq_false cx1_
        have cX_ : 0 ≤ S_.2.2.1 206 0 (2 * n_ - t_ + 1).toNat ∧ S_.2.2.1 206 0 (2 * n_ - t_ + 1).toNat ≤ 1000000000 := hI_.2 206 0 _
        have cZ_ : 0 ≤ S_.2.2.1 206 0 (2 * n_ + t_).toNat ∧ S_.2.2.1 206 0 (2 * n_ + t_).toNat ≤ 1000000000 := hI_.2 206 0 _
        have L9_ : l_0 (l_i2l (S_.2.2.1 206 0 (2 * n_ - t_ + 1).toNat)) (l_i2l (S_.1 13 0 108)) = S_.2.2.1 206 0 (2 * n_ - t_ + 1).toNat + S_.1 13 0 108 := by (rw [l_i2l_s (x := S_.2.2.1 206 0 (2 * n_ - t_ + 1).toNat) (by omega) (by omega)]; exact l_0_s (by omega) (by omega))
        have L8_ : l_i2l (S_.2.2.1 206 0 (2 * n_ + t_).toNat) = S_.2.2.1 206 0 (2 * n_ + t_).toNat := l_i2l_s (by omega) (by omega)
        refine sm_T_go 4 (c1 := (144, [some (.inr (.inr (some (13, 0)))), some (.inl n_), some (.inl t_), none, none], [.inl n_, .inl 2, .inr (.inr (some (206, 0)))], S_)) rfl ?_
        refine sm_T_bin (w := 2 * n_) rfl (bi_mul (by omega) (by omega) (by omega)) ?_ -- pc_ 144
        refine sm_T_go 1 (c1 := (146, [some (.inr (.inr (some (13, 0)))), some (.inl n_), some (.inl t_), none, none], [.inl 1, .inl (2 * n_), .inr (.inr (some (206, 0)))], S_)) rfl ?_
        refine sm_T_bin (w := 2 * n_ + 1) rfl (bi_add (by omega) (by omega) (by omega)) ?_ -- pc_ 146
        refine sm_T_go 1 (c1 := (148, [some (.inr (.inr (some (13, 0)))), some (.inl n_), some (.inl t_), none, none], [.inl t_, .inl (2 * n_ + 1), .inr (.inr (some (206, 0)))], S_)) rfl ?_
        refine sm_T_bin (w := 2 * n_ - t_ + 1) rfl (bi_sub (by omega) (by omega) (by omega)) ?_ -- pc_ 148
        refine sm_T_iald (n := 4096) rfl rfl (by omega) (by omega) ?_
        have bx2_ : 0 ≤ S_.2.2.1 206 0 (2 * n_ - t_ + 1).toNat ∧ S_.2.2.1 206 0 (2 * n_ - t_ + 1).toNat ≤ 1000000000 := hI_.2 206 0 _
        have bx3_ : 0 ≤ S_.1 13 0 108 ∧ S_.1 13 0 108 ≤ 1000000000 := hI_.1 13 0 108 rfl
        refine sm_T_go 10 (c1 := (164, [some (.inr (.inr (some (13, 0)))), some (.inl n_), some (.inl t_), some (.inr (.inl (l_0 ((l_i2l (S_.2.2.1 206 0 (2 * n_ - t_ + 1).toNat))) ((l_i2l (S_.1 13 0 108)))))), none], [.inl n_, .inl 2, .inr (.inr (some (211, 0)))], S_)) rfl ?_
        refine sm_T_bin (w := 2 * n_) rfl (bi_mul (by omega) (by omega) (by omega)) ?_ -- pc_ 164
        refine sm_T_go 1 (c1 := (166, [some (.inr (.inr (some (13, 0)))), some (.inl n_), some (.inl t_), some (.inr (.inl (l_0 ((l_i2l (S_.2.2.1 206 0 (2 * n_ - t_ + 1).toNat))) ((l_i2l (S_.1 13 0 108)))))), none], [.inl t_, .inl (2 * n_), .inr (.inr (some (211, 0)))], S_)) rfl ?_
        refine sm_T_bin (w := 2 * n_ + t_) rfl (bi_add (by omega) (by omega) (by omega)) ?_ -- pc_ 166
        refine sm_T_go 5 (c1 := (174, [some (.inr (.inr (some (13, 0)))), some (.inl n_), some (.inl t_), some (.inr (.inl (l_0 ((l_i2l (S_.2.2.1 206 0 (2 * n_ - t_ + 1).toNat))) ((l_i2l (S_.1 13 0 108)))))), none], [.inl n_, .inl 2, .inr (.inr (some (206, 0))), .inr (.inl (l_0 ((l_i2l (S_.2.2.1 206 0 (2 * n_ - t_ + 1).toNat))) ((l_i2l (S_.1 13 0 108))))), .inl (2 * n_ + t_), .inr (.inr (some (211, 0)))], S_)) rfl ?_
        refine sm_T_bin (w := 2 * n_) rfl (bi_mul (by omega) (by omega) (by omega)) ?_ -- pc_ 174
        refine sm_T_go 1 (c1 := (176, [some (.inr (.inr (some (13, 0)))), some (.inl n_), some (.inl t_), some (.inr (.inl (l_0 ((l_i2l (S_.2.2.1 206 0 (2 * n_ - t_ + 1).toNat))) ((l_i2l (S_.1 13 0 108)))))), none], [.inl t_, .inl (2 * n_), .inr (.inr (some (206, 0))), .inr (.inl (l_0 ((l_i2l (S_.2.2.1 206 0 (2 * n_ - t_ + 1).toNat))) ((l_i2l (S_.1 13 0 108))))), .inl (2 * n_ + t_), .inr (.inr (some (211, 0)))], S_)) rfl ?_
        refine sm_T_bin (w := 2 * n_ + t_) rfl (bi_add (by omega) (by omega) (by omega)) ?_ -- pc_ 176
        refine sm_T_iald (n := 4096) rfl rfl (by omega) (by omega) ?_
        have bx4_ : 0 ≤ S_.2.2.1 206 0 (2 * n_ + t_).toNat ∧ S_.2.2.1 206 0 (2 * n_ + t_).toNat ≤ 1000000000 := hI_.2 206 0 _
        refine sm_T_go 2 (c1 := (180, [some (.inr (.inr (some (13, 0)))), some (.inl n_), some (.inl t_), some (.inr (.inl (l_0 ((l_i2l (S_.2.2.1 206 0 (2 * n_ - t_ + 1).toNat))) ((l_i2l (S_.1 13 0 108)))))), none], [.inl (sm_lcmp ((l_0 ((l_i2l (S_.2.2.1 206 0 (2 * n_ - t_ + 1).toNat))) ((l_i2l (S_.1 13 0 108))))) ((l_i2l (S_.2.2.1 206 0 (2 * n_ + t_).toNat)))), .inl (2 * n_ + t_), .inr (.inr (some (211, 0)))], S_)) rfl ?_
        refine sm_T_b0 (a := 3) (z := 7) rfl (fun cx5_ => ?_) (fun cx5_ => ?_)
        · have cx5_ : 0 ≤ (sm_lcmp ((l_0 ((l_i2l (S_.2.2.1 206 0 (2 * n_ - t_ + 1).toNat))) ((l_i2l (S_.1 13 0 108))))) ((l_i2l (S_.2.2.1 206 0 (2 * n_ + t_).toNat)))) := of_decide_eq_true cx5_
          have Q9_ : ¬ (S_.2.2.1 206 0 (2 * n_ - t_ + 1).toNat + S_.1 13 0 108 < S_.2.2.1 206 0 (2 * n_ + t_).toNat) := fun q8_ => by (have q9_ := lcmp_lt.mpr (show l_0 (l_i2l (S_.2.2.1 206 0 (2 * n_ - t_ + 1).toNat)) (l_i2l (S_.1 13 0 108)) < l_i2l (S_.2.2.1 206 0 (2 * n_ + t_).toNat) by (rw [L9_, L8_]; exact q8_)); omega)
          refine sm_T_go 1 (c1 := (188, [some (.inr (.inr (some (13, 0)))), some (.inl n_), some (.inl t_), some (.inr (.inl (l_0 ((l_i2l (S_.2.2.1 206 0 (2 * n_ - t_ + 1).toNat))) ((l_i2l (S_.1 13 0 108)))))), none], [.inl 0, .inl (2 * n_ + t_), .inr (.inr (some (211, 0)))], S_)) rfl ?_
          refine sm_T_zas1 (n := 4096) rfl rfl (by omega) (by omega) (by omega) ?_
          have hIx6_ : gi (sm_aI S_ 211 0 (2 * n_ + t_).toNat 0) := gi_aI hI_ (show 0 ≤ 0 ∧ 0 ≤ 1 from ⟨by omega, by omega⟩)
          have hFx7_ : ai_fr (sx_W vw_407) S0_ (sm_aI S_ 211 0 (2 * n_ + t_).toNat 0) := ai_fr_tr hF_ (ai_fr_aI rfl)
          refine sm_T_go 4 (c1 := (195, [some (.inr (.inr (some (13, 0)))), some (.inl n_), some (.inl t_), some (.inr (.inl (l_0 ((l_i2l (S_.2.2.1 206 0 (2 * n_ - t_ + 1).toNat))) ((l_i2l (S_.1 13 0 108)))))), none], [.inl n_, .inl 2, .inr (.inr (some (210, 0)))], sm_aI S_ 211 0 (2 * n_ + t_).toNat 0)) rfl ?_
          refine sm_T_bin (w := 2 * n_) rfl (bi_mul (by omega) (by omega) (by omega)) ?_ -- pc_ 195
          refine sm_T_go 1 (c1 := (197, [some (.inr (.inr (some (13, 0)))), some (.inl n_), some (.inl t_), some (.inr (.inl (l_0 ((l_i2l (S_.2.2.1 206 0 (2 * n_ - t_ + 1).toNat))) ((l_i2l (S_.1 13 0 108)))))), none], [.inl t_, .inl (2 * n_), .inr (.inr (some (210, 0)))], sm_aI S_ 211 0 (2 * n_ + t_).toNat 0)) rfl ?_
          refine sm_T_bin (w := 2 * n_ + t_) rfl (bi_add (by omega) (by omega) (by omega)) ?_ -- pc_ 197
          refine sm_T_go 5 (c1 := (205, [some (.inr (.inr (some (13, 0)))), some (.inl n_), some (.inl t_), some (.inr (.inl (l_0 ((l_i2l (S_.2.2.1 206 0 (2 * n_ - t_ + 1).toNat))) ((l_i2l (S_.1 13 0 108)))))), none], [.inl n_, .inl 2, .inr (.inr (some (206, 0))), .inr (.inl (l_0 ((l_i2l (S_.2.2.1 206 0 (2 * n_ - t_ + 1).toNat))) ((l_i2l (S_.1 13 0 108))))), .inl (2 * n_ + t_), .inr (.inr (some (210, 0)))], sm_aI S_ 211 0 (2 * n_ + t_).toNat 0)) rfl ?_
          refine sm_T_bin (w := 2 * n_) rfl (bi_mul (by omega) (by omega) (by omega)) ?_ -- pc_ 205
          refine sm_T_go 1 (c1 := (207, [some (.inr (.inr (some (13, 0)))), some (.inl n_), some (.inl t_), some (.inr (.inl (l_0 ((l_i2l (S_.2.2.1 206 0 (2 * n_ - t_ + 1).toNat))) ((l_i2l (S_.1 13 0 108)))))), none], [.inl t_, .inl (2 * n_), .inr (.inr (some (206, 0))), .inr (.inl (l_0 ((l_i2l (S_.2.2.1 206 0 (2 * n_ - t_ + 1).toNat))) ((l_i2l (S_.1 13 0 108))))), .inl (2 * n_ + t_), .inr (.inr (some (210, 0)))], sm_aI S_ 211 0 (2 * n_ + t_).toNat 0)) rfl ?_
          refine sm_T_bin (w := 2 * n_ + t_) rfl (bi_add (by omega) (by omega) (by omega)) ?_ -- pc_ 207
          refine sm_T_iald (n := 4096) rfl rfl (by omega) (by omega) ?_
          refine sm_T_go 2 (c1 := (211, [some (.inr (.inr (some (13, 0)))), some (.inl n_), some (.inl t_), some (.inr (.inl (l_0 ((l_i2l (S_.2.2.1 206 0 (2 * n_ - t_ + 1).toNat))) ((l_i2l (S_.1 13 0 108)))))), none], [.inl (sm_lcmp ((l_0 ((l_i2l (S_.2.2.1 206 0 (2 * n_ - t_ + 1).toNat))) ((l_i2l (S_.1 13 0 108))))) ((l_i2l (S_.2.2.1 206 0 (2 * n_ + t_).toNat)))), .inl (2 * n_ + t_), .inr (.inr (some (210, 0)))], sm_aI S_ 211 0 (2 * n_ + t_).toNat 0)) rfl ?_
          refine sm_T_b0 (a := 3) (z := 8) rfl (fun cx8_ => ?_) (fun cx8_ => ?_)
          · have cx8_ : 0 ≤ (sm_lcmp ((l_0 ((l_i2l (S_.2.2.1 206 0 (2 * n_ - t_ + 1).toNat))) ((l_i2l (S_.1 13 0 108))))) ((l_i2l (S_.2.2.1 206 0 (2 * n_ + t_).toNat)))) := of_decide_eq_true cx8_
            have Q8_ : ¬ (S_.2.2.1 206 0 (2 * n_ - t_ + 1).toNat + S_.1 13 0 108 < S_.2.2.1 206 0 (2 * n_ + t_).toNat) := fun q8_ => by (have q9_ := lcmp_lt.mpr (show l_0 (l_i2l (S_.2.2.1 206 0 (2 * n_ - t_ + 1).toNat)) (l_i2l (S_.1 13 0 108)) < l_i2l (S_.2.2.1 206 0 (2 * n_ + t_).toNat) by (rw [L9_, L8_]; exact q8_)); omega)
            refine sm_T_go 4 (c1 := (225, [some (.inr (.inr (some (13, 0)))), some (.inl n_), some (.inl t_), some (.inr (.inl (l_0 ((l_i2l (S_.2.2.1 206 0 (2 * n_ - t_ + 1).toNat))) ((l_i2l (S_.1 13 0 108)))))), none], [.inl n_, .inl 2, .inr (.inr (some (206, 0))), .inl (2 * n_ + t_), .inr (.inr (some (210, 0)))], sm_aI S_ 211 0 (2 * n_ + t_).toNat 0)) rfl ?_
            refine sm_T_bin (w := 2 * n_) rfl (bi_mul (by omega) (by omega) (by omega)) ?_ -- pc_ 225
            refine sm_T_go 1 (c1 := (227, [some (.inr (.inr (some (13, 0)))), some (.inl n_), some (.inl t_), some (.inr (.inl (l_0 ((l_i2l (S_.2.2.1 206 0 (2 * n_ - t_ + 1).toNat))) ((l_i2l (S_.1 13 0 108)))))), none], [.inl t_, .inl (2 * n_), .inr (.inr (some (206, 0))), .inl (2 * n_ + t_), .inr (.inr (some (210, 0)))], sm_aI S_ 211 0 (2 * n_ + t_).toNat 0)) rfl ?_
            refine sm_T_bin (w := 2 * n_ + t_) rfl (bi_add (by omega) (by omega) (by omega)) ?_ -- pc_ 227
            refine sm_T_iald (n := 4096) rfl rfl (by omega) (by omega) ?_
            refine sm_T_go 0 (c1 := (229, [some (.inr (.inr (some (13, 0)))), some (.inl n_), some (.inl t_), some (.inr (.inl (l_0 ((l_i2l (S_.2.2.1 206 0 (2 * n_ - t_ + 1).toNat))) ((l_i2l (S_.1 13 0 108)))))), none], [.inl (S_.2.2.1 206 0 (2 * n_ + t_).toNat), .inl (2 * n_ + t_), .inr (.inr (some (210, 0)))], sm_aI S_ 211 0 (2 * n_ + t_).toNat 0)) rfl ?_
            refine sm_T_iast (n := 4096) rfl rfl (by omega) (by omega) ?_
            have hIx9_ : gi (sm_aI (sm_aI S_ 211 0 (2 * n_ + t_).toNat 0) 210 0 (2 * n_ + t_).toNat (S_.2.2.1 206 0 (2 * n_ + t_).toNat)) := gi_aI hIx6_ (show 0 ≤ (S_.2.2.1 206 0 (2 * n_ + t_).toNat) ∧ (S_.2.2.1 206 0 (2 * n_ + t_).toNat) ≤ 1000000000 from ⟨by omega, by omega⟩)
            have hFx10_ : ai_fr (sx_W vw_407) S0_ (sm_aI (sm_aI S_ 211 0 (2 * n_ + t_).toNat 0) 210 0 (2 * n_ + t_).toNat (S_.2.2.1 206 0 (2 * n_ + t_).toNat)) := ai_fr_tr hFx7_ (ai_fr_aI rfl)
            refine sm_T_inc (a := 2) (z := 1) (v := t_) (w := t_ + 1) rfl rfl (by omega) (by omega) (by omega) ?_ -- pc_ 230
            refine sm_T_go 1 (c1 := (133, [some (.inr (.inr (some (13, 0)))), some (.inl n_), some (.inl (t_ + 1)), some (.inr (.inl (l_0 ((l_i2l (S_.2.2.1 206 0 (2 * n_ - t_ + 1).toNat))) ((l_i2l (S_.1 13 0 108)))))), none], [], sm_aI (sm_aI S_ 211 0 (2 * n_ + t_).toNat 0) 210 0 (2 * n_ + t_).toNat (S_.2.2.1 206 0 (2 * n_ + t_).toNat))) rfl ?_
            refine sm_T_wk [some (.inr (.inr (some (13, 0)))), some (.inl n_), some (.inl (t_ + 1)), none, none] (by exact ⟨rfl, rfl, rfl, trivial⟩) ?_
            refine ih_.2.2.2 (t_ + 1) (sm_aI (sm_aI S_ 211 0 (2 * n_ + t_).toNat 0) 210 0 (2 * n_ + t_).toNat (S_.2.2.1 206 0 (2 * n_ + t_).toNat)) hIx9_ hFx10_ ⟨?_, ?_, ?_, trivial⟩ ?_
            · omega
            · have K9_ : ∀ l9_ : Int, 0 ≤ l9_ → wyc F_ n_ S_ l9_ → wyc F_ n_ ((sm_aI (sm_aI S_ 211 0 (2 * n_ + t_).toNat 0) 210 0 (2 * n_ + t_).toNat (S_.2.2.1 206 0 (2 * n_ + t_).toNat))) l9_ := fun l9_ u0_ u1_ => wyc_cg hIx9_ u1_ u0_ (by (try simp only [rd_eq, rd_ne, rf_eq, rf_nk, rf_nt, rd_fa, rd_af, rd_fl, rd_al, rd_lf, rd_la, rd_leq, rd_lne, rd_fr, rd_ar, ne_eq, Nat.reduceEqDiff, not_false_eq_true])) (by (try simp only [rd_eq, rd_ne, rf_eq, rf_nk, rf_nt, rd_fa, rd_af, rd_fl, rd_al, rd_lf, rd_la, rd_leq, rd_lne, rd_fr, rd_ar, ne_eq, Nat.reduceEqDiff, not_false_eq_true])) (by (try simp only [rd_eq, rd_ne, rf_eq, rf_nk, rf_nt, rd_fa, rd_af, rd_fl, rd_al, rd_lf, rd_la, rd_leq, rd_lne, rd_fr, rd_ar, ne_eq, Nat.reduceEqDiff, not_false_eq_true])) (fun k9_ _ _ => by (try simp only [rd_eq, rd_ne, rf_eq, rf_nk, rf_nt, rd_fa, rd_af, rd_fl, rd_al, rd_lf, rd_la, rd_leq, rd_lne, rd_fr, rd_ar, ne_eq, Nat.reduceEqDiff, not_false_eq_true])) (by (funext j9_; (try simp only [rd_eq, rd_ne, rf_eq, rf_nk, rf_nt, rd_fa, rd_af, rd_fl, rd_al, rd_lf, rd_la, rd_leq, rd_lne, rd_fr, rd_ar, ne_eq, Nat.reduceEqDiff, not_false_eq_true]))) (by (try simp only [rd_eq, rd_ne, rf_eq, rf_nk, rf_nt, rd_fa, rd_af, rd_fl, rd_al, rd_lf, rd_la, rd_leq, rd_lne, rd_fr, rd_ar, ne_eq, Nat.reduceEqDiff, not_false_eq_true])) (by (funext j9_; (try simp only [rd_eq, rd_ne, rf_eq, rf_nk, rf_nt, rd_fa, rd_af, rd_fl, rd_al, rd_lf, rd_la, rd_leq, rd_lne, rd_fr, rd_ar, ne_eq, Nat.reduceEqDiff, not_false_eq_true]))) (fun x9_ t9_ a9_ b9_ c9_ d9_ => by (have q9_ : (2 * x9_ + t9_).toNat ≠ (2 * n_ + t_).toNat := (by omega); unfold cst; (try simp only [rd_eq, rd_ne, rf_eq, rf_nk, rf_nt, rd_fa, rd_af, rd_fl, rd_al, rd_lf, rd_la, rd_leq, rd_lne, rd_fr, rd_ar, ne_eq, Nat.reduceEqDiff, not_false_eq_true]); rw [if_neg q9_]))
              refine ⟨K9_ _ (by omega) hz_.1, K9_ _ (by omega) hz_.2.1, fun s9_ u0_ u1_ => ?_⟩
              unfold ned
              (try simp only [rd_eq, rd_ne, rf_eq, rf_nk, rf_nt, rd_fa, rd_af, rd_fl, rd_al, rd_lf, rd_la, rd_leq, rd_lne, rd_fr, rd_ar, ne_eq, Nat.reduceEqDiff, not_false_eq_true])
              by_cases z9_ : s9_ = t_
              · rw [if_pos (by omega), if_pos (by omega), z9_, show (2 * n_ + 1 - t_).toNat = (2 * n_ - t_ + 1).toNat by omega]
                first | (left; exact ⟨rfl, by omega, by omega⟩) | (right; exact ⟨rfl, rfl⟩) | (exfalso; omega)
              · rw [if_neg (by omega), if_neg (by omega)]; exact hz_.2.2 s9_ u0_ (by omega)
            · (refine ⟨wf2_tr h5_.1 (wf2_fr (w_ := ([], [210, 211], [])) (ai_fr_tr (ai_fr_aI rfl) (ai_fr_aI rfl))), fun j9_ v9_ => ?_⟩; have y9_ := h5_.2 j9_ v9_; (try simp only [rd_eq, rd_ne, rf_eq, rf_nk, rf_nt, rd_fa, rd_af, rd_fl, rd_al, rd_lf, rd_la, rd_leq, rd_lne, rd_fr, rd_ar, ne_eq, Nat.reduceEqDiff, not_false_eq_true]); rw [if_neg (by omega), if_neg (by omega)]; exact y9_)
            · omega
          · have cx8_ : ¬ (0 ≤ (sm_lcmp ((l_0 ((l_i2l (S_.2.2.1 206 0 (2 * n_ - t_ + 1).toNat))) ((l_i2l (S_.1 13 0 108))))) ((l_i2l (S_.2.2.1 206 0 (2 * n_ + t_).toNat))))) := of_decide_eq_false cx8_
            exfalso; omega
        · have cx5_ : ¬ (0 ≤ (sm_lcmp ((l_0 ((l_i2l (S_.2.2.1 206 0 (2 * n_ - t_ + 1).toNat))) ((l_i2l (S_.1 13 0 108))))) ((l_i2l (S_.2.2.1 206 0 (2 * n_ + t_).toNat))))) := of_decide_eq_false cx5_
          have Q9_ : S_.2.2.1 206 0 (2 * n_ - t_ + 1).toNat + S_.1 13 0 108 < S_.2.2.1 206 0 (2 * n_ + t_).toNat := by (have q9_ := lcmp_lt.mp (show sm_lcmp (l_0 (l_i2l (S_.2.2.1 206 0 (2 * n_ - t_ + 1).toNat)) (l_i2l (S_.1 13 0 108))) (l_i2l (S_.2.2.1 206 0 (2 * n_ + t_).toNat)) < 0 by omega); rw [L9_, L8_] at q9_; exact q9_)
          refine sm_T_go 2 (c1 := (188, [some (.inr (.inr (some (13, 0)))), some (.inl n_), some (.inl t_), some (.inr (.inl (l_0 ((l_i2l (S_.2.2.1 206 0 (2 * n_ - t_ + 1).toNat))) ((l_i2l (S_.1 13 0 108)))))), none], [.inl 1, .inl (2 * n_ + t_), .inr (.inr (some (211, 0)))], S_)) rfl ?_
          refine sm_T_zas1 (n := 4096) rfl rfl (by omega) (by omega) (by omega) ?_
          have hIx11_ : gi (sm_aI S_ 211 0 (2 * n_ + t_).toNat 1) := gi_aI hI_ (show 0 ≤ 1 ∧ 1 ≤ 1 from ⟨by omega, by omega⟩)
          have hFx12_ : ai_fr (sx_W vw_407) S0_ (sm_aI S_ 211 0 (2 * n_ + t_).toNat 1) := ai_fr_tr hF_ (ai_fr_aI rfl)
          refine sm_T_go 4 (c1 := (195, [some (.inr (.inr (some (13, 0)))), some (.inl n_), some (.inl t_), some (.inr (.inl (l_0 ((l_i2l (S_.2.2.1 206 0 (2 * n_ - t_ + 1).toNat))) ((l_i2l (S_.1 13 0 108)))))), none], [.inl n_, .inl 2, .inr (.inr (some (210, 0)))], sm_aI S_ 211 0 (2 * n_ + t_).toNat 1)) rfl ?_
          refine sm_T_bin (w := 2 * n_) rfl (bi_mul (by omega) (by omega) (by omega)) ?_ -- pc_ 195
          refine sm_T_go 1 (c1 := (197, [some (.inr (.inr (some (13, 0)))), some (.inl n_), some (.inl t_), some (.inr (.inl (l_0 ((l_i2l (S_.2.2.1 206 0 (2 * n_ - t_ + 1).toNat))) ((l_i2l (S_.1 13 0 108)))))), none], [.inl t_, .inl (2 * n_), .inr (.inr (some (210, 0)))], sm_aI S_ 211 0 (2 * n_ + t_).toNat 1)) rfl ?_
          refine sm_T_bin (w := 2 * n_ + t_) rfl (bi_add (by omega) (by omega) (by omega)) ?_ -- pc_ 197
          refine sm_T_go 5 (c1 := (205, [some (.inr (.inr (some (13, 0)))), some (.inl n_), some (.inl t_), some (.inr (.inl (l_0 ((l_i2l (S_.2.2.1 206 0 (2 * n_ - t_ + 1).toNat))) ((l_i2l (S_.1 13 0 108)))))), none], [.inl n_, .inl 2, .inr (.inr (some (206, 0))), .inr (.inl (l_0 ((l_i2l (S_.2.2.1 206 0 (2 * n_ - t_ + 1).toNat))) ((l_i2l (S_.1 13 0 108))))), .inl (2 * n_ + t_), .inr (.inr (some (210, 0)))], sm_aI S_ 211 0 (2 * n_ + t_).toNat 1)) rfl ?_
          refine sm_T_bin (w := 2 * n_) rfl (bi_mul (by omega) (by omega) (by omega)) ?_ -- pc_ 205
          refine sm_T_go 1 (c1 := (207, [some (.inr (.inr (some (13, 0)))), some (.inl n_), some (.inl t_), some (.inr (.inl (l_0 ((l_i2l (S_.2.2.1 206 0 (2 * n_ - t_ + 1).toNat))) ((l_i2l (S_.1 13 0 108)))))), none], [.inl t_, .inl (2 * n_), .inr (.inr (some (206, 0))), .inr (.inl (l_0 ((l_i2l (S_.2.2.1 206 0 (2 * n_ - t_ + 1).toNat))) ((l_i2l (S_.1 13 0 108))))), .inl (2 * n_ + t_), .inr (.inr (some (210, 0)))], sm_aI S_ 211 0 (2 * n_ + t_).toNat 1)) rfl ?_
          refine sm_T_bin (w := 2 * n_ + t_) rfl (bi_add (by omega) (by omega) (by omega)) ?_ -- pc_ 207
          refine sm_T_iald (n := 4096) rfl rfl (by omega) (by omega) ?_
          refine sm_T_go 2 (c1 := (211, [some (.inr (.inr (some (13, 0)))), some (.inl n_), some (.inl t_), some (.inr (.inl (l_0 ((l_i2l (S_.2.2.1 206 0 (2 * n_ - t_ + 1).toNat))) ((l_i2l (S_.1 13 0 108)))))), none], [.inl (sm_lcmp ((l_0 ((l_i2l (S_.2.2.1 206 0 (2 * n_ - t_ + 1).toNat))) ((l_i2l (S_.1 13 0 108))))) ((l_i2l (S_.2.2.1 206 0 (2 * n_ + t_).toNat)))), .inl (2 * n_ + t_), .inr (.inr (some (210, 0)))], sm_aI S_ 211 0 (2 * n_ + t_).toNat 1)) rfl ?_
          refine sm_T_b0 (a := 3) (z := 8) rfl (fun cx13_ => ?_) (fun cx13_ => ?_)
          · have cx13_ : 0 ≤ (sm_lcmp ((l_0 ((l_i2l (S_.2.2.1 206 0 (2 * n_ - t_ + 1).toNat))) ((l_i2l (S_.1 13 0 108))))) ((l_i2l (S_.2.2.1 206 0 (2 * n_ + t_).toNat)))) := of_decide_eq_true cx13_
            exfalso; omega
          · have cx13_ : ¬ (0 ≤ (sm_lcmp ((l_0 ((l_i2l (S_.2.2.1 206 0 (2 * n_ - t_ + 1).toNat))) ((l_i2l (S_.1 13 0 108))))) ((l_i2l (S_.2.2.1 206 0 (2 * n_ + t_).toNat))))) := of_decide_eq_false cx13_
            have Q8_ : S_.2.2.1 206 0 (2 * n_ - t_ + 1).toNat + S_.1 13 0 108 < S_.2.2.1 206 0 (2 * n_ + t_).toNat := by (have q9_ := lcmp_lt.mp (show sm_lcmp (l_0 (l_i2l (S_.2.2.1 206 0 (2 * n_ - t_ + 1).toNat)) (l_i2l (S_.1 13 0 108))) (l_i2l (S_.2.2.1 206 0 (2 * n_ + t_).toNat)) < 0 by omega); rw [L9_, L8_] at q9_; exact q9_)
            have L7_ : l_l2i (l_0 (l_i2l (S_.2.2.1 206 0 (2 * n_ - t_ + 1).toNat)) (l_i2l (S_.1 13 0 108))) = S_.2.2.1 206 0 (2 * n_ - t_ + 1).toNat + S_.1 13 0 108 := by (rw [L9_]; exact l2i_s (by omega))
            have bx14_ := l_l2i_n ((l_0 ((l_i2l (S_.2.2.1 206 0 (2 * n_ - t_ + 1).toNat))) ((l_i2l (S_.1 13 0 108)))))
            refine sm_T_go 3 (c1 := (229, [some (.inr (.inr (some (13, 0)))), some (.inl n_), some (.inl t_), some (.inr (.inl (l_0 ((l_i2l (S_.2.2.1 206 0 (2 * n_ - t_ + 1).toNat))) ((l_i2l (S_.1 13 0 108)))))), none], [.inl (l_l2i ((l_0 ((l_i2l (S_.2.2.1 206 0 (2 * n_ - t_ + 1).toNat))) ((l_i2l (S_.1 13 0 108)))))), .inl (2 * n_ + t_), .inr (.inr (some (210, 0)))], sm_aI S_ 211 0 (2 * n_ + t_).toNat 1)) rfl ?_
            refine sm_T_iast (n := 4096) rfl rfl (by omega) (by omega) ?_
            have hIx15_ : gi (sm_aI (sm_aI S_ 211 0 (2 * n_ + t_).toNat 1) 210 0 (2 * n_ + t_).toNat (l_l2i ((l_0 ((l_i2l (S_.2.2.1 206 0 (2 * n_ - t_ + 1).toNat))) ((l_i2l (S_.1 13 0 108))))))) := gi_aI hIx11_ (show 0 ≤ (l_l2i ((l_0 ((l_i2l (S_.2.2.1 206 0 (2 * n_ - t_ + 1).toNat))) ((l_i2l (S_.1 13 0 108)))))) ∧ (l_l2i ((l_0 ((l_i2l (S_.2.2.1 206 0 (2 * n_ - t_ + 1).toNat))) ((l_i2l (S_.1 13 0 108)))))) ≤ 1000000000 from ⟨by omega, by omega⟩)
            have hFx16_ : ai_fr (sx_W vw_407) S0_ (sm_aI (sm_aI S_ 211 0 (2 * n_ + t_).toNat 1) 210 0 (2 * n_ + t_).toNat (l_l2i ((l_0 ((l_i2l (S_.2.2.1 206 0 (2 * n_ - t_ + 1).toNat))) ((l_i2l (S_.1 13 0 108))))))) := ai_fr_tr hFx12_ (ai_fr_aI rfl)
            refine sm_T_inc (a := 2) (z := 1) (v := t_) (w := t_ + 1) rfl rfl (by omega) (by omega) (by omega) ?_ -- pc_ 230
            refine sm_T_go 1 (c1 := (133, [some (.inr (.inr (some (13, 0)))), some (.inl n_), some (.inl (t_ + 1)), some (.inr (.inl (l_0 ((l_i2l (S_.2.2.1 206 0 (2 * n_ - t_ + 1).toNat))) ((l_i2l (S_.1 13 0 108)))))), none], [], sm_aI (sm_aI S_ 211 0 (2 * n_ + t_).toNat 1) 210 0 (2 * n_ + t_).toNat (l_l2i ((l_0 ((l_i2l (S_.2.2.1 206 0 (2 * n_ - t_ + 1).toNat))) ((l_i2l (S_.1 13 0 108)))))))) rfl ?_
            refine sm_T_wk [some (.inr (.inr (some (13, 0)))), some (.inl n_), some (.inl (t_ + 1)), none, none] (by exact ⟨rfl, rfl, rfl, trivial⟩) ?_
            refine ih_.2.2.2 (t_ + 1) (sm_aI (sm_aI S_ 211 0 (2 * n_ + t_).toNat 1) 210 0 (2 * n_ + t_).toNat (l_l2i ((l_0 ((l_i2l (S_.2.2.1 206 0 (2 * n_ - t_ + 1).toNat))) ((l_i2l (S_.1 13 0 108))))))) hIx15_ hFx16_ ⟨?_, ?_, ?_, trivial⟩ ?_
            · omega
            · have K9_ : ∀ l9_ : Int, 0 ≤ l9_ → wyc F_ n_ S_ l9_ → wyc F_ n_ ((sm_aI (sm_aI S_ 211 0 (2 * n_ + t_).toNat 1) 210 0 (2 * n_ + t_).toNat (l_l2i ((l_0 ((l_i2l (S_.2.2.1 206 0 (2 * n_ - t_ + 1).toNat))) ((l_i2l (S_.1 13 0 108)))))))) l9_ := fun l9_ u0_ u1_ => wyc_cg hIx15_ u1_ u0_ (by (try simp only [rd_eq, rd_ne, rf_eq, rf_nk, rf_nt, rd_fa, rd_af, rd_fl, rd_al, rd_lf, rd_la, rd_leq, rd_lne, rd_fr, rd_ar, ne_eq, Nat.reduceEqDiff, not_false_eq_true])) (by (try simp only [rd_eq, rd_ne, rf_eq, rf_nk, rf_nt, rd_fa, rd_af, rd_fl, rd_al, rd_lf, rd_la, rd_leq, rd_lne, rd_fr, rd_ar, ne_eq, Nat.reduceEqDiff, not_false_eq_true])) (by (try simp only [rd_eq, rd_ne, rf_eq, rf_nk, rf_nt, rd_fa, rd_af, rd_fl, rd_al, rd_lf, rd_la, rd_leq, rd_lne, rd_fr, rd_ar, ne_eq, Nat.reduceEqDiff, not_false_eq_true])) (fun k9_ _ _ => by (try simp only [rd_eq, rd_ne, rf_eq, rf_nk, rf_nt, rd_fa, rd_af, rd_fl, rd_al, rd_lf, rd_la, rd_leq, rd_lne, rd_fr, rd_ar, ne_eq, Nat.reduceEqDiff, not_false_eq_true])) (by (funext j9_; (try simp only [rd_eq, rd_ne, rf_eq, rf_nk, rf_nt, rd_fa, rd_af, rd_fl, rd_al, rd_lf, rd_la, rd_leq, rd_lne, rd_fr, rd_ar, ne_eq, Nat.reduceEqDiff, not_false_eq_true]))) (by (try simp only [rd_eq, rd_ne, rf_eq, rf_nk, rf_nt, rd_fa, rd_af, rd_fl, rd_al, rd_lf, rd_la, rd_leq, rd_lne, rd_fr, rd_ar, ne_eq, Nat.reduceEqDiff, not_false_eq_true])) (by (funext j9_; (try simp only [rd_eq, rd_ne, rf_eq, rf_nk, rf_nt, rd_fa, rd_af, rd_fl, rd_al, rd_lf, rd_la, rd_leq, rd_lne, rd_fr, rd_ar, ne_eq, Nat.reduceEqDiff, not_false_eq_true]))) (fun x9_ t9_ a9_ b9_ c9_ d9_ => by (have q9_ : (2 * x9_ + t9_).toNat ≠ (2 * n_ + t_).toNat := (by omega); unfold cst; (try simp only [rd_eq, rd_ne, rf_eq, rf_nk, rf_nt, rd_fa, rd_af, rd_fl, rd_al, rd_lf, rd_la, rd_leq, rd_lne, rd_fr, rd_ar, ne_eq, Nat.reduceEqDiff, not_false_eq_true]); rw [if_neg q9_]))
              refine ⟨K9_ _ (by omega) hz_.1, K9_ _ (by omega) hz_.2.1, fun s9_ u0_ u1_ => ?_⟩
              unfold ned
              (try simp only [rd_eq, rd_ne, rf_eq, rf_nk, rf_nt, rd_fa, rd_af, rd_fl, rd_al, rd_lf, rd_la, rd_leq, rd_lne, rd_fr, rd_ar, ne_eq, Nat.reduceEqDiff, not_false_eq_true])
              by_cases z9_ : s9_ = t_
              · rw [if_pos (by omega), if_pos (by omega), z9_, show (2 * n_ + 1 - t_).toNat = (2 * n_ - t_ + 1).toNat by omega]
                first | (left; exact ⟨rfl, by omega, by omega⟩) | (right; exact ⟨rfl, rfl⟩) | (exfalso; omega)
              · rw [if_neg (by omega), if_neg (by omega)]; exact hz_.2.2 s9_ u0_ (by omega)
            · (refine ⟨wf2_tr h5_.1 (wf2_fr (w_ := ([], [210, 211], [])) (ai_fr_tr (ai_fr_aI rfl) (ai_fr_aI rfl))), fun j9_ v9_ => ?_⟩; have y9_ := h5_.2 j9_ v9_; (try simp only [rd_eq, rd_ne, rf_eq, rf_nk, rf_nt, rd_fa, rd_af, rd_fl, rd_al, rd_lf, rd_la, rd_leq, rd_lne, rd_fr, rd_ar, ne_eq, Nat.reduceEqDiff, not_false_eq_true]); rw [if_neg (by omega), if_neg (by omega)]; exact y9_)
            · omega
set_option maxHeartbeats 4000000 in
set_option maxRecDepth 20000 in
theorem vc_407 {sc_ : Nat × (Nat → Int)} (n_ : Int) (F_ : Int) (N_ : Int) (S0_ : sm_S) (hI_ : gi S0_) (hf_ : S0_.2.2.1 160 0 (S0_.1 13 0 105).toNat = F_) (hn_ : 1 ≤ F_ ∧ F_ ≤ n_ ∧ n_ < N_ ∧ N_ ≤ 1013) (hw_ : S0_.2.2.1 202 0 n_.toNat = 1) (hl_ : lgn F_ N_ S0_) : sm_T (mt_P sc_) 4 407 (0, [some (.inr (.inr (some (13, 0)))), some (.inl n_), none, none, none], [], S0_) (fun ro9_ => ∃ u_ S1_, ro9_ = (.inl u_, S1_, 0) ∧ vq_407 n_ F_ N_ S0_ u_ S1_) := by
  have hF_ : ai_fr (sx_W vw_407) S0_ S0_ := ai_fr_rf
  refine sm_T_go 2 (c1 := (2, [some (.inr (.inr (some (13, 0)))), some (.inl n_), none, none, none], [.inl n_, .inr (.inr (some (13, 0)))], S0_)) rfl ?_
  refine sm_T_cal (d1 := 1) (Q1 := vq_400 n_ F_ N_ S0_) rfl rfl (by decide) (vc_400 n_ F_ N_ S0_ hI_ (by exact hf_) (by exact hn_) (by exact hw_) (by exact hl_)) (fun u_ Sx1_ px4_ => ?_)
  obtain ⟨rfl, hIx2_, hFx3_, px4_⟩ := px4_
  have hFx5_ : ai_fr (sx_W vw_407) S0_ Sx1_ := ai_fr_tr hF_ (fr_le hFx3_ rfl)
  have p2_ := px4_
  have v2_ : wf2 n_ S0_ Sx1_ := wf2_fr hFx3_
  have y210_ : Sx1_.2.2.1 210 0 = S0_.2.2.1 210 0 := fr_arr hFx3_ rfl
  have y211_ : Sx1_.2.2.1 211 0 = S0_.2.2.1 211 0 := fr_arr hFx3_ rfl
  refine sm_T_go 4 (c1 := (11, [some (.inr (.inr (some (13, 0)))), some (.inl n_), none, none, none], [.inl n_, .inl 2, .inr (.inr (some (206, 0)))], Sx1_)) rfl ?_
  refine sm_T_bin (w := 2 * n_) rfl (bi_mul (by omega) (by omega) (by omega)) ?_ -- pc_ 11
  refine sm_T_nt (u := some (.inl 1000000000)) (S1 := Sx1_) rfl rfl rfl ?_
  refine sm_T_iast (n := 4096) rfl rfl (by omega) (by omega) ?_
  have hIx6_ : gi (sm_aI Sx1_ 206 0 (2 * n_).toNat 1000000000) := gi_aI hIx2_ (show 0 ≤ 1000000000 ∧ 1000000000 ≤ 1000000000 from ⟨by omega, by omega⟩)
  have hFx7_ : ai_fr (sx_W vw_407) S0_ (sm_aI Sx1_ 206 0 (2 * n_).toNat 1000000000) := ai_fr_tr hFx5_ (ai_fr_aI rfl)
  refine sm_T_go 4 (c1 := (22, [some (.inr (.inr (some (13, 0)))), some (.inl n_), none, none, none], [.inl n_, .inl 2, .inr (.inr (some (206, 0)))], sm_aI Sx1_ 206 0 (2 * n_).toNat 1000000000)) rfl ?_
  refine sm_T_bin (w := 2 * n_) rfl (bi_mul (by omega) (by omega) (by omega)) ?_ -- pc_ 22
  refine sm_T_go 1 (c1 := (24, [some (.inr (.inr (some (13, 0)))), some (.inl n_), none, none, none], [.inl 1, .inl (2 * n_), .inr (.inr (some (206, 0)))], sm_aI Sx1_ 206 0 (2 * n_).toNat 1000000000)) rfl ?_
  refine sm_T_bin (w := 2 * n_ + 1) rfl (bi_add (by omega) (by omega) (by omega)) ?_ -- pc_ 24
  refine sm_T_nt (u := some (.inl 1000000000)) (S1 := sm_aI Sx1_ 206 0 (2 * n_).toNat 1000000000) rfl rfl rfl ?_
  refine sm_T_iast (n := 4096) rfl rfl (by omega) (by omega) ?_
  have hIx8_ : gi (sm_aI (sm_aI Sx1_ 206 0 (2 * n_).toNat 1000000000) 206 0 (2 * n_ + 1).toNat 1000000000) := gi_aI hIx6_ (show 0 ≤ 1000000000 ∧ 1000000000 ≤ 1000000000 from ⟨by omega, by omega⟩)
  have hFx9_ : ai_fr (sx_W vw_407) S0_ (sm_aI (sm_aI Sx1_ 206 0 (2 * n_).toNat 1000000000) 206 0 (2 * n_ + 1).toNat 1000000000) := ai_fr_tr hFx7_ (ai_fr_aI rfl)
  refine sm_T_go 2 (c1 := (31, [some (.inr (.inr (some (13, 0)))), some (.inl n_), some (.inl 0), none, none], [], sm_aI (sm_aI Sx1_ 206 0 (2 * n_).toNat 1000000000) 206 0 (2 * n_ + 1).toNat 1000000000)) rfl ?_
  refine (vl_407 n_ F_ N_ S0_ hf_ hn_ hw_ hl_ _).1 0 (sm_aI (sm_aI Sx1_ 206 0 (2 * n_).toNat 1000000000) 206 0 (2 * n_ + 1).toNat 1000000000) hIx8_ hFx9_ ⟨?_, ?_, ?_, ?_, ?_, ?_, trivial⟩ (Nat.lt_succ_self _)
  · omega
  · (intro q9_; exfalso; rw [rd_eq, rd_eq] at q9_; (first | rw [if_neg (by omega), if_pos rfl] at q9_ | skip); omega)
  · (intro q9_; exfalso; rw [rd_eq, if_pos rfl] at q9_; omega)
  · exact wf2_tr v2_ ⟨fun j9_ h9_ => by ((try simp only [rd_eq, rd_ne, rf_eq, rf_nk, rf_nt, rd_fa, rd_af, rd_fl, rd_al, rd_lf, rd_la, rd_leq, rd_lne, rd_fr, rd_ar, ne_eq, Nat.reduceEqDiff, not_false_eq_true]); rw [if_neg (by omega), if_neg (by omega)]; refine ⟨?_, ?_, ?_⟩ <;> first | rfl | trivial), fun j9_ _ => by (try simp only [rd_eq, rd_ne, rf_eq, rf_nk, rf_nt, rd_fa, rd_af, rd_fl, rd_al, rd_lf, rd_la, rd_leq, rd_lne, rd_fr, rd_ar, ne_eq, Nat.reduceEqDiff, not_false_eq_true])⟩
  · exact ctp_fr (w_ := ([], [206], [])) p2_ (ai_fr_tr (ai_fr_aI rfl) (ai_fr_aI rfl))
  · exact ⟨by (funext j9_; (try simp only [rd_eq, rd_ne, rf_eq, rf_nk, rf_nt, rd_fa, rd_af, rd_fl, rd_al, rd_lf, rd_la, rd_leq, rd_lne, rd_fr, rd_ar, ne_eq, Nat.reduceEqDiff, not_false_eq_true]); rw [y210_]), by (funext j9_; (try simp only [rd_eq, rd_ne, rf_eq, rf_nk, rf_nt, rd_fa, rd_af, rd_fl, rd_al, rd_lf, rd_la, rd_leq, rd_lne, rd_fr, rd_ar, ne_eq, Nat.reduceEqDiff, not_false_eq_true]); rw [y211_])⟩
