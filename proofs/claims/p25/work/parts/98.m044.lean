/-! 99.zs7 -/
section
/-! the reference: ways; written by wip/p55/gen/vg -/

/-! the_ reference: ways of_ making a_ literal -/
theorem l_0_s {x_ y_ : Int} (hx_ : -1000000000000 ≤ x_ ∧ x_ ≤ 1000000000000) (hy_ : -2147483648 ≤ y_ ∧ y_ ≤ 2147483647) : l_0 x_ (l_i2l y_) = x_ + y_ := by
  rw [l_i2l_s hy_.1 hy_.2]
  unfold l_0
  rw [Int64.toInt_add, Int64.toInt_ofInt_of_le (by omega) (by omega), Int64.toInt_ofInt_of_le (by omega) (by omega)]
  exact Int.bmod_eq_of_le (by omega) (by omega)
theorem l2i_s {x_ : Int} (h_ : -2147483648 ≤ x_ ∧ x_ ≤ 2147483647) : l_l2i x_ = x_ := by
  unfold l_l2i
  rw [Int64.toInt_toInt32, Int64.toInt_ofInt_of_le (by omega) (by omega)]
  exact Int.bmod_eq_of_le (by omega) (by omega)
theorem lcmp_lt {x_ y_ : Int} : sm_lcmp x_ y_ < 0 ↔ x_ < y_ := by
  unfold sm_lcmp
  split
  · rename_i h_
    exact ⟨fun z_ => absurd z_ (by decide), fun z_ => by omega⟩
  · split
    · rename_i h_
      exact ⟨fun z_ => absurd z_ (by decide), fun z_ => by omega⟩
    · exact ⟨fun _ => by omega, fun _ => by decide⟩
theorem iat_b {sz_ o_ k_ : Int} (hs_ : 1 ≤ sz_ ∧ sz_ ≤ 3) (ho_ : 0 ≤ o_ ∧ o_ ≤ 5) (hk_ : 0 ≤ k_ ∧ k_ < sz_) : 0 ≤ iat sz_ o_ k_ ∧ iat sz_ o_ k_ < sz_ := by
  unfold iat
  split
  · split <;> omega
  · split
    · omega
    · split
      · split <;> omega
      · split <;> omega
def inp (F_ n_ : Int) (S_ : sm_S) (x_ t_ : Int) : Prop := cnd9 n_ (S_.2.2.1 202 0) x_ ∧ cst F_ S_ x_ t_ < 1000000000
/-- the_ way_ of_ a_ literal can_ be_ gone -/
def wyc (F_ n_ : Int) (S_ : sm_S) (w_ : Int) : Prop := imq (S_.2.2.1 206 0 w_.toNat < 1000000000) (0 ≤ S_.2.2.1 207 0 w_.toNat ∧ 1 ≤ S_.2.2.1 185 0 (12 * S_.1 13 0 106 + S_.2.2.1 207 0 w_.toNat).toNat ∧ ∀ k_ : Int, 0 ≤ k_ → k_ < S_.2.2.1 185 0 (12 * S_.1 13 0 106 + S_.2.2.1 207 0 w_.toNat).toNat → inp F_ n_ S_ (S_.2.2.1 208 0 (3 * w_ + k_).toNat) (i_shr (S_.2.2.1 209 0 w_.toNat) k_ % 2))
/-- only the_ way_ of_ one_ literal changes -/
def wfr (w_ : Int) (S_ S'_ : sm_S) : Prop := (∀ j_, j_ ≠ w_.toNat → S'_.2.2.1 206 0 j_ = S_.2.2.1 206 0 j_ ∧ S'_.2.2.1 207 0 j_ = S_.2.2.1 207 0 j_ ∧ S'_.2.2.1 209 0 j_ = S_.2.2.1 209 0 j_) ∧ ∀ j_, (j_ < 3 * w_.toNat ∨ 3 * w_.toNat + 3 ≤ j_) → S'_.2.2.1 208 0 j_ = S_.2.2.1 208 0 j_
def wf2 (n_ : Int) (S_ S'_ : sm_S) : Prop := (∀ j_, (j_ < 2 * n_.toNat ∨ 2 * n_.toNat + 2 ≤ j_) → S'_.2.2.1 206 0 j_ = S_.2.2.1 206 0 j_ ∧ S'_.2.2.1 207 0 j_ = S_.2.2.1 207 0 j_ ∧ S'_.2.2.1 209 0 j_ = S_.2.2.1 209 0 j_) ∧ ∀ j_, (j_ < 6 * n_.toNat ∨ 6 * n_.toNat + 6 ≤ j_) → S'_.2.2.1 208 0 j_ = S_.2.2.1 208 0 j_
theorem wf2_rf {n_ : Int} {S_ : sm_S} : wf2 n_ S_ S_ := ⟨fun _ _ => ⟨rfl, rfl, rfl⟩, fun _ _ => rfl⟩
theorem wf2_tr {n_ : Int} {S_ S'_ S2_ : sm_S} (h_ : wf2 n_ S_ S'_) (g_ : wf2 n_ S'_ S2_) : wf2 n_ S_ S2_ := ⟨fun j_ hj_ => ⟨(g_.1 j_ hj_).1.trans (h_.1 j_ hj_).1, (g_.1 j_ hj_).2.1.trans (h_.1 j_ hj_).2.1, (g_.1 j_ hj_).2.2.trans (h_.1 j_ hj_).2.2⟩, fun j_ hj_ => (g_.2 j_ hj_).trans (h_.2 j_ hj_)⟩
theorem wf2_fr {w_ : sx_Wl} {n_ : Int} {S_ S'_ : sm_S} (g_ : ai_fr (sx_W w_) S_ S'_) (h1_ : (sx_W w_).2.1 206 = false := by rfl) (h2_ : (sx_W w_).2.1 207 = false := by rfl) (h3_ : (sx_W w_).2.1 208 = false := by rfl) (h4_ : (sx_W w_).2.1 209 = false := by rfl) : wf2 n_ S_ S'_ := ⟨fun j_ _ => ⟨congrFun (fr_arr g_ h1_) j_, congrFun (fr_arr g_ h2_) j_, congrFun (fr_arr g_ h4_) j_⟩, fun j_ _ => congrFun (fr_arr g_ h3_) j_⟩
theorem wf2_w {n_ w_ : Int} {S_ S'_ : sm_S} (h_ : wfr w_ S_ S'_) (hn_ : 0 ≤ n_) (hw_ : w_ = 2 * n_ ∨ w_ = 2 * n_ + 1) : wf2 n_ S_ S'_ := ⟨fun j_ hj_ => h_.1 j_ (by omega), fun j_ hj_ => h_.2 j_ (by omega)⟩
/-- a_ way_ stays, where its_ rows and what it_ stands on_ stay -/
theorem wyc_cg {F_ n_ w_ : Int} {S_ S'_ : sm_S} (hI_ : gi S'_) (h_ : wyc F_ n_ S_ w_) (hw_ : 0 ≤ w_) (e6_ : S'_.2.2.1 206 0 w_.toNat = S_.2.2.1 206 0 w_.toNat) (e7_ : S'_.2.2.1 207 0 w_.toNat = S_.2.2.1 207 0 w_.toNat) (e9_ : S'_.2.2.1 209 0 w_.toNat = S_.2.2.1 209 0 w_.toNat) (e8_ : ∀ k_ : Int, 0 ≤ k_ → k_ < 3 → S'_.2.2.1 208 0 (3 * w_ + k_).toNat = S_.2.2.1 208 0 (3 * w_ + k_).toNat) (e5_ : S'_.2.2.1 185 0 = S_.2.2.1 185 0) (e106_ : S'_.1 13 0 106 = S_.1 13 0 106) (e2_ : S'_.2.2.1 202 0 = S_.2.2.1 202 0) (ec : ∀ x_ t_ : Int, 1 ≤ x_ → x_ < n_ → 0 ≤ t_ → t_ ≤ 1 → cst F_ S'_ x_ t_ = cst F_ S_ x_ t_) : wyc F_ n_ S'_ w_ := by
  unfold wyc
  rw [e6_, e7_, e9_, e5_, e106_]
  intro p_
  have q_ := h_ p_
  refine ⟨q_.1, q_.2.1, fun k_ k0_ k1_ => ?_⟩
  have b_ : S'_.2.2.1 185 0 (12 * S_.1 13 0 106 + S_.2.2.1 207 0 w_.toNat).toNat ≤ 3 := (hI_.2 185 0 _).2
  rw [e5_] at b_
  have z_ := q_.2.2 k_ k0_ k1_
  rw [e8_ k_ k0_ (by omega)]
  refine ⟨by rw [e2_]; exact z_.1, ?_⟩
  rw [ec _ _ z_.1.1 z_.1.2.1 (by omega) (by omega)]
  exact z_.2
theorem cst_fr {w_ : sx_Wl} {F_ : Int} {S_ S'_ : sm_S} (g_ : ai_fr (sx_W w_) S_ S'_) (h1_ : (sx_W w_).2.1 203 = false := by rfl) (h2_ : (sx_W w_).2.1 210 = false := by rfl) (h3_ : (sx_W w_).1 13 108 = false := by rfl) : cst F_ S'_ = cst F_ S_ := by
  funext x_ t_
  unfold cst
  rw [fr_arr g_ h1_, fr_arr g_ h2_, g_.1 13 0 108 h3_]
theorem wyc_fr {w_ : sx_Wl} {F_ n_ l_ : Int} {S_ S'_ : sm_S} (hI_ : gi S'_) (h_ : wyc F_ n_ S_ l_) (hl_ : 0 ≤ l_) (g_ : ai_fr (sx_W w_) S_ S'_) (f_ : (sx_W w_).2.1 206 = false := by rfl) (f7_ : (sx_W w_).2.1 207 = false := by rfl) (f8 : (sx_W w_).2.1 208 = false := by rfl) (f9_ : (sx_W w_).2.1 209 = false := by rfl) (f5_ : (sx_W w_).2.1 185 = false := by rfl) (f1_ : (sx_W w_).1 13 106 = false := by rfl) (f2_ : (sx_W w_).2.1 202 = false := by rfl) (h1_ : (sx_W w_).2.1 203 = false := by rfl) (h2_ : (sx_W w_).2.1 210 = false := by rfl) (h3_ : (sx_W w_).1 13 108 = false := by rfl) : wyc F_ n_ S'_ l_ :=
  wyc_cg hI_ h_ hl_ (congrFun (fr_arr g_ f_) _) (congrFun (fr_arr g_ f7_) _) (congrFun (fr_arr g_ f9_) _) (fun k_ _ _ => congrFun (fr_arr g_ f8) _) (fr_arr g_ f5_) (g_.1 13 0 106 f1_) (fr_arr g_ f2_) (fun x_ t_ _ _ _ _ => by rw [cst_fr g_ h1_ h2_ h3_])
/-! M_.cellOver -/
/-! M_.costOf -/
def vw_404 : sx_Wl := ([], [], [])
def vq_404 (x_ : Int) (t_ : Int) (F_ : Int) (S0_ : sm_S) (u_ : Option sm_V) (S1_ : sm_S) : Prop := S0_ = S1_ ∧ ∃ v_ : Int, u_ = some (.inl v_) ∧ (v_ = cst F_ S0_ x_ t_ ∧ 0 ≤ v_ ∧ v_ ≤ 1000000000)
set_option maxHeartbeats 400000 in
set_option maxRecDepth 20000 in
theorem vc_404 {sc_ : Nat × (Nat → Int)} (x_ : Int) (t_ : Int) (F_ : Int) (S0_ : sm_S) (hI_ : gi S0_) (hf_ : S0_.2.2.1 160 0 (S0_.1 13 0 105).toNat = F_) (hx_ : 0 ≤ x_ ∧ x_ ≤ 1012 ∧ 0 ≤ t_ ∧ t_ ≤ 1) : sm_T (mt_P sc_) 1 404 (0, [some (.inr (.inr (some (13, 0)))), some (.inl x_), some (.inl t_)], [], S0_) (fun ro9_ => ∃ u_ S1_, ro9_ = (.inl u_, S1_, 0) ∧ vq_404 x_ t_ F_ S0_ u_ S1_) := by
  have hF_ : ai_fr (sx_W vw_404) S0_ S0_ := ai_fr_rf
  refine sm_T_go 2 (c1 := (2, [some (.inr (.inr (some (13, 0)))), some (.inl x_), some (.inl t_)], [.inl x_, .inr (.inr (some (13, 0)))], S0_)) rfl ?_
  refine sm_T_cal (d1 := 0) (Q1 := vq_395 x_ F_ S0_) rfl rfl (by decide) (vc_395 x_ F_ S0_ hI_ (by exact hf_) (by omega)) (fun u_ Sx1_ px4_ => ?_)
  obtain ⟨rfl, vx6_, rfl, px4_⟩ := px4_
  have e2_ := px4_
  refine sm_T_b0 (a := 0) (z := 16) rfl (fun cx7_ => ?_) (fun cx7_ => ?_)
  · have cx7_ : vx6_ = 0 := of_decide_eq_true cx7_
    refine sm_T_go 1 (c1 := (22, [some (.inr (.inr (some (13, 0)))), some (.inl x_), some (.inl t_)], [.inl t_], S0_)) rfl ?_
    refine sm_T_b0 (a := 1) (z := 7) rfl (fun cx8_ => ?_) (fun cx8_ => ?_)
    · have cx8_ : t_ ≠ 0 := of_decide_eq_true cx8_
      have bx9_ : 0 ≤ S0_.1 13 0 108 ∧ S0_.1 13 0 108 ≤ 1000000000 := hI_.1 13 0 108 rfl
      refine sm_T_go 2 (c1 := (33, [some (.inr (.inr (some (13, 0)))), some (.inl x_), some (.inl t_)], [.inl (S0_.1 13 0 108)], S0_)) rfl ?_
      refine sm_T_ri rfl ⟨_, _, rfl, rfl, _, rfl, ?_⟩
      refine ⟨?_, by omega, by omega⟩
      unfold cst
      first | rw [if_pos ⟨by omega, by omega⟩] | (rw [if_neg (by omega)]; first | rw [if_pos (by omega)] | rw [if_neg (by omega)])
    · have cx8_ : ¬ (t_ ≠ 0) := of_decide_eq_false cx8_
      refine sm_T_go 2 (c1 := (33, [some (.inr (.inr (some (13, 0)))), some (.inl x_), some (.inl t_)], [.inl 0], S0_)) rfl ?_
      refine sm_T_ri rfl ⟨_, _, rfl, rfl, _, rfl, ?_⟩
      refine ⟨?_, by omega, by omega⟩
      unfold cst
      first | rw [if_pos ⟨by omega, by omega⟩] | (rw [if_neg (by omega)]; first | rw [if_pos (by omega)] | rw [if_neg (by omega)])
  · have cx7_ : ¬ (vx6_ = 0) := of_decide_eq_false cx7_
    refine sm_T_go 4 (c1 := (14, [some (.inr (.inr (some (13, 0)))), some (.inl x_), some (.inl t_)], [.inl x_, .inl 2, .inr (.inr (some (210, 0)))], S0_)) rfl ?_
    refine sm_T_bin (w := 2 * x_) rfl (bi_mul (by omega) (by omega) (by omega)) ?_ -- pc_ 14
    refine sm_T_go 1 (c1 := (16, [some (.inr (.inr (some (13, 0)))), some (.inl x_), some (.inl t_)], [.inl t_, .inl (2 * x_), .inr (.inr (some (210, 0)))], S0_)) rfl ?_
    refine sm_T_bin (w := 2 * x_ + t_) rfl (bi_add (by omega) (by omega) (by omega)) ?_ -- pc_ 16
    refine sm_T_iald (n := 4096) rfl rfl (by omega) (by omega) ?_
    have bx10_ : 0 ≤ S0_.2.2.1 210 0 (2 * x_ + t_).toNat ∧ S0_.2.2.1 210 0 (2 * x_ + t_).toNat ≤ 1000000000 := hI_.2 210 0 _
    refine sm_T_go 1 (c1 := (33, [some (.inr (.inr (some (13, 0)))), some (.inl x_), some (.inl t_)], [.inl (S0_.2.2.1 210 0 (2 * x_ + t_).toNat)], S0_)) rfl ?_
    refine sm_T_ri rfl ⟨_, _, rfl, rfl, _, rfl, ?_⟩
    refine ⟨?_, by omega, by omega⟩
    unfold cst
    first | rw [if_pos ⟨by omega, by omega⟩] | (rw [if_neg (by omega)]; first | rw [if_pos (by omega)] | rw [if_neg (by omega)])
/-! M_.tryWay -/
/-! M_.tryCell -/
/-- what making a_ literal costs, and how_ -/
def ned (S_ : sm_S) (w_ o_ : Int) : Prop := (S_.2.2.1 211 0 w_.toNat = 1 ∧ S_.2.2.1 206 0 o_.toNat + S_.1 13 0 108 < S_.2.2.1 206 0 w_.toNat ∧ S_.2.2.1 210 0 w_.toNat = S_.2.2.1 206 0 o_.toNat + S_.1 13 0 108) ∨ (S_.2.2.1 211 0 w_.toNat = 0 ∧ S_.2.2.1 210 0 w_.toNat = S_.2.2.1 206 0 w_.toNat)
def wok2 (F_ n_ : Int) (S_ : sm_S) : Prop := wyc F_ n_ S_ (2 * n_) ∧ wyc F_ n_ S_ (2 * n_ + 1) ∧ ned S_ (2 * n_) (2 * n_ + 1) ∧ ned S_ (2 * n_ + 1) (2 * n_)
def wf3 (n_ : Int) (S_ S'_ : sm_S) : Prop := wf2 n_ S_ S'_ ∧ ∀ j_, (j_ < 2 * n_.toNat ∨ 2 * n_.toNat + 2 ≤ j_) → S'_.2.2.1 210 0 j_ = S_.2.2.1 210 0 j_ ∧ S'_.2.2.1 211 0 j_ = S_.2.2.1 211 0 j_
def wal9 (F_ N_ : Int) (S_ : sm_S) : Prop := ∀ n_ : Int, F_ ≤ n_ → n_ < N_ → S_.2.2.1 202 0 n_.toNat = 1 → wok2 F_ n_ S_
theorem wok2_cg {F_ n_ m_ : Int} {S_ S'_ : sm_S} (hI_ : gi S'_) (h_ : wok2 F_ m_ S_) (g_ : wf3 n_ S_ S'_) (hm_ : 0 ≤ m_) (hn_ : m_ < n_) (e5_ : S'_.2.2.1 185 0 = S_.2.2.1 185 0) (e106_ : S'_.1 13 0 106 = S_.1 13 0 106) (e108_ : S'_.1 13 0 108 = S_.1 13 0 108) (e2_ : S'_.2.2.1 202 0 = S_.2.2.1 202 0) (e3_ : S'_.2.2.1 203 0 = S_.2.2.1 203 0) : wok2 F_ m_ S'_ := by
  have ec : ∀ x_ t_ : Int, 1 ≤ x_ → x_ < m_ → 0 ≤ t_ → t_ ≤ 1 → cst F_ S'_ x_ t_ = cst F_ S_ x_ t_ := fun x_ t_ a_ b_ c_ d_ => by
    unfold cst
    rw [e3_, e108_, (g_.2 (2 * x_ + t_).toNat (by omega)).1]
  have q_ : ∀ l_ : Int, l_ = 2 * m_ ∨ l_ = 2 * m_ + 1 → wyc F_ m_ S_ l_ → wyc F_ m_ S'_ l_ := fun l_ hl_ k_ => by
    have w_ := g_.1.1 l_.toNat (by omega)
    exact wyc_cg hI_ k_ (by omega) w_.1 w_.2.1 w_.2.2 (fun k_ k0_ k1_ => g_.1.2 _ (by omega)) e5_ e106_ e2_ ec
  have r_ : ∀ l_ o_ : Int, (l_ = 2 * m_ ∨ l_ = 2 * m_ + 1) → (o_ = 2 * m_ ∨ o_ = 2 * m_ + 1) → ned S_ l_ o_ → ned S'_ l_ o_ := fun l_ o_ hl_ ho_ k_ => by
    unfold ned
    rw [(g_.2 l_.toNat (by omega)).1, (g_.2 l_.toNat (by omega)).2, (g_.1.1 l_.toNat (by omega)).1, (g_.1.1 o_.toNat (by omega)).1, e108_]
    exact k_
  exact ⟨q_ _ (Or.inl rfl) h_.1, q_ _ (Or.inr rfl) h_.2.1, r_ _ _ (Or.inl rfl) (Or.inr rfl) h_.2.2.1, r_ _ _ (Or.inr rfl) (Or.inl rfl) h_.2.2.2⟩
/-! M_.findWays -/
def vw_407 : sx_Wl := ([(13, 114), (13, 123), (13, 127)], [204, 205, 206, 207, 208, 209, 210, 211, 212, 213, 214, 215], [])
end
/-! 99.zs8 -/
section
/-! the reference: gates made; written by wip/p55/gen/vg -/

/-! the_ reference: gates made -/
def isn (f_ : Nat → Int) (k_ : Nat) : Int := if f_ k_ = -1 then 1 else 0
theorem isn_1 {f_ : Nat → Int} {k_ : Nat} : isn f_ k_ = 1 ↔ f_ k_ = -1 := by
  unfold isn
  split
  · rename_i h_
    exact ⟨fun _ => h_, fun _ => rfl⟩
  · rename_i h_
    exact ⟨fun z_ => absurd z_ (by decide), fun z_ => absurd z_ h_⟩
/-- how_ much is_ still to_ be_ made -/
def inc (N_ : Int) (S_ : sm_S) : Nat := cn1 (isn (S_.2.2.1 218 0)) (2 * N_).toNat + cn1 (isn (S_.2.2.1 219 0)) N_.toNat
/-- gates take nets from below -/
def mad (F_ : Int) (S_ : sm_S) : Prop := ∀ g_ : Int, 0 ≤ g_ → g_ < S_.1 13 0 129 → (0 ≤ S_.2.2.1 216 0 g_.toNat ∨ S_.1 13 0 134 = 1) ∧ ∀ k_ : Int, 0 ≤ k_ → k_ < 3 → (-1 ≤ S_.2.2.1 217 0 (3 * g_ + k_).toNat ∧ S_.2.2.1 217 0 (3 * g_ + k_).toNat < F_ - 1 + g_) ∧ ((k_ = 0 ∨ (0 ≤ S_.2.2.1 216 0 g_.toNat ∧ k_ < S_.2.2.1 185 0 (12 * S_.1 13 0 106 + S_.2.2.1 216 0 g_.toNat).toNat)) → 0 ≤ S_.2.2.1 217 0 (3 * g_ + k_).toNat)
def nok (F_ g_ v_ : Int) : Prop := v_ = -1 ∨ (0 ≤ v_ ∧ v_ < F_ - 1 + g_)
def gst (F_ N_ : Int) (S_ : sm_S) : Prop := (0 ≤ S_.1 13 0 129 ∧ S_.1 13 0 129 + (inc N_ S_ : Int) ≤ 3 * N_) ∧ (∀ w_ : Int, 2 * F_ ≤ w_ → w_ < 2 * N_ → nok F_ (S_.1 13 0 129) (S_.2.2.1 218 0 w_.toNat)) ∧ (∀ n_ : Int, 1 ≤ n_ → n_ < N_ → nok F_ (S_.1 13 0 129) (S_.2.2.1 219 0 n_.toNat)) ∧ mad F_ S_
def lnf (F_ : Int) (S_ : sm_S) (x_ : Int) : Int := if x_ < F_ then x_ - 1 else S_.2.2.1 218 0 (2 * x_).toNat
def noi (F_ : Int) (S_ : sm_S) (x_ t_ : Int) : Int := if F_ ≤ x_ ∧ S_.2.2.1 203 0 x_.toNat = 0 then S_.2.2.1 218 0 (2 * x_ + t_).toNat else if t_ = 0 then lnf F_ S_ x_ else S_.2.2.1 219 0 x_.toNat
theorem lnf_b {F_ N_ x_ : Int} {S_ : sm_S} (h_ : gst F_ N_ S_) (hx_ : 1 ≤ x_ ∧ x_ < N_) : nok F_ (S_.1 13 0 129) (lnf F_ S_ x_) := by
  unfold lnf
  have a_ := h_.1.1
  split
  · right
    omega
  · exact h_.2.1 (2 * x_) (by omega) (by omega)
theorem noi_b {F_ N_ x_ t_ : Int} {S_ : sm_S} (h_ : gst F_ N_ S_) (hx_ : 1 ≤ x_ ∧ x_ < N_) (ht_ : 0 ≤ t_ ∧ t_ ≤ 1) : nok F_ (S_.1 13 0 129) (noi F_ S_ x_ t_) := by
  unfold noi
  split
  · exact h_.2.1 (2 * x_ + t_) (by omega) (by omega)
  · split
    · exact lnf_b h_ hx_
    · exact h_.2.2.1 x_ hx_.1 hx_.2
/-- a_ task more -/
def jap (s_ w_ : Int) (S_ S'_ : sm_S) : Prop := S'_.1 13 0 137 = S_.1 13 0 137 + 1 ∧ (∀ j_, S'_.2.2.1 220 0 j_ = if j_ = (S_.1 13 0 137).toNat then w_ else S_.2.2.1 220 0 j_) ∧ ∀ j_, S'_.2.2.1 221 0 j_ = if j_ = (S_.1 13 0 137).toNat then s_ else S_.2.2.1 221 0 j_
def jgd (F_ N_ : Int) (S_ : sm_S) (s_ w_ : Int) : Prop := (s_ = 1 ∧ 1 ≤ w_ ∧ w_ < N_ ∧ S_.2.2.1 202 0 w_.toNat = 1 ∧ (w_ < F_ ∨ (S_.2.2.1 203 0 w_.toNat = 1 ∧ S_.2.2.1 210 0 (2 * w_).toNat < 1000000000))) ∨ (s_ = 0 ∧ 2 * F_ ≤ w_ ∧ w_ < 2 * N_ ∧ S_.2.2.1 202 0 (w_ / 2).toNat = 1 ∧ S_.2.2.1 210 0 w_.toNat < 1000000000)
def jrk (S_ : sm_S) (s_ w_ : Int) : Int := if s_ = 1 then 3 * w_ + 2 else 3 * (w_ / 2) + S_.2.2.1 211 0 w_.toNat
def jdn (S_ : sm_S) (s_ w_ : Int) : Prop := (s_ = 1 ∧ S_.2.2.1 219 0 w_.toNat ≠ -1) ∨ (s_ ≠ 1 ∧ S_.2.2.1 218 0 w_.toNat ≠ -1)
def jsk (F_ N_ : Int) (S_ : sm_S) : Prop := ∀ i_ : Int, 0 ≤ i_ → i_ < S_.1 13 0 137 → jgd F_ N_ S_ (S_.2.2.1 221 0 i_.toNat) (S_.2.2.1 220 0 i_.toNat) ∧ jrk S_ (S_.2.2.1 221 0 i_.toNat) (S_.2.2.1 220 0 i_.toNat) + i_ ≤ 3042
noncomputable def tpv_ (S_ : sm_S) : Int := if S_.1 13 0 137 = 0 then 0 else if (S_.2.2.1 221 0 (S_.1 13 0 137 - 1).toNat = 1 ∧ S_.2.2.1 219 0 (S_.2.2.1 220 0 (S_.1 13 0 137 - 1).toNat).toNat ≠ -1) ∨ (S_.2.2.1 221 0 (S_.1 13 0 137 - 1).toNat ≠ 1 ∧ S_.2.2.1 218 0 (S_.2.2.1 220 0 (S_.1 13 0 137 - 1).toNat).toNat ≠ -1) then 4000 + S_.1 13 0 137 else jrk S_ (S_.2.2.1 221 0 (S_.1 13 0 137 - 1).toNat) (S_.2.2.1 220 0 (S_.1 13 0 137 - 1).toNat)
noncomputable def mea_ (N_ : Int) (S_ : sm_S) : Nat := 20000 * inc N_ S_ + (tpv_ S_).toNat
theorem jrk_b {F_ N_ s_ w_ : Int} {S_ : sm_S} (hI_ : gi S_) (h_ : jgd F_ N_ S_ s_ w_) (hF_ : 1 ≤ F_) : 0 ≤ jrk S_ s_ w_ := by
  unfold jrk
  have c_ : 0 ≤ S_.2.2.1 211 0 w_.toNat := (hI_.2 211 0 _).1
  rcases h_ with h_ | h_
  · rw [if_pos h_.1]; omega
  · rw [if_neg (by omega)]; omega
theorem jsk_c {F_ N_ : Int} {S_ : sm_S} (hI_ : gi S_) (h_ : jsk F_ N_ S_) (hF_ : 1 ≤ F_) : S_.1 13 0 137 ≤ 3043 := by
  by_cases z_ : S_.1 13 0 137 ≤ 3043
  · exact z_
  · have q_ := h_ 3043 (by omega) (by omega)
    have r_ := jrk_b hI_ q_.1 hF_
    omega
theorem tpv_b {F_ N_ : Int} {S_ : sm_S} (hI_ : gi S_) (h_ : jsk F_ N_ S_) (hF_ : 1 ≤ F_) (hc_ : 0 ≤ S_.1 13 0 137) : 0 ≤ tpv_ S_ ∧ tpv_ S_ ≤ 7043 := by
  have c_ := jsk_c hI_ h_ hF_
  unfold tpv_
  split
  · omega
  · split
    · omega
    · have q_ := h_ (S_.1 13 0 137 - 1) (by omega) (by omega)
      have r_ := jrk_b hI_ q_.1 hF_
      omega
/-- the_ same rows for_ tasks: only the_ rows of_ gates change -/
theorem jgd_cg {F_ N_ s_ w_ : Int} {S_ S'_ : sm_S} (h_ : jgd F_ N_ S_ s_ w_) (e2_ : S'_.2.2.1 202 0 = S_.2.2.1 202 0) (e3_ : S'_.2.2.1 203 0 = S_.2.2.1 203 0) (e10 : S'_.2.2.1 210 0 = S_.2.2.1 210 0) : jgd F_ N_ S'_ s_ w_ := by
  unfold jgd
  rw [e2_, e3_, e10]
  exact h_
theorem jrk_cg {s_ w_ : Int} {S_ S'_ : sm_S} (e11 : S'_.2.2.1 211 0 = S_.2.2.1 211 0) : jrk S'_ s_ w_ = jrk S_ s_ w_ := by
  unfold jrk
  rw [e11]
theorem jsk_cg {F_ N_ : Int} {S_ S'_ : sm_S} (h_ : jsk F_ N_ S_) (ej_ : S'_.1 13 0 137 = S_.1 13 0 137) (e20_ : S'_.2.2.1 220 0 = S_.2.2.1 220 0) (e21_ : S'_.2.2.1 221 0 = S_.2.2.1 221 0) (e2_ : S'_.2.2.1 202 0 = S_.2.2.1 202 0) (e3_ : S'_.2.2.1 203 0 = S_.2.2.1 203 0) (e10 : S'_.2.2.1 210 0 = S_.2.2.1 210 0) (e11 : S'_.2.2.1 211 0 = S_.2.2.1 211 0) : jsk F_ N_ S'_ := fun i_ a_ b_ => by
  rw [ej_] at b_
  rw [e20_, e21_, jrk_cg e11]
  exact ⟨jgd_cg (h_ i_ a_ b_).1 e2_ e3_ e10, (h_ i_ a_ b_).2⟩
theorem jsk_ap {F_ N_ s_ w_ : Int} {S_ S'_ : sm_S} (h_ : jsk F_ N_ S_) (a_ : jap s_ w_ S_ S'_) (hc_ : 0 ≤ S_.1 13 0 137) (g_ : jgd F_ N_ S_ s_ w_) (r_ : jrk S_ s_ w_ + S_.1 13 0 137 ≤ 3042) (e2_ : S'_.2.2.1 202 0 = S_.2.2.1 202 0) (e3_ : S'_.2.2.1 203 0 = S_.2.2.1 203 0) (e10 : S'_.2.2.1 210 0 = S_.2.2.1 210 0) (e11 : S'_.2.2.1 211 0 = S_.2.2.1 211 0) : jsk F_ N_ S'_ := fun i_ i0_ i1_ => by
  rw [a_.1] at i1_
  rw [a_.2.1, a_.2.2, jrk_cg e11]
  by_cases z_ : i_.toNat = (S_.1 13 0 137).toNat
  · rw [if_pos z_, if_pos z_]
    exact ⟨jgd_cg g_ e2_ e3_ e10, by omega⟩
  · rw [if_neg z_, if_neg z_]
    exact ⟨jgd_cg (h_ i_ i0_ (by omega)).1 e2_ e3_ e10, (h_ i_ i0_ (by omega)).2⟩
theorem inc_cg {N_ : Int} {S_ S'_ : sm_S} (e1_ : S'_.2.2.1 218 0 = S_.2.2.1 218 0) (e2_ : S'_.2.2.1 219 0 = S_.2.2.1 219 0) : inc N_ S'_ = inc N_ S_ := by
  unfold inc
  rw [e1_, e2_]
theorem inc_g {N_ w_ v_ : Int} {S_ S'_ : sm_S} (hw_ : 0 ≤ w_ ∧ w_ < 2 * N_) (h0_ : S_.2.2.1 218 0 w_.toNat = -1) (hv_ : v_ ≠ -1) (e1_ : ∀ j_, S'_.2.2.1 218 0 j_ = if j_ = w_.toNat then v_ else S_.2.2.1 218 0 j_) (e2_ : S'_.2.2.1 219 0 = S_.2.2.1 219 0) : inc N_ S'_ + 1 = inc N_ S_ := by
  have u_ := cn1_up (f := isn (S'_.2.2.1 218 0)) (g := isn (S_.2.2.1 218 0)) (j := w_.toNat) (fun z_ => by have := isn_1.mp z_; rw [e1_, if_pos rfl] at this; exact hv_ this) (isn_1.mpr h0_) (fun k_ hk_ => by unfold isn; rw [e1_, if_neg hk_]) (n := (2 * N_).toNat) (by omega)
  unfold inc
  rw [e2_]
  omega
theorem inc_t {N_ w_ v_ : Int} {S_ S'_ : sm_S} (hw_ : 0 ≤ w_ ∧ w_ < N_) (h0_ : S_.2.2.1 219 0 w_.toNat = -1) (hv_ : v_ ≠ -1) (e1_ : ∀ j_, S'_.2.2.1 219 0 j_ = if j_ = w_.toNat then v_ else S_.2.2.1 219 0 j_) (e2_ : S'_.2.2.1 218 0 = S_.2.2.1 218 0) : inc N_ S'_ + 1 = inc N_ S_ := by
  have u_ := cn1_up (f := isn (S'_.2.2.1 219 0)) (g := isn (S_.2.2.1 219 0)) (j := w_.toNat) (fun z_ => by have := isn_1.mp z_; rw [e1_, if_pos rfl] at this; exact hv_ this) (isn_1.mpr h0_) (fun k_ hk_ => by unfold isn; rw [e1_, if_neg hk_]) (n := N_.toNat) (by omega)
  unfold inc
  rw [e2_]
  omega
theorem nok_up {F_ g_ g'_ v_ : Int} (h_ : nok F_ g_ v_) (hg_ : g_ ≤ g'_) : nok F_ g'_ v_ := by
  rcases h_ with h_ | h_
  · exact Or.inl h_
  · exact Or.inr ⟨h_.1, by omega⟩
/-- a_ gate is_ made: fewer things are_ left -/
theorem gst_g {F_ N_ w_ v_ : Int} {S_ S1_ S'_ : sm_S} (h_ : gst F_ N_ S_) (hw_ : 2 * F_ ≤ w_ ∧ w_ < 2 * N_) (hF_ : 0 ≤ F_) (h0_ : S_.2.2.1 218 0 w_.toNat = -1) (hv_ : v_ = F_ - 1 + S_.1 13 0 129 ∧ 0 ≤ v_) (eg_ : S'_.1 13 0 129 = S_.1 13 0 129 + 1) (e1_ : ∀ j_, S'_.2.2.1 218 0 j_ = if j_ = w_.toNat then v_ else S_.2.2.1 218 0 j_) (e2_ : S'_.2.2.1 219 0 = S_.2.2.1 219 0) (m_ : mad F_ S'_) : gst F_ N_ S'_ ∧ inc N_ S'_ + 1 = inc N_ S_ := by
  have u_ := inc_g (N_ := N_) ⟨by omega, hw_.2⟩ h0_ (by omega) e1_ e2_
  refine ⟨⟨by have := h_.1; omega, fun x_ x0_ x1_ => ?_, fun x_ x0_ x1_ => ?_, m_⟩, u_⟩
  · rw [e1_, eg_]
    split
    · right
      omega
    · exact nok_up (h_.2.1 x_ x0_ x1_) (by omega)
  · rw [e2_, eg_]
    exact nok_up (h_.2.2.1 x_ x0_ x1_) (by omega)
theorem gst_t {F_ N_ w_ v_ : Int} {S_ S1_ S'_ : sm_S} (h_ : gst F_ N_ S_) (hw_ : 1 ≤ w_ ∧ w_ < N_) (h0_ : S_.2.2.1 219 0 w_.toNat = -1) (hv_ : v_ = F_ - 1 + S_.1 13 0 129 ∧ 0 ≤ v_) (eg_ : S'_.1 13 0 129 = S_.1 13 0 129 + 1) (e1_ : ∀ j_, S'_.2.2.1 219 0 j_ = if j_ = w_.toNat then v_ else S_.2.2.1 219 0 j_) (e2_ : S'_.2.2.1 218 0 = S_.2.2.1 218 0) (m_ : mad F_ S'_) : gst F_ N_ S'_ ∧ inc N_ S'_ + 1 = inc N_ S_ := by
  have u_ := inc_t (N_ := N_) ⟨by omega, hw_.2⟩ h0_ (by omega) e1_ e2_
  refine ⟨⟨by have := h_.1; omega, fun x_ x0_ x1_ => ?_, fun x_ x0_ x1_ => ?_, m_⟩, u_⟩
  · rw [e2_, eg_]
    exact nok_up (h_.2.1 x_ x0_ x1_) (by omega)
  · rw [e1_, eg_]
    split
    · right
      omega
    · exact nok_up (h_.2.2.1 x_ x0_ x1_) (by omega)
theorem gst_cg {F_ N_ : Int} {S_ S'_ : sm_S} (h_ : gst F_ N_ S_) (e_ : S'_.1 13 0 129 = S_.1 13 0 129) (e1_ : S'_.2.2.1 218 0 = S_.2.2.1 218 0) (e2_ : S'_.2.2.1 219 0 = S_.2.2.1 219 0) (e6_ : S'_.2.2.1 216 0 = S_.2.2.1 216 0) (e7_ : S'_.2.2.1 217 0 = S_.2.2.1 217 0) (e5_ : S'_.2.2.1 185 0 = S_.2.2.1 185 0) (e106_ : S'_.1 13 0 106 = S_.1 13 0 106) (e134_ : S'_.1 13 0 134 = S_.1 13 0 134) : gst F_ N_ S'_ := by
  unfold gst mad
  rw [inc_cg e1_ e2_, e_, e1_, e2_, e6_, e7_, e5_, e106_, e134_]
  exact h_
theorem mea_c {F_ N_ : Int} {S_ S'_ : sm_S} (hI_ : gi S'_) (h_ : jsk F_ N_ S'_) (hF_ : 1 ≤ F_) (hc_ : 0 ≤ S'_.1 13 0 137) (u_ : inc N_ S'_ + 1 = inc N_ S_) : mea_ N_ S'_ < mea_ N_ S_ := by
  have q_ := tpv_b hI_ h_ hF_ hc_
  unfold mea_
  omega
/-! M_.sources -/
def vw_409 : sx_Wl := ([], [], [])
def vq_409 (F_ : Int) (N_ : Int) (d_ : Int) (S0_ : sm_S) (u_ : Option sm_V) (S1_ : sm_S) : Prop := S0_ = S1_ ∧ ∃ v_ : Int, u_ = some (.inl v_) ∧ (v_ = F_ - 1)
set_option maxHeartbeats 400000 in
set_option maxRecDepth 20000 in
theorem vc_409 {sc_ : Nat × (Nat → Int)} (F_ : Int) (N_ : Int) (d_ : Int) (S0_ : sm_S) (hI_ : gi S0_) (hd_ : dmp F_ N_ d_ S0_) : sm_T (mt_P sc_) 0 409 (0, [some (.inr (.inr (some (13, 0))))], [], S0_) (fun ro9_ => ∃ u_ S1_, ro9_ = (.inl u_, S1_, 0) ∧ vq_409 F_ N_ d_ S0_ u_ S1_) := by
  have hF_ : ai_fr (sx_W vw_409) S0_ S0_ := ai_fr_rf
  have d1_ := hd_.1
  have q9_ : S0_.2.2.1 154 0 d_.toNat + S0_.2.2.1 155 0 d_.toNat = F_ - 1 := by (obtain ⟨F1_, I9_, R9_, N1_, k1_, -⟩ := hd_.2; omega)
  have e1_ : S0_.2.2.1 154 0 (S0_.1 13 0 105).toNat = S0_.2.2.1 154 0 d_.toNat := by rw [d1_.2.2.1]
  have e2_ : S0_.2.2.1 155 0 (S0_.1 13 0 105).toNat = S0_.2.2.1 155 0 d_.toNat := by rw [d1_.2.2.1]
  have bx1_ : 0 ≤ S0_.1 13 0 105 ∧ S0_.1 13 0 105 ≤ 5 := hI_.1 13 0 105 rfl
  refine sm_T_go 4 (c1 := (8, [some (.inr (.inr (some (13, 0))))], [.inl (S0_.1 13 0 105), .inr (.inr (some (154, 0)))], S0_)) rfl ?_
  refine sm_T_iald (n := 6) rfl rfl (by omega) (by omega) ?_
  have bx2_ : 0 ≤ S0_.2.2.1 154 0 (S0_.1 13 0 105).toNat ∧ S0_.2.2.1 154 0 (S0_.1 13 0 105).toNat ≤ 12 := hI_.2 154 0 _
  refine sm_T_go 4 (c1 := (17, [some (.inr (.inr (some (13, 0))))], [.inl (S0_.1 13 0 105), .inr (.inr (some (155, 0))), .inl (S0_.2.2.1 154 0 (S0_.1 13 0 105).toNat)], S0_)) rfl ?_
  refine sm_T_iald (n := 6) rfl rfl (by omega) (by omega) ?_
  have bx3_ : 0 ≤ S0_.2.2.1 155 0 (S0_.1 13 0 105).toNat ∧ S0_.2.2.1 155 0 (S0_.1 13 0 105).toNat ≤ 6 := hI_.2 155 0 _
  refine sm_T_bin (w := (S0_.2.2.1 154 0 (S0_.1 13 0 105).toNat) + (S0_.2.2.1 155 0 (S0_.1 13 0 105).toNat)) rfl (bi_add (by omega) (by omega) (by omega)) ?_ -- pc_ 18
  refine sm_T_ri rfl ⟨_, _, rfl, rfl, _, rfl, ?_⟩
  omega
/-! M_.make -/
/-! M_.turned -/
/-! M_.job -/
def vw_412 : sx_Wl := ([(13, 137)], [220, 221], [])
def vq_412 (s_ : Int) (w_ : Int) (S0_ : sm_S) (u_ : Option sm_V) (S1_ : sm_S) : Prop := u_ = none ∧ gi S1_ ∧ ai_fr (sx_W vw_412) S0_ S1_ ∧ (jap s_ w_ S0_ S1_)
set_option maxHeartbeats 400000 in
set_option maxRecDepth 20000 in
theorem vc_412 {sc_ : Nat × (Nat → Int)} (s_ : Int) (w_ : Int) (S0_ : sm_S) (hI_ : gi S0_) (hj_ : (S0_.1 13 0 137) ≤ 8190) (hs_ : 0 ≤ s_ ∧ s_ ≤ 1 ∧ 0 ≤ w_ ∧ w_ ≤ 4095) : sm_T (mt_P sc_) 0 412 (0, [some (.inr (.inr (some (13, 0)))), some (.inl s_), some (.inl w_)], [], S0_) (fun ro9_ => ∃ u_ S1_, ro9_ = (.inl u_, S1_, 0) ∧ vq_412 s_ w_ S0_ u_ S1_) := by
  have hF_ : ai_fr (sx_W vw_412) S0_ S0_ := ai_fr_rf
  have bx1_ : 0 ≤ S0_.1 13 0 137 ∧ S0_.1 13 0 137 ≤ 8191 := hI_.1 13 0 137 rfl
  refine sm_T_go 5 (c1 := (9, [some (.inr (.inr (some (13, 0)))), some (.inl s_), some (.inl w_)], [.inl w_, .inl (S0_.1 13 0 137), .inr (.inr (some (220, 0)))], S0_)) rfl ?_
  refine sm_T_iast (n := 8192) rfl rfl (by omega) (by omega) ?_
  have hIx2_ : gi (sm_aI S0_ 220 0 (S0_.1 13 0 137).toNat w_) := gi_aI hI_ (show 0 ≤ w_ ∧ w_ ≤ 4095 from ⟨by omega, by omega⟩)
  have hFx3_ : ai_fr (sx_W vw_412) S0_ (sm_aI S0_ 220 0 (S0_.1 13 0 137).toNat w_) := ai_fr_tr hF_ (ai_fr_aI rfl)
  refine sm_T_go 5 (c1 := (19, [some (.inr (.inr (some (13, 0)))), some (.inl s_), some (.inl w_)], [.inl s_, .inl (S0_.1 13 0 137), .inr (.inr (some (221, 0)))], sm_aI S0_ 220 0 (S0_.1 13 0 137).toNat w_)) rfl ?_
  refine sm_T_iast (n := 8192) rfl rfl (by omega) (by omega) ?_
  have hIx4_ : gi (sm_aI (sm_aI S0_ 220 0 (S0_.1 13 0 137).toNat w_) 221 0 (S0_.1 13 0 137).toNat s_) := gi_aI hIx2_ (show 0 ≤ s_ ∧ s_ ≤ 1 from ⟨by omega, by omega⟩)
  have hFx5_ : ai_fr (sx_W vw_412) S0_ (sm_aI (sm_aI S0_ 220 0 (S0_.1 13 0 137).toNat w_) 221 0 (S0_.1 13 0 137).toNat s_) := ai_fr_tr hFx3_ (ai_fr_aI rfl)
  refine sm_T_go 4 (c1 := (26, [some (.inr (.inr (some (13, 0)))), some (.inl s_), some (.inl w_)], [.inl 1, .inl (S0_.1 13 0 137), .inr (.inr (some (13, 0)))], sm_aI (sm_aI S0_ 220 0 (S0_.1 13 0 137).toNat w_) 221 0 (S0_.1 13 0 137).toNat s_)) rfl ?_
  refine sm_T_bin (w := (S0_.1 13 0 137) + 1) rfl (bi_add (by omega) (by omega) (by omega)) ?_ -- pc_ 26
  have hIx6_ : gi (sm_pI (sm_aI (sm_aI S0_ 220 0 (S0_.1 13 0 137).toNat w_) 221 0 (S0_.1 13 0 137).toNat s_) 13 0 137 ((S0_.1 13 0 137) + 1)) := gi_pI hIx4_ (show 0 ≤ (S0_.1 13 0 137) + 1 ∧ (S0_.1 13 0 137) + 1 ≤ 8191 from ⟨by omega, by omega⟩)
  have hFx7_ : ai_fr (sx_W vw_412) S0_ (sm_pI (sm_aI (sm_aI S0_ 220 0 (S0_.1 13 0 137).toNat w_) 221 0 (S0_.1 13 0 137).toNat s_) 13 0 137 ((S0_.1 13 0 137) + 1)) := ai_fr_tr hFx5_ (ai_fr_pI rfl)
  refine sm_T_go 1 (c1 := (30, [some (.inr (.inr (some (13, 0)))), some (.inl s_), some (.inl w_)], [], sm_pI (sm_aI (sm_aI S0_ 220 0 (S0_.1 13 0 137).toNat w_) 221 0 (S0_.1 13 0 137).toNat s_) 13 0 137 ((S0_.1 13 0 137) + 1))) rfl ?_
  refine sm_T_rv rfl ⟨_, _, rfl, rfl, hIx6_, hFx7_, ?_⟩
  refine ⟨?_, fun j9_ => ?_, fun j9_ => ?_⟩ <;> (try simp only [rd_eq, rd_ne, rf_eq, rf_nk, rf_nt, rd_fa, rd_af, rd_fl, rd_al, rd_lf, rd_la, rd_leq, rd_lne, rd_fr, rd_ar, ne_eq, Nat.reduceEqDiff, not_false_eq_true])
/-! M_.isLeaf -/
def vw_413 : sx_Wl := ([], [], [])
def vq_413 (n_ : Int) (F_ : Int) (S0_ : sm_S) (u_ : Option sm_V) (S1_ : sm_S) : Prop := S0_ = S1_ ∧ ∃ v_ : Int, u_ = some (.inl v_) ∧ ((v_ = 0 ∧ F_ ≤ n_ ∧ S0_.2.2.1 203 0 n_.toNat = 0) ∨ (v_ = 1 ∧ (n_ < F_ ∨ S0_.2.2.1 203 0 n_.toNat = 1)))
set_option maxHeartbeats 400000 in
set_option maxRecDepth 20000 in
theorem vc_413 {sc_ : Nat × (Nat → Int)} (n_ : Int) (F_ : Int) (S0_ : sm_S) (hI_ : gi S0_) (hf_ : S0_.2.2.1 160 0 (S0_.1 13 0 105).toNat = F_) (hn_ : 0 ≤ n_ ∧ n_ ≤ 2047) : sm_T (mt_P sc_) 1 413 (0, [some (.inr (.inr (some (13, 0)))), some (.inl n_)], [], S0_) (fun ro9_ => ∃ u_ S1_, ro9_ = (.inl u_, S1_, 0) ∧ vq_413 n_ F_ S0_ u_ S1_) := by
  have hF_ : ai_fr (sx_W vw_413) S0_ S0_ := ai_fr_rf
  refine sm_T_go 2 (c1 := (2, [some (.inr (.inr (some (13, 0)))), some (.inl n_)], [.inl n_, .inr (.inr (some (13, 0)))], S0_)) rfl ?_
  refine sm_T_cal (d1 := 0) (Q1 := vq_395 n_ F_ S0_) rfl rfl (by decide) (vc_395 n_ F_ S0_ hI_ (by exact hf_) (by exact hn_)) (fun u_ Sx1_ px4_ => ?_)
  obtain ⟨rfl, vx6_, rfl, px4_⟩ := px4_
  have e2_ := px4_
  refine sm_T_b0 (a := 1) (z := 7) rfl (fun cx7_ => ?_) (fun cx7_ => ?_)
  · have cx7_ : vx6_ ≠ 0 := of_decide_eq_true cx7_
    refine sm_T_go 1 (c1 := (13, [some (.inr (.inr (some (13, 0)))), some (.inl n_)], [.inl 0], S0_)) rfl ?_
    refine sm_T_rz rfl (by omega) ⟨_, _, rfl, rfl, _, rfl, ?_⟩
    omega
  · have cx7_ : ¬ (vx6_ ≠ 0) := of_decide_eq_false cx7_
    refine sm_T_go 2 (c1 := (13, [some (.inr (.inr (some (13, 0)))), some (.inl n_)], [.inl 1], S0_)) rfl ?_
    refine sm_T_rz rfl (by omega) ⟨_, _, rfl, rfl, _, rfl, ?_⟩
    omega
/-! M_.leafNet -/
def vw_414 : sx_Wl := ([], [], [])
def vq_414 (n_ : Int) (F_ : Int) (S0_ : sm_S) (u_ : Option sm_V) (S1_ : sm_S) : Prop := S0_ = S1_ ∧ ∃ v_ : Int, u_ = some (.inl v_) ∧ (v_ = lnf F_ S0_ n_ ∧ -2 ≤ v_ ∧ v_ ≤ 9000)
set_option maxHeartbeats 400000 in
set_option maxRecDepth 20000 in
theorem vc_414 {sc_ : Nat × (Nat → Int)} (n_ : Int) (F_ : Int) (S0_ : sm_S) (hI_ : gi S0_) (hf_ : S0_.2.2.1 160 0 (S0_.1 13 0 105).toNat = F_) (hn_ : 0 ≤ n_ ∧ n_ ≤ 2047) : sm_T (mt_P sc_) 0 414 (0, [some (.inr (.inr (some (13, 0)))), some (.inl n_)], [], S0_) (fun ro9_ => ∃ u_ S1_, ro9_ = (.inl u_, S1_, 0) ∧ vq_414 n_ F_ S0_ u_ S1_) := by
  have hF_ : ai_fr (sx_W vw_414) S0_ S0_ := ai_fr_rf
  have bx1_ : 0 ≤ S0_.1 13 0 105 ∧ S0_.1 13 0 105 ≤ 5 := hI_.1 13 0 105 rfl
  refine sm_T_go 5 (c1 := (9, [some (.inr (.inr (some (13, 0)))), some (.inl n_)], [.inl (S0_.1 13 0 105), .inr (.inr (some (160, 0))), .inl n_], S0_)) rfl ?_
  refine sm_T_iald (n := 6) rfl rfl (by omega) (by omega) ?_
  have bx2_ : 0 ≤ S0_.2.2.1 160 0 (S0_.1 13 0 105).toNat ∧ S0_.2.2.1 160 0 (S0_.1 13 0 105).toNat ≤ 19 := hI_.2 160 0 _
  refine sm_T_br (a := 3) (z := 9) rfl (fun cx3_ => ?_) (fun cx3_ => ?_)
  · have cx3_ : (S0_.2.2.1 160 0 (S0_.1 13 0 105).toNat) ≤ n_ := of_decide_eq_true cx3_
    refine sm_T_go 4 (c1 := (25, [some (.inr (.inr (some (13, 0)))), some (.inl n_)], [.inl n_, .inl 2, .inr (.inr (some (218, 0)))], S0_)) rfl ?_
    refine sm_T_bin (w := 2 * n_) rfl (bi_mul (by omega) (by omega) (by omega)) ?_ -- pc_ 25
    refine sm_T_iald (n := 4096) rfl rfl (by omega) (by omega) ?_
    have bx4_ : (-2) ≤ S0_.2.2.1 218 0 (2 * n_).toNat ∧ S0_.2.2.1 218 0 (2 * n_).toNat ≤ 9000 := hI_.2 218 0 _
    refine sm_T_ri rfl ⟨_, _, rfl, rfl, _, rfl, ?_⟩
    refine ⟨?_, by omega, by omega⟩
    unfold lnf
    first | rw [if_pos (by omega)] | rw [if_neg (by omega)]
  · have cx3_ : ¬ ((S0_.2.2.1 160 0 (S0_.1 13 0 105).toNat) ≤ n_) := of_decide_eq_false cx3_
    refine sm_T_go 2 (c1 := (15, [some (.inr (.inr (some (13, 0)))), some (.inl n_)], [.inl 1, .inl n_], S0_)) rfl ?_
    refine sm_T_bin (w := n_ - 1) rfl (bi_sub (by omega) (by omega) (by omega)) ?_ -- pc_ 15
    refine sm_T_go 1 (c1 := (27, [some (.inr (.inr (some (13, 0)))), some (.inl n_)], [.inl (n_ - 1)], S0_)) rfl ?_
    refine sm_T_ri rfl ⟨_, _, rfl, rfl, _, rfl, ?_⟩
    refine ⟨?_, by omega, by omega⟩
    unfold lnf
    first | rw [if_pos (by omega)] | rw [if_neg (by omega)]
/-! M_.netOfInput -/
def vw_415 : sx_Wl := ([], [], [])
def vq_415 (x_ : Int) (t_ : Int) (F_ : Int) (S0_ : sm_S) (u_ : Option sm_V) (S1_ : sm_S) : Prop := S0_ = S1_ ∧ ∃ v_ : Int, u_ = some (.inl v_) ∧ (v_ = noi F_ S0_ x_ t_ ∧ -2 ≤ v_ ∧ v_ ≤ 9000)
set_option maxHeartbeats 400000 in
set_option maxRecDepth 20000 in
theorem vc_415 {sc_ : Nat × (Nat → Int)} (x_ : Int) (t_ : Int) (F_ : Int) (S0_ : sm_S) (hI_ : gi S0_) (hf_ : S0_.2.2.1 160 0 (S0_.1 13 0 105).toNat = F_) (hn_ : 0 ≤ x_ ∧ x_ ≤ 2046 ∧ 0 ≤ t_ ∧ t_ ≤ 1) : sm_T (mt_P sc_) 2 415 (0, [some (.inr (.inr (some (13, 0)))), some (.inl x_), some (.inl t_)], [], S0_) (fun ro9_ => ∃ u_ S1_, ro9_ = (.inl u_, S1_, 0) ∧ vq_415 x_ t_ F_ S0_ u_ S1_) := by
  have hF_ : ai_fr (sx_W vw_415) S0_ S0_ := ai_fr_rf
  refine sm_T_go 2 (c1 := (2, [some (.inr (.inr (some (13, 0)))), some (.inl x_), some (.inl t_)], [.inl x_, .inr (.inr (some (13, 0)))], S0_)) rfl ?_
  refine sm_T_cal (d1 := 1) (Q1 := vq_413 x_ F_ S0_) rfl rfl (by decide) (vc_413 x_ F_ S0_ hI_ (by exact hf_) (by omega)) (fun u_ Sx1_ px4_ => ?_)
  obtain ⟨rfl, vx6_, rfl, px4_⟩ := px4_
  have e2_ := px4_
  refine sm_T_b0 (a := 1) (z := 16) rfl (fun cx7_ => ?_) (fun cx7_ => ?_)
  · have cx7_ : vx6_ ≠ 0 := of_decide_eq_true cx7_
    refine sm_T_go 1 (c1 := (22, [some (.inr (.inr (some (13, 0)))), some (.inl x_), some (.inl t_)], [.inl t_], S0_)) rfl ?_
    refine sm_T_b0 (a := 1) (z := 11) rfl (fun cx8_ => ?_) (fun cx8_ => ?_)
    · have cx8_ : t_ ≠ 0 := of_decide_eq_true cx8_
      refine sm_T_go 3 (c1 := (38, [some (.inr (.inr (some (13, 0)))), some (.inl x_), some (.inl t_)], [.inl x_, .inr (.inr (some (219, 0)))], S0_)) rfl ?_
      refine sm_T_iald (n := 2048) rfl rfl (by omega) (by omega) ?_
      have bx9_ : (-2) ≤ S0_.2.2.1 219 0 x_.toNat ∧ S0_.2.2.1 219 0 x_.toNat ≤ 9000 := hI_.2 219 0 _
      refine sm_T_ri rfl ⟨_, _, rfl, rfl, _, rfl, ?_⟩
      refine ⟨?_, by omega, by omega⟩
      unfold noi
      first | rw [if_pos ⟨by omega, by omega⟩] | (rw [if_neg (by omega)]; first | (rw [if_pos (by omega)]; exact e27_.1) | rw [if_neg (by omega)])
    · have cx8_ : ¬ (t_ ≠ 0) := of_decide_eq_false cx8_
      refine sm_T_go 2 (c1 := (27, [some (.inr (.inr (some (13, 0)))), some (.inl x_), some (.inl t_)], [.inl x_, .inr (.inr (some (13, 0)))], S0_)) rfl ?_
      refine sm_T_cal (d1 := 0) (Q1 := vq_414 x_ F_ S0_) rfl rfl (by decide) (vc_414 x_ F_ S0_ hI_ (by exact hf_) (by omega)) (fun u_ Sx10_ px13_ => ?_)
      obtain ⟨rfl, vx15_, rfl, px13_⟩ := px13_
      have e27_ := px13_
      refine sm_T_go 1 (c1 := (39, [some (.inr (.inr (some (13, 0)))), some (.inl x_), some (.inl t_)], [.inl vx15_], S0_)) rfl ?_
      refine sm_T_ri rfl ⟨_, _, rfl, rfl, _, rfl, ?_⟩
      refine ⟨?_, by omega, by omega⟩
      unfold noi
      first | rw [if_pos ⟨by omega, by omega⟩] | (rw [if_neg (by omega)]; first | (rw [if_pos (by omega)]; exact e27_.1) | rw [if_neg (by omega)])
  · have cx7_ : ¬ (vx6_ ≠ 0) := of_decide_eq_false cx7_
    refine sm_T_go 4 (c1 := (14, [some (.inr (.inr (some (13, 0)))), some (.inl x_), some (.inl t_)], [.inl x_, .inl 2, .inr (.inr (some (218, 0)))], S0_)) rfl ?_
    refine sm_T_bin (w := 2 * x_) rfl (bi_mul (by omega) (by omega) (by omega)) ?_ -- pc_ 14
    refine sm_T_go 1 (c1 := (16, [some (.inr (.inr (some (13, 0)))), some (.inl x_), some (.inl t_)], [.inl t_, .inl (2 * x_), .inr (.inr (some (218, 0)))], S0_)) rfl ?_
    refine sm_T_bin (w := 2 * x_ + t_) rfl (bi_add (by omega) (by omega) (by omega)) ?_ -- pc_ 16
    refine sm_T_iald (n := 4096) rfl rfl (by omega) (by omega) ?_
    have bx16_ : (-2) ≤ S0_.2.2.1 218 0 (2 * x_ + t_).toNat ∧ S0_.2.2.1 218 0 (2 * x_ + t_).toNat ≤ 9000 := hI_.2 218 0 _
    refine sm_T_go 1 (c1 := (39, [some (.inr (.inr (some (13, 0)))), some (.inl x_), some (.inl t_)], [.inl (S0_.2.2.1 218 0 (2 * x_ + t_).toNat)], S0_)) rfl ?_
    refine sm_T_ri rfl ⟨_, _, rfl, rfl, _, rfl, ?_⟩
    refine ⟨?_, by omega, by omega⟩
    unfold noi
    first | rw [if_pos ⟨by omega, by omega⟩] | (rw [if_neg (by omega)]; first | (rw [if_pos (by omega)]; exact e27_.1) | rw [if_neg (by omega)])
/-! M_.askFor -/
def vw_416 : sx_Wl := ([(13, 137)], [220, 221], [])
def vq_416 (x_ : Int) (t_ : Int) (F_ : Int) (S0_ : sm_S) (u_ : Option sm_V) (S1_ : sm_S) : Prop := u_ = none ∧ gi S1_ ∧ ai_fr (sx_W vw_416) S0_ S1_ ∧ (((x_ < F_ ∨ S0_.2.2.1 203 0 x_.toNat = 1) ∧ t_ = 1 ∧ jap 1 x_ S0_ S1_) ∨ (((F_ ≤ x_ ∧ S0_.2.2.1 203 0 x_.toNat = 0) ∨ t_ = 0) ∧ jap 0 (2 * x_ + t_) S0_ S1_))
set_option maxHeartbeats 400000 in
set_option maxRecDepth 20000 in
theorem vc_416 {sc_ : Nat × (Nat → Int)} (x_ : Int) (t_ : Int) (F_ : Int) (S0_ : sm_S) (hI_ : gi S0_) (hf_ : S0_.2.2.1 160 0 (S0_.1 13 0 105).toNat = F_) (hn_ : 0 ≤ x_ ∧ x_ ≤ 2046 ∧ 0 ≤ t_ ∧ t_ ≤ 1) (hj_ : (S0_.1 13 0 137) ≤ 8190) : sm_T (mt_P sc_) 2 416 (0, [some (.inr (.inr (some (13, 0)))), some (.inl x_), some (.inl t_)], [], S0_) (fun ro9_ => ∃ u_ S1_, ro9_ = (.inl u_, S1_, 0) ∧ vq_416 x_ t_ F_ S0_ u_ S1_) := by
  have hF_ : ai_fr (sx_W vw_416) S0_ S0_ := ai_fr_rf
  refine sm_T_go 2 (c1 := (2, [some (.inr (.inr (some (13, 0)))), some (.inl x_), some (.inl t_)], [.inl x_, .inr (.inr (some (13, 0)))], S0_)) rfl ?_
  refine sm_T_cal (d1 := 1) (Q1 := vq_413 x_ F_ S0_) rfl rfl (by decide) (vc_413 x_ F_ S0_ hI_ (by exact hf_) (by omega)) (fun u_ Sx1_ px4_ => ?_)
  obtain ⟨rfl, vx6_, rfl, px4_⟩ := px4_
  have e2_ := px4_
  refine sm_T_b0 (a := 0) (z := 17) rfl (fun cx7_ => ?_) (fun cx7_ => ?_)
  · have cx7_ : vx6_ = 0 := of_decide_eq_true cx7_
    refine sm_T_go 4 (c1 := (26, [some (.inr (.inr (some (13, 0)))), some (.inl x_), some (.inl t_)], [.inl x_, .inl 2, .inl 0, .inr (.inr (some (13, 0)))], S0_)) rfl ?_
    refine sm_T_bin (w := 2 * x_) rfl (bi_mul (by omega) (by omega) (by omega)) ?_ -- pc_ 26
    refine sm_T_go 1 (c1 := (28, [some (.inr (.inr (some (13, 0)))), some (.inl x_), some (.inl t_)], [.inl t_, .inl (2 * x_), .inl 0, .inr (.inr (some (13, 0)))], S0_)) rfl ?_
    refine sm_T_bin (w := 2 * x_ + t_) rfl (bi_add (by omega) (by omega) (by omega)) ?_ -- pc_ 28
    refine sm_T_cal (d1 := 0) (Q1 := vq_412 0 (2 * x_ + t_) S0_) rfl rfl (by decide) (vc_412 0 (2 * x_ + t_) S0_ hI_ (by omega) (by omega)) (fun u_ Sx8_ px11_ => ?_)
    obtain ⟨rfl, hIx9_, hFx10_, px11_⟩ := px11_
    have hFx12_ : ai_fr (sx_W vw_416) S0_ Sx8_ := ai_fr_tr hF_ (fr_le hFx10_ rfl)
    have e29_ := px11_
    refine sm_T_rv rfl ⟨_, _, rfl, rfl, hIx9_, hFx12_, ?_⟩
    first | exact Or.inl ⟨by omega, by omega, e16_⟩ | exact Or.inr ⟨by omega, e29_⟩
  · have cx7_ : ¬ (vx6_ = 0) := of_decide_eq_false cx7_
    refine sm_T_go 2 (c1 := (10, [some (.inr (.inr (some (13, 0)))), some (.inl x_), some (.inl t_)], [.inl 1, .inl t_], S0_)) rfl ?_
    refine sm_T_br (a := 1) (z := 12) rfl (fun cx13_ => ?_) (fun cx13_ => ?_)
    · have cx13_ : t_ ≠ 1 := of_decide_eq_true cx13_
      refine sm_T_go 4 (c1 := (26, [some (.inr (.inr (some (13, 0)))), some (.inl x_), some (.inl t_)], [.inl x_, .inl 2, .inl 0, .inr (.inr (some (13, 0)))], S0_)) rfl ?_
      refine sm_T_bin (w := 2 * x_) rfl (bi_mul (by omega) (by omega) (by omega)) ?_ -- pc_ 26
      refine sm_T_go 1 (c1 := (28, [some (.inr (.inr (some (13, 0)))), some (.inl x_), some (.inl t_)], [.inl t_, .inl (2 * x_), .inl 0, .inr (.inr (some (13, 0)))], S0_)) rfl ?_
      refine sm_T_bin (w := 2 * x_ + t_) rfl (bi_add (by omega) (by omega) (by omega)) ?_ -- pc_ 28
      refine sm_T_cal (d1 := 0) (Q1 := vq_412 0 (2 * x_ + t_) S0_) rfl rfl (by decide) (vc_412 0 (2 * x_ + t_) S0_ hI_ (by omega) (by omega)) (fun u_ Sx14_ px17_ => ?_)
      obtain ⟨rfl, hIx15_, hFx16_, px17_⟩ := px17_
      have hFx18_ : ai_fr (sx_W vw_416) S0_ Sx14_ := ai_fr_tr hF_ (fr_le hFx16_ rfl)
      have e29_ := px17_
      refine sm_T_rv rfl ⟨_, _, rfl, rfl, hIx15_, hFx18_, ?_⟩
      first | exact Or.inl ⟨by omega, by omega, e16_⟩ | exact Or.inr ⟨by omega, e29_⟩
    · have cx13_ : ¬ (t_ ≠ 1) := of_decide_eq_false cx13_
      refine sm_T_go 3 (c1 := (16, [some (.inr (.inr (some (13, 0)))), some (.inl x_), some (.inl t_)], [.inl x_, .inl 1, .inr (.inr (some (13, 0)))], S0_)) rfl ?_
      refine sm_T_cal (d1 := 0) (Q1 := vq_412 1 x_ S0_) rfl rfl (by decide) (vc_412 1 x_ S0_ hI_ (by omega) (by omega)) (fun u_ Sx19_ px22_ => ?_)
      obtain ⟨rfl, hIx20_, hFx21_, px22_⟩ := px22_
      have hFx23_ : ai_fr (sx_W vw_416) S0_ Sx19_ := ai_fr_tr hF_ (fr_le hFx21_ rfl)
      have e16_ := px22_
      refine sm_T_go 1 (c1 := (32, [some (.inr (.inr (some (13, 0)))), some (.inl x_), some (.inl t_)], [], Sx19_)) rfl ?_
      refine sm_T_rv rfl ⟨_, _, rfl, rfl, hIx20_, hFx23_, ?_⟩
      first | exact Or.inl ⟨by omega, by omega, e16_⟩ | exact Or.inr ⟨by omega, e29_⟩
end
/-! 99.zs9 -/
section
/-! the reference: tasks done; written by wip/p55/gen/vg -/

/-! the_ reference: tasks done -/
def gdr (F_ N_ : Int) (S_ : sm_S) : Prop := ∀ n_ : Int, F_ ≤ n_ → n_ < N_ → S_.2.2.1 202 0 n_.toNat = 1 → S_.2.2.1 203 0 n_.toNat = 1 → S_.2.2.1 210 0 (2 * n_).toNat < 1000000000
def jtop (S_ : sm_S) : Int := S_.2.2.1 220 0 (S_.1 13 0 137 - 1).toNat
def jtos (S_ : sm_S) : Int := S_.2.2.1 221 0 (S_.1 13 0 137 - 1).toNat
theorem tpv_e {S_ : sm_S} (h_ : S_.1 13 0 137 ≠ 0) : (jdn S_ (jtos S_) (jtop S_) → tpv_ S_ = 4000 + S_.1 13 0 137) ∧ (¬ jdn S_ (jtos S_) (jtop S_) → tpv_ S_ = jrk S_ (jtos S_) (jtop S_)) := by
  refine ⟨fun d_ => ?_, fun d_ => ?_⟩
  · unfold tpv_
    rw [if_neg h_]
    exact if_pos d_
  · unfold tpv_
    rw [if_neg h_]
    exact if_neg d_
theorem mad_cg {F_ : Int} {S_ S'_ : sm_S} (h_ : mad F_ S_) (e_ : S'_.1 13 0 129 = S_.1 13 0 129) (e6_ : S'_.2.2.1 216 0 = S_.2.2.1 216 0) (e7_ : S'_.2.2.1 217 0 = S_.2.2.1 217 0) (e5_ : S'_.2.2.1 185 0 = S_.2.2.1 185 0) (e106_ : S'_.1 13 0 106 = S_.1 13 0 106) (e134_ : S'_.1 13 0 134 = S_.1 13 0 134) : mad F_ S'_ := by
  unfold mad
  rw [e_, e6_, e7_, e5_, e106_, e134_]
  exact h_
theorem wk_pop {F_ N_ : Int} {S_ : sm_S} (hI_ : gi S_) (hg_ : gst F_ N_ S_) (hj_ : jsk F_ N_ S_) (hc_ : 1 ≤ S_.1 13 0 137) (hF_ : 1 ≤ F_) (dn_ : jdn S_ (jtos S_) (jtop S_)) : gst F_ N_ (sm_pI S_ 13 0 137 (S_.1 13 0 137 - 1)) ∧ jsk F_ N_ (sm_pI S_ 13 0 137 (S_.1 13 0 137 - 1)) ∧ mea_ N_ (sm_pI S_ 13 0 137 (S_.1 13 0 137 - 1)) < mea_ N_ S_ ∧ S_.1 13 0 129 ≤ (sm_pI S_ 13 0 137 (S_.1 13 0 137 - 1)).1 13 0 129 := by
  obtain ⟨S'_, hS_⟩ : ∃ S'_, S'_ = sm_pI S_ 13 0 137 (S_.1 13 0 137 - 1) := ⟨_, rfl⟩
  have j1_ : S'_.1 13 0 137 = S_.1 13 0 137 - 1 := by rw [hS_]; exact rf_eq
  have a_ : ∀ t_, S'_.2.2.1 t_ 0 = S_.2.2.1 t_ 0 := fun t_ => by rw [hS_]; rfl
  have f_ : ∀ k_, k_ ≠ 137 → S'_.1 13 0 k_ = S_.1 13 0 k_ := fun k_ hk_ => by rw [hS_]; exact rf_nk hk_
  rw [← hS_]
  have js_ : jsk F_ N_ S'_ := fun i_ i0_ i1_ => by
    rw [j1_] at i1_
    rw [a_, a_, jrk_cg (a_ 211)]
    exact ⟨jgd_cg (hj_ i_ i0_ (by omega)).1 (a_ _) (a_ _) (a_ _), (hj_ i_ i0_ (by omega)).2⟩
  refine ⟨gst_cg hg_ (f_ _ (by decide)) (a_ _) (a_ _) (a_ _) (a_ _) (a_ _) (f_ _ (by decide)) (f_ _ (by decide)), js_, ?_, by (rw [f_ 129 (by decide)]; exact Int.le_refl _)⟩
  have t_ := (tpv_e (S_ := S_) (by omega)).1 dn_
  unfold mea_
  rw [inc_cg (a_ 218) (a_ 219), t_]
  have q_ : tpv_ S'_ < 4000 + S_.1 13 0 137 := by
    unfold tpv_
    rw [j1_]
    split
    · omega
    · split
      · omega
      · have w_ := (js_ (S_.1 13 0 137 - 1 - 1) (by omega) (by omega)).2
        rw [← j1_] at w_ ⊢
        omega
  omega
theorem wk_push {F_ N_ s_ w_ : Int} {S_ S'_ : sm_S} (hI_ : gi S_) (hg_ : gst F_ N_ S_) (hj_ : jsk F_ N_ S_) (hc_ : 1 ≤ S_.1 13 0 137) (hF_ : 1 ≤ F_) (a_ : jap s_ w_ S_ S'_) (f_ : ai_fr (sx_W ([(13, 137)], [220, 221], [])) S_ S'_) (g_ : jgd F_ N_ S_ s_ w_) (r_ : jrk S_ s_ w_ < jrk S_ (jtos S_) (jtop S_)) (nd_ : ¬ jdn S_ (jtos S_) (jtop S_)) (nn9_ : ¬ jdn S_ s_ w_) : gst F_ N_ S'_ ∧ jsk F_ N_ S'_ ∧ mea_ N_ S'_ < mea_ N_ S_ ∧ S_.1 13 0 129 ≤ S'_.1 13 0 129 := by
  have tp_ := hj_ (S_.1 13 0 137 - 1) (by omega) (by omega)
  have tr_ : jrk S_ (jtos S_) (jtop S_) + (S_.1 13 0 137 - 1) ≤ 3042 := tp_.2
  have e1_ : jtos S'_ = s_ := by unfold jtos; rw [a_.1, a_.2.2, if_pos (by omega)]
  have e2_ : jtop S'_ = w_ := by unfold jtop; rw [a_.1, a_.2.1, if_pos (by omega)]
  have rb := jrk_b hI_ g_ hF_
  refine ⟨gst_cg hg_ (f_.1 13 0 129 rfl) (fr_arr f_ rfl) (fr_arr f_ rfl) (fr_arr f_ rfl) (fr_arr f_ rfl) (fr_arr f_ rfl) (f_.1 13 0 106 rfl) (f_.1 13 0 134 rfl), jsk_ap hj_ a_ (by omega) g_ (by omega) (fr_arr f_ rfl) (fr_arr f_ rfl) (fr_arr f_ rfl) (fr_arr f_ rfl), ?_, by (rw [f_.1 13 0 129 rfl]; exact Int.le_refl _)⟩
  have t_ := (tpv_e (S_ := S_) (by omega)).2 nd_
  have t'_ := (tpv_e (S_ := S'_) (by rw [a_.1]; omega)).2 (by
    rw [e1_, e2_]
    unfold jdn at *
    rw [fr_arr f_ (t := 218) rfl, fr_arr f_ (t := 219) rfl]
    exact nn9_)
  rw [e1_, e2_, jrk_cg (fr_arr f_ rfl)] at t'_
  unfold mea_
  rw [inc_cg (fr_arr f_ rfl) (fr_arr f_ rfl), t_, t'_]
  omega
theorem wk_g {F_ N_ w_ v_ : Int} {S_ Sx_ : sm_S} {w9_ : sx_Wl} (hI_ : gi (sm_aI Sx_ 218 0 w_.toNat v_)) (hg_ : gst F_ N_ S_) (hj_ : jsk F_ N_ S_) (hc_ : 0 ≤ S_.1 13 0 137) (hF_ : 1 ≤ F_) (f_ : ai_fr (sx_W w9_) S_ Sx_) (hw_ : 2 * F_ ≤ w_ ∧ w_ < 2 * N_) (h0_ : S_.2.2.1 218 0 w_.toNat = -1) (e_ : v_ = F_ - 1 + S_.1 13 0 129 ∧ Sx_.1 13 0 129 = S_.1 13 0 129 + 1 ∧ mad F_ Sx_) (h1_ : (sx_W w9_).1 13 137 = false := by rfl) (h2_ : (sx_W w9_).2.1 220 = false := by rfl) (h3_ : (sx_W w9_).2.1 221 = false := by rfl) (h4_ : (sx_W w9_).2.1 202 = false := by rfl) (h5_ : (sx_W w9_).2.1 203 = false := by rfl) (h6_ : (sx_W w9_).2.1 210 = false := by rfl) (h7_ : (sx_W w9_).2.1 211 = false := by rfl) (h8_ : (sx_W w9_).2.1 218 = false := by rfl) (h9_ : (sx_W w9_).2.1 219 = false := by rfl) : gst F_ N_ (sm_aI Sx_ 218 0 w_.toNat v_) ∧ jsk F_ N_ (sm_aI Sx_ 218 0 w_.toNat v_) ∧ mea_ N_ (sm_aI Sx_ 218 0 w_.toNat v_) < mea_ N_ S_ ∧ S_.1 13 0 129 ≤ (sm_aI Sx_ 218 0 w_.toNat v_).1 13 0 129 := by
  obtain ⟨S'_, hS_⟩ : ∃ S'_, S'_ = sm_aI Sx_ 218 0 w_.toNat v_ := ⟨_, rfl⟩
  have a_ : ∀ u_, u_ ≠ 218 → S'_.2.2.1 u_ 0 = Sx_.2.2.1 u_ 0 := fun u_ hu_ => by
    rw [hS_]
    funext j_
    simp only [rd_ne, hu_, ne_eq, not_false_eq_true]
  have b_ : ∀ k_, S'_.1 13 0 k_ = Sx_.1 13 0 k_ := fun k_ => by rw [hS_]; rfl
  have c_ : ∀ j_, S'_.2.2.1 218 0 j_ = if j_ = w_.toNat then v_ else S_.2.2.1 218 0 j_ := fun j_ => by
    rw [hS_, ← fr_arr f_ (t := 218) h8_]
    simp only [rd_eq]
  rw [← hS_] at hI_ ⊢
  have g0_ := hg_.1
  have G_ : gst F_ N_ S'_ ∧ inc N_ S'_ + 1 = inc N_ S_ := gst_g (S1_ := Sx_) hg_ hw_ (by omega) h0_ ⟨e_.1, by omega⟩ ((b_ 129).trans e_.2.1) c_ ((a_ 219 (by decide)).trans (fr_arr f_ h9_)) (mad_cg e_.2.2 (b_ 129) (a_ 216 (by decide)) (a_ 217 (by decide)) (a_ 185 (by decide)) (b_ 106) (b_ 134))
  have js_ := jsk_cg hj_ ((b_ 137).trans (f_.1 13 0 137 h1_)) ((a_ 220 (by decide)).trans (fr_arr f_ h2_)) ((a_ 221 (by decide)).trans (fr_arr f_ h3_)) ((a_ 202 (by decide)).trans (fr_arr f_ h4_)) ((a_ 203 (by decide)).trans (fr_arr f_ h5_)) ((a_ 210 (by decide)).trans (fr_arr f_ h6_)) ((a_ 211 (by decide)).trans (fr_arr f_ h7_))
  exact ⟨G_.1, js_, mea_c hI_ js_ hF_ (by rw [b_, f_.1 13 0 137 h1_]; exact hc_) G_.2, by (rw [b_ 129, e_.2.1]; omega)⟩
theorem wk_t {F_ N_ w_ v_ : Int} {S_ Sx_ : sm_S} {w9_ : sx_Wl} (hI_ : gi (sm_aI Sx_ 219 0 w_.toNat v_)) (hg_ : gst F_ N_ S_) (hj_ : jsk F_ N_ S_) (hc_ : 0 ≤ S_.1 13 0 137) (hF_ : 1 ≤ F_) (f_ : ai_fr (sx_W w9_) S_ Sx_) (hw_ : 1 ≤ w_ ∧ w_ < N_) (h0_ : S_.2.2.1 219 0 w_.toNat = -1) (e_ : v_ = F_ - 1 + S_.1 13 0 129 ∧ Sx_.1 13 0 129 = S_.1 13 0 129 + 1 ∧ mad F_ Sx_) (h1_ : (sx_W w9_).1 13 137 = false := by rfl) (h2_ : (sx_W w9_).2.1 220 = false := by rfl) (h3_ : (sx_W w9_).2.1 221 = false := by rfl) (h4_ : (sx_W w9_).2.1 202 = false := by rfl) (h5_ : (sx_W w9_).2.1 203 = false := by rfl) (h6_ : (sx_W w9_).2.1 210 = false := by rfl) (h7_ : (sx_W w9_).2.1 211 = false := by rfl) (h8_ : (sx_W w9_).2.1 218 = false := by rfl) (h9_ : (sx_W w9_).2.1 219 = false := by rfl) : gst F_ N_ (sm_aI Sx_ 219 0 w_.toNat v_) ∧ jsk F_ N_ (sm_aI Sx_ 219 0 w_.toNat v_) ∧ mea_ N_ (sm_aI Sx_ 219 0 w_.toNat v_) < mea_ N_ S_ ∧ S_.1 13 0 129 ≤ (sm_aI Sx_ 219 0 w_.toNat v_).1 13 0 129 := by
  obtain ⟨S'_, hS_⟩ : ∃ S'_, S'_ = sm_aI Sx_ 219 0 w_.toNat v_ := ⟨_, rfl⟩
  have a_ : ∀ u_, u_ ≠ 219 → S'_.2.2.1 u_ 0 = Sx_.2.2.1 u_ 0 := fun u_ hu_ => by
    rw [hS_]
    funext j_
    simp only [rd_ne, hu_, ne_eq, not_false_eq_true]
  have b_ : ∀ k_, S'_.1 13 0 k_ = Sx_.1 13 0 k_ := fun k_ => by rw [hS_]; rfl
  have c_ : ∀ j_, S'_.2.2.1 219 0 j_ = if j_ = w_.toNat then v_ else S_.2.2.1 219 0 j_ := fun j_ => by
    rw [hS_, ← fr_arr f_ (t := 219) h9_]
    simp only [rd_eq]
  rw [← hS_] at hI_ ⊢
  have g0_ := hg_.1
  have G_ : gst F_ N_ S'_ ∧ inc N_ S'_ + 1 = inc N_ S_ := gst_t (S1_ := Sx_) hg_ hw_ h0_ ⟨e_.1, by omega⟩ ((b_ 129).trans e_.2.1) c_ ((a_ 218 (by decide)).trans (fr_arr f_ h8_)) (mad_cg e_.2.2 (b_ 129) (a_ 216 (by decide)) (a_ 217 (by decide)) (a_ 185 (by decide)) (b_ 106) (b_ 134))
  have js_ := jsk_cg hj_ ((b_ 137).trans (f_.1 13 0 137 h1_)) ((a_ 220 (by decide)).trans (fr_arr f_ h2_)) ((a_ 221 (by decide)).trans (fr_arr f_ h3_)) ((a_ 202 (by decide)).trans (fr_arr f_ h4_)) ((a_ 203 (by decide)).trans (fr_arr f_ h5_)) ((a_ 210 (by decide)).trans (fr_arr f_ h6_)) ((a_ 211 (by decide)).trans (fr_arr f_ h7_))
  exact ⟨G_.1, js_, mea_c hI_ js_ hF_ (by rw [b_, f_.1 13 0 137 h1_]; exact hc_) G_.2, by (rw [b_ 129, e_.2.1]; omega)⟩
theorem wk_way {F_ N_ w_ : Int} {S_ : sm_S} (hI_ : gi S_) (h_ : wal9 F_ N_ S_) (hF_ : 1 ≤ F_) (g_ : 2 * F_ ≤ w_ ∧ w_ < 2 * N_ ∧ S_.2.2.1 202 0 (w_ / 2).toNat = 1 ∧ S_.2.2.1 210 0 w_.toNat < 1000000000) : (S_.2.2.1 211 0 w_.toNat = 0 → 0 ≤ S_.2.2.1 207 0 w_.toNat ∧ 1 ≤ S_.2.2.1 185 0 (12 * S_.1 13 0 106 + S_.2.2.1 207 0 w_.toNat).toNat ∧ ∀ k_ : Int, 0 ≤ k_ → k_ < S_.2.2.1 185 0 (12 * S_.1 13 0 106 + S_.2.2.1 207 0 w_.toNat).toNat → inp F_ (w_ / 2) S_ (S_.2.2.1 208 0 (3 * w_ + k_).toNat) (i_shr (S_.2.2.1 209 0 w_.toNat) k_ % 2)) ∧ (S_.2.2.1 211 0 w_.toNat ≠ 0 → S_.2.2.1 211 0 (w_ + 1 - 2 * (w_ % 2)).toNat = 0 ∧ S_.2.2.1 210 0 (w_ + 1 - 2 * (w_ % 2)).toNat < 1000000000) := by
  have q_ := h_ (w_ / 2) (by omega) (by omega) g_.2.2.1
  obtain ⟨q1_, q2_, q3_, q4_⟩ := q_
  have b_ : 0 ≤ S_.1 13 0 108 := (hI_.1 13 0 108 rfl).1
  have z0_ : 0 ≤ S_.2.2.1 211 0 (2 * (w_ / 2)).toNat := (hI_.2 211 0 _).1
  have z1_ : 0 ≤ S_.2.2.1 211 0 (2 * (w_ / 2) + 1).toNat := (hI_.2 211 0 _).1
  have c_ : w_ = 2 * (w_ / 2) ∨ w_ = 2 * (w_ / 2) + 1 := by omega
  rcases c_ with c_ | c_
  · have o_ : w_ + 1 - 2 * (w_ % 2) = w_ + 1 := by omega
    rw [o_]
    have b1_ : S_.2.2.1 206 0 w_.toNat ≤ 1000000000 := (hI_.2 206 0 _).2
    have g4_ := g_.2.2.2
    unfold ned at q3_ q4_
    unfold wyc at q1_
    rw [← c_] at z0_ z1_ q1_ q3_ q4_
    refine ⟨fun z_ => ?_, fun z_ => ?_⟩
    · refine q1_ ?_
      omega
    · omega
  · have o_ : w_ + 1 - 2 * (w_ % 2) = 2 * (w_ / 2) := by omega
    rw [o_]
    have b1_ : S_.2.2.1 206 0 w_.toNat ≤ 1000000000 := (hI_.2 206 0 _).2
    have g4_ := g_.2.2.2
    unfold ned at q3_ q4_
    unfold wyc at q2_
    rw [← c_] at z1_ q2_ q3_ q4_
    refine ⟨fun z_ => ?_, fun z_ => ?_⟩
    · refine q2_ ?_
      omega
    · omega

theorem shr3 {x_ : Int} (hx_ : 0 ≤ x_ ∧ x_ ≤ 7) : i_shr x_ 0 = x_ ∧ i_shr x_ 1 = x_ / 2 ∧ i_shr x_ 2 = x_ / 4 := by
  refine ⟨?_, ?_, ?_⟩
  · rw [i_shrv (by omega) (by omega) (by omega)]; exact Int.ediv_one x_
  · rw [i_shrv (by omega) (by omega) (by omega)]; rfl
  · rw [i_shrv (by omega) (by omega) (by omega)]; rfl
theorem wk_in {F_ N_ w_ x_ t_ : Int} {S_ : sm_S} (hg_ : gst F_ N_ S_) (hw_ : w_ < 2 * N_) (i_ : inp F_ (w_ / 2) S_ x_ t_) (ht_ : 0 ≤ t_ ∧ t_ ≤ 1) (h_ : noi F_ S_ x_ t_ ≠ -1) : 1 ≤ x_ ∧ x_ < w_ / 2 ∧ 0 ≤ noi F_ S_ x_ t_ ∧ noi F_ S_ x_ t_ < F_ - 1 + S_.1 13 0 129 := by
  have i1_ := i_.1.1
  have i2_ := i_.1.2.1
  have q_ := noi_b hg_ (x_ := x_) (t_ := t_) ⟨by omega, by omega⟩ ht_
  rcases q_ with q_ | q_
  · exact absurd q_ h_
  · exact ⟨by omega, by omega, q_.1, q_.2⟩
/-! M_.work -/
theorem wal9_cg {F_ N_ : Int} {S_ S'_ : sm_S} (h_ : wal9 F_ N_ S_) (e2_ : S'_.2.2.1 202 0 = S_.2.2.1 202 0) (e3_ : S'_.2.2.1 203 0 = S_.2.2.1 203 0) (e5_ : S'_.2.2.1 185 0 = S_.2.2.1 185 0) (e6_ : S'_.2.2.1 206 0 = S_.2.2.1 206 0) (e7_ : S'_.2.2.1 207 0 = S_.2.2.1 207 0) (e8_ : S'_.2.2.1 208 0 = S_.2.2.1 208 0) (e9_ : S'_.2.2.1 209 0 = S_.2.2.1 209 0) (e10 : S'_.2.2.1 210 0 = S_.2.2.1 210 0) (e11 : S'_.2.2.1 211 0 = S_.2.2.1 211 0) (e106_ : S'_.1 13 0 106 = S_.1 13 0 106) (e108_ : S'_.1 13 0 108 = S_.1 13 0 108) : wal9 F_ N_ S'_ := by
  unfold wal9 wok2 wyc ned inp cst at *
  rw [e2_, e3_, e5_, e6_, e7_, e8_, e9_, e10, e11, e106_, e108_]
  exact h_
theorem gdr_cg {F_ N_ : Int} {S_ S'_ : sm_S} (h_ : gdr F_ N_ S_) (e2_ : S'_.2.2.1 202 0 = S_.2.2.1 202 0) (e3_ : S'_.2.2.1 203 0 = S_.2.2.1 203 0) (e10 : S'_.2.2.1 210 0 = S_.2.2.1 210 0) : gdr F_ N_ S'_ := by
  unfold gdr at *
  rw [e2_, e3_, e10]
  exact h_
theorem jsk_0 {F_ N_ : Int} {S_ : sm_S} (h_ : S_.1 13 0 137 = 0) : jsk F_ N_ S_ := fun i_ a_ b_ => by omega
theorem jsk_1 {F_ N_ x_ t_ : Int} {S_ S'_ : sm_S} (hI_ : gi S_) (hF_ : 1 ≤ F_) (hx_ : 1 ≤ x_ ∧ x_ < N_ ∧ N_ ≤ 1013) (ht_ : 0 ≤ t_ ∧ t_ ≤ 1) (h_ : S_.1 13 0 137 = 0) (hd_ : gdr F_ N_ S_) (m_ : mrk F_ S_ x_) (n_ : noi F_ S_ x_ t_ = -1) (e_ : ((x_ < F_ ∨ S_.2.2.1 203 0 x_.toNat = 1) ∧ t_ = 1 ∧ jap 1 x_ S_ S'_) ∨ (((F_ ≤ x_ ∧ S_.2.2.1 203 0 x_.toNat = 0) ∨ t_ = 0) ∧ jap 0 (2 * x_ + t_) S_ S'_)) (e2_ : S'_.2.2.1 202 0 = S_.2.2.1 202 0) (e3_ : S'_.2.2.1 203 0 = S_.2.2.1 203 0) (e10 : S'_.2.2.1 210 0 = S_.2.2.1 210 0) (e11 : S'_.2.2.1 211 0 = S_.2.2.1 211 0) : jsk F_ N_ S'_ := by
  have k_ : x_ < F_ ∨ (S_.2.2.1 203 0 x_.toNat = 1 ∧ S_.2.2.1 210 0 (2 * x_).toNat < 1000000000) := by
    by_cases c_ : x_ < F_
    · exact Or.inl c_
    · have y_ : S_.2.2.1 203 0 x_.toNat = 1 := by
        rcases m_.2 with z_ | z_
        · exact absurd z_ c_
        · exact z_
      exact Or.inr ⟨y_, hd_ x_ (by omega) hx_.2.1 m_.1 y_⟩
  rcases e_ with e_ | e_
  · exact jsk_ap (jsk_0 h_) e_.2.2 (by omega) (Or.inl ⟨rfl, hx_.1, hx_.2.1, m_.1, k_⟩) (by unfold jrk; rw [if_pos rfl]; omega) e2_ e3_ e10 e11
  · have t0_ : t_ = 0 := by
      rcases e_.1 with z_ | z_
      · rcases k_ with k_ | k_
        · exfalso; omega
        · exfalso; omega
      · exact z_
    have g_ : F_ ≤ x_ := by
      by_cases c_ : F_ ≤ x_
      · exact c_
      · exfalso
        unfold noi at n_
        rw [if_neg (by omega), if_pos t0_] at n_
        unfold lnf at n_
        rw [if_pos (by omega)] at n_
        omega
    have a_ := e_.2
    rw [t0_, Int.add_zero] at a_
    have q_ : 2 * x_ / 2 = x_ := by omega
    have c9_ : S_.2.2.1 211 0 (2 * x_).toNat ≤ 1 := (hI_.2 211 0 _).2
    exact jsk_ap (jsk_0 h_) a_ (by omega) (Or.inr ⟨rfl, by omega, by omega, by rw [q_]; exact m_.1, by omega⟩) (by unfold jrk; rw [if_neg (by decide), q_]; omega) e2_ e3_ e10 e11
/-! M_.netOfRoot -/
def vw_418 : sx_Wl := ([(13, 129), (13, 134), (13, 137)], [216, 217, 218, 219, 220, 221], [])
end
