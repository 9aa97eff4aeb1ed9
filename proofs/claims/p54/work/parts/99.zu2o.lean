/-! the reference: a design mapped; written by wip/p55/gen/vg -/

/-! the_ reference: a_ design mapped, with what comes of_ it_ -/
theorem rfv_b {A_ : Nat → Nat → Nat → Int} {a_ : Int} : ∀ k_ : Nat, rfv A_ a_ k_ = -1 ∨ (0 ≤ rfv A_ a_ k_ ∧ rfv A_ a_ k_ < (k_ : Int) ∧ A_ 185 0 (12 * a_ + rfv A_ a_ k_).toNat = 1)
  | 0 => Or.inl rfl
  | k_ + 1 => by
    rw [rfv_s]
    by_cases c_ : A_ 185 0 (12 * a_ + (k_ : Int)).toNat = 1 ∧ A_ 186 0 (12 * a_ + (k_ : Int)).toNat = 1 ∧ (rfv A_ a_ k_ = -1 ∨ A_ 187 0 (12 * a_ + (k_ : Int)).toNat < A_ 187 0 (12 * a_ + rfv A_ a_ k_).toNat)
    · rw [if_pos c_]
      exact Or.inr ⟨by omega, by omega, c_.1⟩
    · rw [if_neg c_]
      rcases rfv_b (A_ := A_) (a_ := a_) k_ with h_ | h_
      · exact Or.inl h_
      · exact Or.inr ⟨h_.1, by omega, h_.2.2⟩
theorem rfv_cg {A_ B_ : Nat → Nat → Nat → Int} {a_ : Int} (e1_ : A_ 185 0 = B_ 185 0) (e2_ : A_ 186 0 = B_ 186 0) (e3_ : A_ 187 0 = B_ 187 0) : ∀ k_ : Nat, rfv A_ a_ k_ = rfv B_ a_ k_
  | 0 => rfl
  | k_ + 1 => by
    rw [rfv_s, rfv_s, rfv_cg e1_ e2_ e3_ k_, e1_, e2_, e3_]
/-- literals of_ the_ roots -/
def mqL (d_ : Int) (R_ : sm_S) (j_ : Nat) : Int := i_xor (mqs d_ R_ (mqr d_ R_ j_ / 2).toNat) (mqr d_ R_ j_ % 2)
theorem mq_fr {w_ : sx_Wl} {d_ : Int} {R_ R'_ : sm_S} (g_ : ai_fr (sx_W w_) R_ R'_) (q_ : dwf w_ = true := by rfl) : mqs d_ R'_ = mqs d_ R_ ∧ mql d_ R'_ = mql d_ R_ ∧ mqh d_ R'_ = mqh d_ R_ ∧ mqk d_ R'_ = mqk d_ R_ ∧ mqr d_ R'_ = mqr d_ R_ ∧ mqL d_ R'_ = mqL d_ R_ := by
  have a1_ : mqs d_ R'_ = mqs d_ R_ := by
    funext m9_
    unfold mqs
    rw [fr_arr (t := 166) g_ (dwf_0 q_ (by decide) (by decide))]
  have a2_ : mql d_ R'_ = mql d_ R_ := by
    funext m9_
    unfold mql
    rw [fr_arr (t := 164) g_ (dwf_0 q_ (by decide) (by decide))]
  have a3_ : mqh d_ R'_ = mqh d_ R_ := by
    funext m9_
    unfold mqh
    rw [fr_arr (t := 165) g_ (dwf_0 q_ (by decide) (by decide))]
  have a4_ : mqk d_ R'_ = mqk d_ R_ := by
    unfold mqk
    rw [fr_arr (t := 156) g_ (dwf_0 q_ (by decide) (by decide)), fr_arr (t := 155) g_ (dwf_0 q_ (by decide) (by decide))]
  have a5_ : mqr d_ R'_ = mqr d_ R_ := by
    unfold mqr
    rw [fr_arr (t := 156) g_ (dwf_0 q_ (by decide) (by decide)), fr_arr (t := 167) g_ (dwf_0 q_ (by decide) (by decide)), fr_arr (t := 168) g_ (dwf_0 q_ (by decide) (by decide))]
  refine ⟨a1_, a2_, a3_, a4_, a5_, ?_⟩
  funext j_
  unfold mqL
  rw [a1_, a5_]
theorem rcm_fr {w_ : sx_Wl} {F_ N_ d_ : Int} {R_ R'_ : sm_S} (h_ : rcm F_ N_ d_ R_) (g_ : ai_fr (sx_W w_) R_ R'_) (q_ : dwf w_ = true := by rfl) (h1_ : (sx_W w_).2.1 199 = false := by rfl) (h2_ : (sx_W w_).2.1 200 = false := by rfl) (h3_ : (sx_W w_).2.1 202 = false := by rfl) (h4_ : (sx_W w_).2.1 203 = false := by rfl) : rcm F_ N_ d_ R'_ ∧ rtn F_ N_ R'_ = rtn F_ N_ R_ := by
  have m9_ := mq_fr (d_ := d_) g_ q_
  have b1_ : mqn F_ N_ d_ R'_ = mqn F_ N_ d_ R_ := by
    unfold mqn
    rw [m9_.1, m9_.2.1, m9_.2.2.1, m9_.2.2.2.1, m9_.2.2.2.2.1]
  have b2_ : mqp F_ N_ d_ R'_ = mqp F_ N_ d_ R_ := by
    funext q9_
    unfold mqp
    rw [m9_.1, m9_.2.1, m9_.2.2.1, b1_]
  have b3_ : rtn F_ N_ R'_ = rtn F_ N_ R_ := by
    funext x_
    unfold rtn
    rw [fr_arr (t := 202) (i := 0) g_ h3_]
  have b4_ : rnn F_ R'_ = rnn F_ R_ := by
    funext x_
    unfold rnn
    rw [fr_arr (t := 203) (i := 0) g_ h4_]
  have b5_ : rcu R'_ = rcu R_ := by
    funext x_
    unfold rcu
    rw [fr_arr (t := 199) (i := 0) g_ h1_]
  have b6_ : rhq R'_ = rhq R_ := by
    funext x_
    unfold rhq
    rw [fr_arr (t := 200) (i := 0) g_ h2_]
  refine ⟨?_, b3_⟩
  unfold rcm rcq0
  rw [b1_, b2_, b3_, b4_, b5_, b6_, m9_.1, m9_.2.1, m9_.2.2.1, m9_.2.2.2.1, m9_.2.2.2.2.1, fr_arr (t := 199) (i := 0) g_ h1_, fr_arr (t := 200) (i := 0) g_ h2_, fr_arr (t := 202) (i := 0) g_ h3_, fr_arr (t := 203) (i := 0) g_ h4_]
  exact h_
theorem rcm_n {F_ N_ d_ : Int} {R_ R'_ : sm_S} (hd_ : dmp F_ N_ d_ R_) (hsw : swd F_.toNat N_.toNat (mql d_ R_) (mqh d_ R_) (mqs d_ R_)) (hd'_ : dmp F_ N_ d_ R'_) (e_ : mqs d_ R'_ = mqs d_ R_ ∧ mql d_ R'_ = mql d_ R_ ∧ mqh d_ R'_ = mqh d_ R_ ∧ mqk d_ R'_ = mqk d_ R_ ∧ mqr d_ R'_ = mqr d_ R_ ∧ mqL d_ R'_ = mqL d_ R_) (h1_ : ndw N_.toNat (N_.toNat - F_.toNat) (mqs d_ R_) (mql d_ R_) (mqh d_ R_) (nd0 (mqs d_ R_) (mqr d_ R_) (mqk d_ R_)) (R'_.2.2.1 202 0)) (h2_ : ∀ q_ : Nat, (q_ : Int) < N_ → R'_.2.2.1 203 0 q_ = if F_ ≤ (q_ : Int) ∧ (0 < rcn (mqs d_ R_) (mqr d_ R_) (mqk d_ R_) q_ ∨ (mqn F_ N_ d_ R_ q_ = true ∧ 1 < rcn (mqs d_ R_) (mqr d_ R_) (mqk d_ R_) q_ + mqp F_ N_ d_ R_ q_)) then 1 else 0) (h3_ : ∀ j_ : Int, F_ ≤ j_ → j_ < N_ → R'_.2.2.1 202 0 j_.toNat = 1 → sdv (mqs d_ R_) (mql d_ R_) (mqh d_ R_) (R'_.2.2.1 199 0 j_.toNat) (R'_.2.2.1 200 0 j_.toNat) j_.toNat) : rcm F_ N_ d_ R'_ := by
  have b1_ : mqn F_ N_ d_ R'_ = mqn F_ N_ d_ R_ := by
    unfold mqn
    rw [e_.1, e_.2.1, e_.2.2.1, e_.2.2.2.1, e_.2.2.2.2.1]
  have b2_ : mqp F_ N_ d_ R'_ = mqp F_ N_ d_ R_ := by
    funext q9_
    unfold mqp
    rw [e_.1, e_.2.1, e_.2.2.1, b1_]
  refine rcm_of hd'_ (by rw [e_.1, e_.2.1, e_.2.2.1]; exact hsw) ⟨fun q9_ hq9_ => ?_, fun q9_ hq9_ => ?_, fun q9_ hq9_ => ?_⟩
  · rw [b1_]
    exact h1_ q9_ (by omega)
  · rw [b1_, b2_, e_.1, e_.2.2.2.1, e_.2.2.2.2.1]
    exact h2_ q9_ hq9_
  · rw [e_.1, e_.2.1, e_.2.2.1]
    have z9_ := h3_ (q9_ : Int) hq9_.1 hq9_.2.1
    rw [Int.toNat_natCast] at z9_
    exact z9_ hq9_.2.2
/-- sides differ -/
theorem rcm_d {F_ N_ d_ : Int} {R_ : sm_S} (h_ : rcm F_ N_ d_ R_) (x_ : Int) (h0_ : F_ ≤ x_) (h1_ : x_ < N_) (hF_ : 0 ≤ F_) (h2_ : R_.2.2.1 202 0 x_.toNat = 1) : R_.2.2.1 199 0 x_.toNat / 2 ≠ R_.2.2.1 200 0 x_.toNat / 2 := by
  have t9_ : rtn F_ N_ R_ x_.toNat := ⟨by omega, by omega, h2_⟩
  have z9_ := ((h_.2 x_.toNat t9_).1.2.1 x_.toNat t9_).1.2.2
  intro e9_
  apply z9_
  unfold rcu rhq
  rw [e9_]
def rall (F_ N_ : Int) (R_ : sm_S) : Prop := ∀ x_, rtn F_ N_ R_ x_ → rnw F_ (rtn F_ N_ R_) R_ x_
theorem rnw_fr {w_ : sx_Wl} {F_ : Int} {x_ : Nat} {T_ : Nat → Prop} {R_ R'_ : sm_S} (ht_ : trh (rnn F_ R_) (rcu R_) (rhq R_) x_ T_) (h_ : rnw F_ T_ R_ x_) (hI_ : gi R_) (g_ : ai_fr (sx_W w_) R_ R'_) (a1_ : (sx_W w_).2.1 199 = false := by rfl) (a2_ : (sx_W w_).2.1 200 = false := by rfl) (a3_ : (sx_W w_).2.1 203 = false := by rfl) (a4_ : (sx_W w_).2.1 184 = false := by rfl) (a5_ : (sx_W w_).2.1 185 = false := by rfl) (a6_ : (sx_W w_).2.1 186 = false := by rfl) (a7_ : (sx_W w_).2.1 187 = false := by rfl) (a8_ : (sx_W w_).1 13 106 = false := by rfl) (a9_ : (sx_W w_).1 13 108 = false := by rfl) (b1_ : (sx_W w_).2.1 206 = false := by rfl) (b2_ : (sx_W w_).2.1 207 = false := by rfl) (b3_ : (sx_W w_).2.1 208 = false := by rfl) (b4_ : (sx_W w_).2.1 209 = false := by rfl) (b5_ : (sx_W w_).2.1 210 = false := by rfl) (b6_ : (sx_W w_).2.1 211 = false := by rfl) : rnw F_ T_ R'_ x_ := rnw_cg ht_ h_ (fr_arr g_ a1_) (fr_arr g_ a2_) (fr_arr g_ a3_) (fr_arr g_ a4_) (fr_arr g_ a5_) (fr_arr g_ a6_) (fr_arr g_ a7_) (g_.1 13 0 106 a8_) (g_.1 13 0 108 a9_) (fun j_ _ => by rw [fr_arr (t := 210) (i := 0) g_ b5_]) (fun j_ _ _ => by rw [fr_arr (t := 206) (i := 0) g_ b1_, fr_arr (t := 207) (i := 0) g_ b2_, fr_arr (t := 209) (i := 0) g_ b4_, fr_arr (t := 211) (i := 0) g_ b6_]; exact ⟨rfl, rfl, rfl, rfl⟩) (fun j_ _ _ => by rw [fr_arr (t := 208) (i := 0) g_ b3_]) (fun k_ => (hI_.2 185 0 k_).2)
/-- what findWays leaves, in the_ state behind -/
theorem rnw_nw {F_ : Int} {n_ : Nat} {T_ : Nat → Prop} {R_ R'_ : sm_S} (ht_ : trh (rnn F_ R_) (rcu R_) (rhq R_) n_ T_) (h_ : ∃ (m_ : Nat) (Q_ : Nat → List Nat) (TB_ : Nat → Int), (crn (rnn F_ R_) (rcu R_) (rhq R_) n_ m_).length ≤ m_ / 3 ∧ prm (crn (rnn F_ R_) (rcu R_) (rhq R_) n_ m_).length Q_ (fun i_ => (crn (rnn F_ R_) (rcu R_) (rhq R_) n_ m_).getD i_ []) ∧ sor (crn (rnn F_ R_) (rcu R_) (rhq R_) n_ m_).length Q_ ∧ (∀ i_, i_ < (crn (rnn F_ R_) (rcu R_) (rhq R_) n_ m_).length → ((2 ≤ (Q_ i_).length ∧ (Q_ i_).length ≤ 3) ∧ Q_ i_ ∈ crn (rnn F_ R_) (rcu R_) (rhq R_) n_ m_) ∧ tbq (rcu R_) (rhq R_) (rtl R_) (rtu R_) T_ n_ (Q_ i_) (TB_ i_)) ∧ fnr R'_ (2 * n_) (wbs adr (pcq F_ R_) (hrf (rfq R_) TB_ Q_ 0) (rar R_) (rip R_) Q_ (crn (rnn F_ R_) (rcu R_) (rhq R_) n_ m_).length (R_.2.2.1 184 0 (R_.1 13 0 106).toNat).toNat 1000000000) (wbs adr (pcq F_ R_) (hrf (rfq R_) TB_ Q_ 1) (rar R_) (rip R_) Q_ (crn (rnn F_ R_) (rcu R_) (rhq R_) n_ m_).length (R_.2.2.1 184 0 (R_.1 13 0 106).toNat).toNat 1000000000) ∧ fnr R'_ (2 * n_ + 1) (wbs adr (pcq F_ R_) (hrf (rfq R_) TB_ Q_ 1) (rar R_) (rip R_) Q_ (crn (rnn F_ R_) (rcu R_) (rhq R_) n_ m_).length (R_.2.2.1 184 0 (R_.1 13 0 106).toNat).toNat 1000000000) (wbs adr (pcq F_ R_) (hrf (rfq R_) TB_ Q_ 0) (rar R_) (rip R_) Q_ (crn (rnn F_ R_) (rcu R_) (rhq R_) n_ m_).length (R_.2.2.1 184 0 (R_.1 13 0 106).toNat).toNat 1000000000)) (e99_ : R'_.2.2.1 199 0 = R_.2.2.1 199 0) (e200_ : R'_.2.2.1 200 0 = R_.2.2.1 200 0) (e203_ : R'_.2.2.1 203 0 = R_.2.2.1 203 0) (e184_ : R'_.2.2.1 184 0 = R_.2.2.1 184 0) (e185_ : R'_.2.2.1 185 0 = R_.2.2.1 185 0) (e186_ : R'_.2.2.1 186 0 = R_.2.2.1 186 0) (e187_ : R'_.2.2.1 187 0 = R_.2.2.1 187 0) (f6_ : R'_.1 13 0 106 = R_.1 13 0 106) (f8 : R'_.1 13 0 108 = R_.1 13 0 108) (e210_ : ∀ j_, j_ < 2 * n_ → R'_.2.2.1 210 0 j_ = R_.2.2.1 210 0 j_) : rnw F_ T_ R'_ n_ := by
  have a1_ : rnn F_ R'_ = rnn F_ R_ := by
    funext y_
    unfold rnn
    rw [e203_]
  have a2_ : rcu R'_ = rcu R_ := by
    funext y_
    unfold rcu
    rw [e99_]
  have a3_ : rhq R'_ = rhq R_ := by
    funext y_
    unfold rhq
    rw [e200_]
  have a4_ : rtl R'_ = rtl R_ := by
    funext y_
    unfold rtl
    rw [e99_]
  have a5_ : rtu R'_ = rtu R_ := by
    funext y_
    unfold rtu
    rw [e200_]
  have a6_ : rar R'_ = rar R_ := by
    funext y_
    unfold rar
    rw [e187_, f6_]
  have a7_ : rip R'_ = rip R_ := by
    funext y_
    unfold rip
    rw [e185_, f6_]
  have a8_ : rfq R'_ = rfq R_ := by
    funext y_
    unfold rfq
    rw [e186_, f6_]
  obtain ⟨m_, Q_, TB_, h1_, h2_, h3_, h4_, h5_, h6_⟩ := h_
  unfold rnw
  rw [a1_, a2_, a3_, a4_, a5_, a6_, a7_, a8_, e184_, f6_]
  have pw_ : ∀ t_ : Nat, wbs adr (pcq F_ R'_) (hrf (rfq R_) TB_ Q_ t_) (rar R_) (rip R_) Q_ (crn (rnn F_ R_) (rcu R_) (rhq R_) n_ m_).length (R_.2.2.1 184 0 (R_.1 13 0 106).toNat).toNat 1000000000 = wbs adr (pcq F_ R_) (hrf (rfq R_) TB_ Q_ t_) (rar R_) (rip R_) Q_ (crn (rnn F_ R_) (rcu R_) (rhq R_) n_ m_).length (R_.2.2.1 184 0 (R_.1 13 0 106).toNat).toNat 1000000000 := fun t_ => wbs_cg (fun i_ hi9_ => (h4_ i_ hi9_).1.1) (fun i_ hi9_ y_ t_ hy_ t0_ t1_ => by
      have l9_ := (cut_n ht_ (h4_ i_ hi9_).1.2 hy_).1
      unfold pcq cst
      rw [e203_, f8, e210_ _ (by omega)])
  exact ⟨m_, Q_, TB_, h1_, h2_, h3_, h4_, by rw [pw_ 0, pw_ 1]; exact h5_, by rw [pw_ 0, pw_ 1]; exact h6_⟩
theorem kcp_fr {w_ : sx_Wl} {c_ d_ : Int} {S_ S'_ : sm_S} (h_ : kcp c_ d_ S_ S'_) (g_ : ai_fr (sx_W w_) S_ S'_) (q_ : dwf w_ = true := by rfl) (a1_ : (sx_W w_).2.1 184 = false := by rfl) (a2_ : (sx_W w_).2.1 185 = false := by rfl) (a3_ : (sx_W w_).2.1 186 = false := by rfl) (a4_ : (sx_W w_).2.1 187 = false := by rfl) (a5_ : (sx_W w_).2.1 188 = false := by rfl) (a6_ : (sx_W w_).2.1 216 = false := by rfl) (a7_ : (sx_W w_).2.1 217 = false := by rfl) (a8_ : (sx_W w_).1 13 106 = false := by rfl) (a9_ : (sx_W w_).1 13 129 = false := by rfl) : kcp c_ d_ S'_ S'_ := by
  obtain ⟨h1_, h2_, h3_, h4_, h5_, h6_, h7_, h8_, h9_⟩ := h_
  unfold kcp
  rw [g_.1 13 0 106 a8_, g_.1 13 0 129 a9_, fr_arr (t := 184) (i := 0) g_ a1_, fr_arr (t := 185) (i := 0) g_ a2_, fr_arr (t := 186) (i := 0) g_ a3_, fr_arr (t := 187) (i := 0) g_ a4_, fr_arr (t := 188) (i := 0) g_ a5_, fr_arr (t := 216) (i := 0) g_ a6_, fr_arr (t := 217) (i := 0) g_ a7_, fr_arr (t := 154) (i := 0) g_ (dwf_0 q_ (by decide) (by decide)), fr_arr (t := 155) (i := 0) g_ (dwf_0 q_ (by decide) (by decide)), fr_arr (t := 156) (i := 0) g_ (dwf_0 q_ (by decide) (by decide)), fr_arr (t := 157) (i := 0) g_ (dwf_0 q_ (by decide) (by decide))]
  exact ⟨h1_, h2_, h3_, h4_, h5_, h6_, rfl, rfl, h9_⟩
/-- what is_ made so_ far_ for_ the_ first k_ roots -/
def rim (F_ N_ : Int) (M_ : Nat → Int) : Prop := ∀ u_ : Nat, 3 ≤ u_ → ((u_ / 3 : Nat) : Int) < N_ → (F_ ≤ ((u_ / 3 : Nat) : Int) ∨ u_ % 3 ≠ 1) → M_ u_ = if u_ % 3 = 0 ∧ ((u_ / 3 : Nat) : Int) < F_ then ((u_ / 3 : Nat) : Int) - 1 else -1
def rqz (F_ N_ d_ : Int) (k_ : Nat) (nt_ : Nat → Int) (S_ : sm_S) : Prop := ∃ (M_ : Nat → Int) (gs_ : List (Int × List Int)), rim F_ N_ M_ ∧ rgz S_ gs_ ∧ lck S_ gs_ ∧ (mdr F_ S_, gs_) = rtq (rpn S_) (rpv F_ S_) (rgc S_) (F_ - 1) (mqL d_ S_) k_ (M_, []) ∧ ∀ j_, j_ < k_ → nt_ j_ = ntq (mqL d_ S_) (mdr F_ S_) j_ ∧ (mqL d_ S_ j_ ≤ 1 ∨ mdr F_ S_ (3 * (mqL d_ S_ j_ / 2) + 2 * (mqL d_ S_ j_ % 2)).toNat ≠ -1)
/-- nets told so_ far_ -/
def ntc (c_ o_ : Int) (S_ : sm_S) (j_ : Nat) : Int := if (j_ : Int) < o_ then S_.2.2.1 231 0 (16 * c_ + (j_ : Int)).toNat else S_.2.2.1 232 0 (6 * c_ + ((j_ : Int) - o_)).toNat
theorem rim_0 {F_ N_ : Int} {S_ : sm_S} (hF_ : 1 ≤ F_) (h2_ : ∀ j_ : Int, 2 * F_ ≤ j_ → j_ < 2 * N_ → S_.2.2.1 218 0 j_.toNat = -1) (h3_ : ∀ j_ : Int, 0 ≤ j_ → j_ < N_ → S_.2.2.1 219 0 j_.toNat = -1) : rim F_ N_ (mdr F_ S_) := by
  intro u_ h1_ hN9_ hc_
  unfold mdr
  by_cases a_ : u_ % 3 = 2
  · rw [if_pos (by omega), if_neg (by omega)]
    exact h3_ _ (by omega) (by omega)
  · rw [if_neg (by omega)]
    by_cases b_ : u_ % 3 = 0 ∧ ((u_ / 3 : Nat) : Int) < F_
    · rw [if_pos b_, if_pos ⟨by omega, by omega⟩]
      omega
    · rw [if_neg b_, if_neg (by omega)]
      exact h2_ _ (by omega) (by omega)
theorem rqz_0 {F_ N_ d_ : Int} {nt_ : Nat → Int} {S_ : sm_S} (hF_ : 1 ≤ F_) (h_ : S_.1 13 0 129 = 0) (h1_ : S_.1 13 0 134 = 0) (h2_ : ∀ j_ : Int, 2 * F_ ≤ j_ → j_ < 2 * N_ → S_.2.2.1 218 0 j_.toNat = -1) (h3_ : ∀ j_ : Int, 0 ≤ j_ → j_ < N_ → S_.2.2.1 219 0 j_.toNat = -1) : rqz F_ N_ d_ 0 nt_ S_ := by
  refine ⟨mdr F_ S_, [], rim_0 hF_ h2_ h3_, ⟨h_, fun g_ c_ ns_ q9_ => ?_⟩, ⟨fun q9_ => ?_, fun q9_ => ?_⟩, rfl, fun j_ hj_ => absurd hj_ (Nat.not_lt_zero _)⟩
  · have q9_ : (none : Option (Int × List Int)) = some (c_, ns_) := q9_
    cases q9_
  · rw [h1_] at q9_
    exact absurd q9_ (by decide)
  · obtain ⟨e9_, m9_, -⟩ := q9_
    exact absurd m9_ List.not_mem_nil
theorem rqz_nt {F_ N_ d_ : Int} {k_ : Nat} {nt_ nt'_ : Nat → Int} {S_ : sm_S} (h_ : rqz F_ N_ d_ k_ nt_ S_) (e_ : ∀ j_, j_ < k_ → nt'_ j_ = nt_ j_) : rqz F_ N_ d_ k_ nt'_ S_ := by
  obtain ⟨M_, gs_, h1_, h2_, h3_, h4_, h5_⟩ := h_
  exact ⟨M_, gs_, h1_, h2_, h3_, h4_, fun j_ hj_ => ⟨(e_ j_ hj_).trans (h5_ j_ hj_).1, (h5_ j_ hj_).2⟩⟩
theorem rqz_fr {w_ : sx_Wl} {F_ N_ d_ : Int} {k_ : Nat} {nt_ : Nat → Int} {S_ S'_ : sm_S} (h_ : rqz F_ N_ d_ k_ nt_ S_) (g_ : ai_fr (sx_W w_) S_ S'_) (q_ : dwf w_ = true := by rfl) (a1_ : (sx_W w_).2.1 185 = false := by rfl) (a2_ : (sx_W w_).2.1 203 = false := by rfl) (a3_ : (sx_W w_).2.1 207 = false := by rfl) (a4_ : (sx_W w_).2.1 208 = false := by rfl) (a5_ : (sx_W w_).2.1 209 = false := by rfl) (a6_ : (sx_W w_).2.1 211 = false := by rfl) (a7_ : (sx_W w_).1 13 106 = false := by rfl) (a8_ : (sx_W w_).1 13 107 = false := by rfl) (b1_ : (sx_W w_).1 13 129 = false := by rfl) (b2_ : (sx_W w_).1 13 134 = false := by rfl) (b3_ : (sx_W w_).2.1 216 = false := by rfl) (b4_ : (sx_W w_).2.1 217 = false := by rfl) (b5_ : (sx_W w_).2.1 218 = false := by rfl) (b6_ : (sx_W w_).2.1 219 = false := by rfl) : rqz F_ N_ d_ k_ nt_ S'_ := by
  obtain ⟨M_, gs_, h1_, h2_, h3_, h4_, h5_⟩ := h_
  have p9_ := rp_fr (F_ := F_) g_ a1_ a2_ a3_ a4_ a5_ a6_ a7_ a8_
  have m9_ := (mq_fr (d_ := d_) g_ q_).2.2.2.2.2
  have d9_ : mdr F_ S'_ = mdr F_ S_ := mdr_cg (fr_arr g_ b5_) (fr_arr g_ b6_)
  refine ⟨M_, gs_, h1_, rgz_fr h2_ g_ b1_ b3_ b4_, ?_, ?_, ?_⟩
  · unfold lck
    rw [g_.1 13 0 134 b2_]
    exact h3_
  · rw [p9_.1, p9_.2.1, p9_.2.2, m9_, d9_]
    exact h4_
  · rw [m9_, d9_]
    exact h5_
/-- the_ task of_ a_ root can_ be_ made -/
theorem rgk_r {F_ N_ q_ : Int} {S_ : sm_S} (hF_ : 1 ≤ F_) (h1_ : 1 < q_) (h2_ : q_ / 2 < N_) (hp_ : mrk F_ S_ (q_ / 2)) (hgd_ : gdr F_ N_ S_) : rgk F_ N_ S_ (3 * (q_ / 2) + 2 * (q_ % 2)).toNat := by
  have c9_ : q_ % 2 = 0 ∨ q_ % 2 = 1 := by omega
  rcases c9_ with c9_ | c9_
  · by_cases f9_ : q_ / 2 < F_
    · exact Or.inr ⟨⟨by omega, by omega, by omega⟩, by omega⟩
    · have r9_ := hp_.2.resolve_left f9_
      refine Or.inl ⟨0, 2 * (q_ / 2), Or.inr ⟨rfl, by omega, by omega, by rw [show 2 * (q_ / 2) / 2 = q_ / 2 by omega]; exact hp_.1, hgd_ (q_ / 2) (by omega) h2_ hp_.1 r9_⟩, ?_⟩
      rw [jtk_0]
      omega
  · refine Or.inl ⟨1, q_ / 2, Or.inl ⟨rfl, by omega, h2_, hp_.1, ?_⟩, ?_⟩
    · by_cases f9_ : q_ / 2 < F_
      · exact Or.inl f9_
      · have r9_ := hp_.2.resolve_left f9_
        exact Or.inr ⟨r9_, hgd_ (q_ / 2) (by omega) h2_ hp_.1 r9_⟩
    · rw [jtk_1]
      omega
/-- one_ root more -/
theorem rqz_s {w_ : sx_Wl} {F_ N_ d_ v_ : Int} {k_ : Nat} {nt_ nt'_ : Nat → Int} {S_ S'_ : sm_S} (h_ : ∃ (M_ : Nat → Int) (gs_ : List (Int × List Int)), rim F_ N_ M_ ∧ (mdr F_ S_, gs_) = rtq (rpn S_) (rpv F_ S_) (rgc S_) (F_ - 1) (mqL d_ S_) k_ (M_, []) ∧ (∀ j_, j_ < k_ → nt_ j_ = ntq (mqL d_ S_) (mdr F_ S_) j_ ∧ (mqL d_ S_ j_ ≤ 1 ∨ mdr F_ S_ (3 * (mqL d_ S_ j_ / 2) + 2 * (mqL d_ S_ j_ % 2)).toNat ≠ -1)) ∧ ∃ g1_ : List (Int × List Int), rgz S'_ g1_ ∧ lck S'_ g1_ ∧ (mdr F_ S'_, g1_) = (if mqL d_ S_ k_ ≤ 1 then (mdr F_ S_, gs_) else gmk (rpn S_) (rpv F_ S_) (rgc S_) (F_ - 1) 4000 (3 * (mqL d_ S_ k_ / 2) + 2 * (mqL d_ S_ k_ % 2)).toNat (mdr F_ S_, gs_)) ∧ v_ = (if mqL d_ S_ k_ ≤ 1 then -1 - mqL d_ S_ k_ else mdr F_ S'_ (3 * (mqL d_ S_ k_ / 2) + 2 * (mqL d_ S_ k_ % 2)).toNat)) (hI_ : gi S_) (hal_ : wal9 F_ N_ S_) (hgd_ : gdr F_ N_ S_) (hF_ : 1 ≤ F_) (hN_ : N_ ≤ 1013) (hL_ : 1 < mqL d_ S_ k_ → mqL d_ S_ k_ / 2 < N_ ∧ mrk F_ S_ (mqL d_ S_ k_ / 2)) (g_ : ai_fr (sx_W w_) S_ S'_) (e0_ : ∀ j_, j_ < k_ → nt'_ j_ = nt_ j_) (e1_ : nt'_ k_ = v_) (q_ : dwf w_ = true := by rfl) (a1_ : (sx_W w_).2.1 185 = false := by rfl) (a2_ : (sx_W w_).2.1 203 = false := by rfl) (a3_ : (sx_W w_).2.1 207 = false := by rfl) (a4_ : (sx_W w_).2.1 208 = false := by rfl) (a5_ : (sx_W w_).2.1 209 = false := by rfl) (a6_ : (sx_W w_).2.1 211 = false := by rfl) (a7_ : (sx_W w_).1 13 106 = false := by rfl) (a8_ : (sx_W w_).1 13 107 = false := by rfl) : rqz F_ N_ d_ (k_ + 1) nt'_ S'_ := by
  obtain ⟨M_, gs_, h1_, h4_, h5_, g1_, h6_, h7_, h8_, h9_⟩ := h_
  have p9_ := rp_fr (F_ := F_) g_ a1_ a2_ a3_ a4_ a5_ a6_ a7_ a8_
  have m9_ := (mq_fr (d_ := d_) g_ q_).2.2.2.2.2
  have st_ : rtq (rpn S_) (rpv F_ S_) (rgc S_) (F_ - 1) (mqL d_ S_) (k_ + 1) (M_, []) = if mqL d_ S_ k_ ≤ 1 then rtq (rpn S_) (rpv F_ S_) (rgc S_) (F_ - 1) (mqL d_ S_) k_ (M_, []) else gmk (rpn S_) (rpv F_ S_) (rgc S_) (F_ - 1) 4000 (3 * (mqL d_ S_ k_ / 2) + 2 * (mqL d_ S_ k_ % 2)).toNat (rtq (rpn S_) (rpv F_ S_) (rgc S_) (F_ - 1) (mqL d_ S_) k_ (M_, [])) := rfl
  have kp_ : ∀ u_ : Nat, mdr F_ S_ u_ ≠ -1 → mdr F_ S'_ u_ = mdr F_ S_ u_ := by
    intro u_ hu_
    by_cases c_ : mqL d_ S_ k_ ≤ 1
    · rw [if_pos c_] at h8_
      rw [show mdr F_ S'_ = mdr F_ S_ from congrArg Prod.fst h8_]
    · rw [if_neg c_] at h8_
      have gd_ := gdg_r hI_ hal_ hgd_ hF_
      have l9_ := hL_ (by omega)
      have r9_ := gmk_r (gc_ := rgc S_) (show 0 ≤ F_ - 1 by omega) gd_ 4000 _ (mdr F_ S_, gs_) (rgk_r hF_ (by omega) l9_.1 l9_.2 hgd_) (fun x_ hx_ => mdr_i hx_) (rrk_b (by omega))
      rw [← h8_] at r9_
      exact r9_.1.1 u_ hu_
  have nw : mqL d_ S_ k_ ≤ 1 ∨ mdr F_ S'_ (3 * (mqL d_ S_ k_ / 2) + 2 * (mqL d_ S_ k_ % 2)).toNat ≠ -1 := by
    by_cases c_ : mqL d_ S_ k_ ≤ 1
    · exact Or.inl c_
    · rw [if_neg c_] at h8_
      have gd_ := gdg_r hI_ hal_ hgd_ hF_
      have l9_ := hL_ (by omega)
      have r9_ := gmk_r (gc_ := rgc S_) (show 0 ≤ F_ - 1 by omega) gd_ 4000 _ (mdr F_ S_, gs_) (rgk_r hF_ (by omega) l9_.1 l9_.2 hgd_) (fun x_ hx_ => mdr_i hx_) (rrk_b (by omega))
      rw [← h8_] at r9_
      exact Or.inr r9_.2.1
  refine ⟨M_, g1_, h1_, h6_, h7_, ?_, fun j_ hj_ => ?_⟩
  · rw [p9_.1, p9_.2.1, p9_.2.2, m9_, st_, ← h4_]
    exact h8_
  · rw [m9_]
    by_cases c_ : j_ = k_
    · rw [c_]
      refine ⟨?_, nw⟩
      rw [e1_, h9_]
      rfl
    · have z9_ := h5_ j_ (by omega)
      have y9_ : mqL d_ S_ j_ ≤ 1 ∨ mdr F_ S'_ (3 * (mqL d_ S_ j_ / 2) + 2 * (mqL d_ S_ j_ % 2)).toNat = mdr F_ S_ (3 * (mqL d_ S_ j_ / 2) + 2 * (mqL d_ S_ j_ % 2)).toNat := z9_.2.imp id (fun u9_ => kp_ _ u9_)
      refine ⟨(e0_ j_ (by omega)).trans (z9_.1.trans (ntq_cg y9_).symm), ?_⟩
      rcases z9_.2 with u9_ | u9_
      · exact Or.inl u9_
      · exact Or.inr (by rw [kp_ _ u9_]; exact u9_)
theorem mqL_o {d_ : Int} {S_ : sm_S} {i_ l_ : Int} (hd_ : 0 ≤ d_) (h0_ : 0 ≤ i_) (h1_ : i_ < S_.2.2.1 156 0 d_.toNat) (hl_ : l_ = S_.2.2.1 167 0 (16 * d_ + i_).toNat) (l0_ : 0 ≤ l_) : mqL d_ S_ i_.toNat = i_xor (S_.2.2.1 166 0 (2048 * d_ + l_ / 2).toNat) (l_ % 2) := by
  have e_ : mqr d_ S_ i_.toNat = l_ := by
    unfold mqr rto
    rw [if_pos (by omega), hl_, show (16 * d_ + i_).toNat = 16 * d_.toNat + i_.toNat by omega]
  unfold mqL mqs
  rw [e_, show (2048 * d_ + l_ / 2).toNat = 2048 * d_.toNat + (l_ / 2).toNat by omega]
theorem mqL_n {d_ : Int} {S_ : sm_S} {i_ l_ : Int} (hd_ : 0 ≤ d_) (h0_ : 0 ≤ i_) (hl_ : l_ = S_.2.2.1 168 0 (6 * d_ + i_).toNat) (l0_ : 0 ≤ l_) : mqL d_ S_ ((S_.2.2.1 156 0 d_.toNat).toNat + i_.toNat) = i_xor (S_.2.2.1 166 0 (2048 * d_ + l_ / 2).toNat) (l_ % 2) := by
  have e_ : mqr d_ S_ ((S_.2.2.1 156 0 d_.toNat).toNat + i_.toNat) = l_ := by
    unfold mqr rto
    rw [if_neg (by omega), hl_, show (6 * d_ + i_).toNat = 6 * d_.toNat + ((S_.2.2.1 156 0 d_.toNat).toNat + i_.toNat - (S_.2.2.1 156 0 d_.toNat).toNat) by omega]
  unfold mqL mqs
  rw [e_, show (2048 * d_ + l_ / 2).toNat = 2048 * d_.toNat + (l_ / 2).toNat by omega]
/-- a_ swept literal -/
theorem xb_1 {x_ t_ : Int} (h0_ : 0 ≤ x_) (h1_ : x_ ≤ 2047) (ht_ : t_ = 0 ∨ t_ = 1) : i_xor x_ t_ / 2 = x_ / 2 := by
  rcases ht_ with e_ | e_
  · have z9_ : i_xor x_ 0 = ((x_.toNat ^^^ (0 : Int).toNat : Nat) : Int) := bt_xor_nat h0_ (by omega) (by decide) (by decide)
    rw [e_, z9_, show (0 : Int).toNat = 0 from rfl, Nat.xor_zero]
    omega
  · have z9_ := i_x1 (x_ := x_) ⟨h0_, h1_⟩
    rw [e_, z9_]
    omega
theorem mqL_b {F_ N_ d_ l_ : Int} {S_ : sm_S} (hd_ : dmp F_ N_ d_ S_) (h0_ : 0 ≤ l_) (h1_ : l_ < 2 * N_) : i_xor (S_.2.2.1 166 0 (2048 * d_ + l_ / 2).toNat) (l_ % 2) / 2 = nod d_ S_ l_ ∧ nod d_ S_ l_ < N_ := by
  obtain ⟨a9_, F1_, I1_, R1_, N1_, k1_, k2_, k3_, -⟩ := hd_
  have s9_ := k3_.2 (l_ / 2).toNat (by omega)
  have b9_ := s9_.1
  have e9_ : (2048 * d_ + l_ / 2).toNat = 2048 * d_.toNat + (l_ / 2).toNat := by omega
  unfold nod
  rw [e9_]
  have b9_ : 0 ≤ S_.2.2.1 166 0 (2048 * d_.toNat + (l_ / 2).toNat) ∧ S_.2.2.1 166 0 (2048 * d_.toNat + (l_ / 2).toNat) < 2 * ((l_ / 2).toNat : Int) + 2 := by
    constructor
    · exact b9_.1
    · have z9_ : S_.2.2.1 166 0 (2048 * d_.toNat + (l_ / 2).toNat) ≤ 2 * (((l_ / 2).toNat : Nat) : Int) + 1 := b9_.2
      omega
  exact ⟨xb_1 b9_.1 (by omega) (by omega), by omega⟩
/-! what map_ leaves -/
def ora_map (a1_ a2_ : Int) (S_ : sm_S) : Prop := (0 ≤ a1_ ∧ a1_ < 6 ∧ S_.2.2.1 153 0 a1_.toNat = 1) ∧ (0 ≤ a2_ ∧ a2_ < 3 ∧ S_.2.2.1 183 0 a2_.toNat = 1)
def frr (c_ : Int) (S_ : sm_S) : Prop := 0 ≤ c_ ∧ c_ ≤ 3 ∧ S_.2.2.1 222 0 c_.toNat = 0 ∧ ∀ j_ : Nat, (j_ : Int) < c_ → S_.2.2.1 222 0 j_ = 1
def mpr (F_ N_ a1_ a2_ c_ : Int) (S0_ S1_ : sm_S) (v_ : Int) : Prop := (dmp F_ N_ a1_ S1_ ∧ rcm F_ N_ a1_ S1_ ∧ rall F_ N_ S1_ ∧ wal9 F_ N_ S1_ ∧ rtd F_ a1_ (S1_.2.2.1 156 0 a1_.toNat) (S1_.2.2.1 155 0 a1_.toNat) S1_) ∧ (S1_.1 13 0 106 = a2_ ∧ S1_.1 13 0 107 = rfv S1_.2.2.1 a2_ (S1_.2.2.1 184 0 a2_.toNat).toNat ∧ S1_.1 13 0 108 = if S1_.1 13 0 107 = -1 then 1000000000 else S1_.2.2.1 187 0 (12 * a2_ + S1_.1 13 0 107).toNat) ∧ (rcf c_.toNat S0_ S1_ ∧ (v_ ≠ c_ → S1_.2.2.1 222 0 c_.toNat = 0)) ∧ ((v_ = -1 ∧ ∃ x_ : Nat, rtn F_ N_ S1_ x_ ∧ S1_.2.2.1 203 0 x_ = 1 ∧ 1000000000 ≤ S1_.2.2.1 210 0 (2 * x_)) ∨ (gdr F_ N_ S1_ ∧ rqz F_ N_ a1_ (mqk a1_ S1_) (ntc c_ (S1_.2.2.1 156 0 a1_.toNat) S1_) S1_ ∧ ((v_ = -1 ∧ S1_.1 13 0 134 = 1) ∨ (v_ = -2 ∧ S1_.1 13 0 134 = 0 ∧ 150 < S1_.1 13 0 129) ∨ (v_ = c_ ∧ S1_.1 13 0 134 = 0 ∧ S1_.1 13 0 129 ≤ 150 ∧ kcp c_ a1_ S1_ S1_))))

/-! M_.map -/
def vw_419n : sx_Wl := ([(13, 0), (13, 105), (13, 106), (13, 107), (13, 108), (13, 114), (13, 123), (13, 127), (13, 129), (13, 134), (13, 137)], [199, 200, 201, 202, 203, 204, 205, 206, 207, 208, 209, 210, 211, 212, 213, 214, 215, 216, 217, 218, 219, 220, 221, 222, 223, 224, 225, 226, 227, 228, 229, 230, 231, 232, 233, 234, 235, 236, 237, 240, 251, 263, 272, 289, 294], [])
