/-! the reference: a design mapped; written by wip/p55/gen/vg -/

/-! the_ reference: a_ design mapped, with what comes of_ it_ -/
theorem rfv_b {A_ : Nat → Nat → Nat → Int} {a_ : Int} : ∀ k_ : Nat, rfv A_ a_ k_ = -1 ∨ (0 ≤ rfv A_ a_ k_ ∧ rfv A_ a_ k_ < (k_ : Int) ∧ A_ 185 0 (12 * a_ + rfv A_ a_ k_).toNat = 1)
  | 0 => Or.inl rfl
  | k_ + 1 => by
    rw [rfv_s]
    by_cases c_ : A_ 185 0 (12 * a_ + (k_ : Int)).toNat = 1 ∧ A_ 186 0 (12 * a_ + (k_ : Int)).toNat = 1 ∧ (rfv A_ a_ k_ = -1 ∨ A_ 187 0 (12 * a_ + (k_ : Int)).toNat < A_ 187 0 (12 * a_ + rfv A_ a_ k_).toNat)
    · rw [if_pos c_]
      exact Or.inr ⟨by omega, by omega, c_.1⟩
    · rw [if_neg c_]
      rcases rfv_b (A_ := A_) (a_ := a_) k_ with h_ | h_
      · exact Or.inl h_
      · exact Or.inr ⟨h_.1, by omega, h_.2.2⟩
theorem rfv_cg {A_ B_ : Nat → Nat → Nat → Int} {a_ : Int} (e1_ : A_ 185 0 = B_ 185 0) (e2_ : A_ 186 0 = B_ 186 0) (e3_ : A_ 187 0 = B_ 187 0) : ∀ k_ : Nat, rfv A_ a_ k_ = rfv B_ a_ k_
  | 0 => rfl
  | k_ + 1 => by
    rw [rfv_s, rfv_s, rfv_cg e1_ e2_ e3_ k_, e1_, e2_, e3_]
/-- literals of_ the_ roots -/
def mqL (d_ : Int) (R_ : sm_S) (j_ : Nat) : Int := i_xor (mqs d_ R_ (mqr d_ R_ j_ / 2).toNat) (mqr d_ R_ j_ % 2)
theorem mq_fr {w_ : sx_Wl} {d_ : Int} {R_ R'_ : sm_S} (g_ : ai_fr (sx_W w_) R_ R'_) (q_ : dwf w_ = true := by rfl) : mqs d_ R'_ = mqs d_ R_ ∧ mql d_ R'_ = mql d_ R_ ∧ mqh d_ R'_ = mqh d_ R_ ∧ mqk d_ R'_ = mqk d_ R_ ∧ mqr d_ R'_ = mqr d_ R_ ∧ mqL d_ R'_ = mqL d_ R_ := by
  have a1_ : mqs d_ R'_ = mqs d_ R_ := by
    funext m9_
    unfold mqs
    rw [fr_arr (t := 166) g_ (dwf_0 q_ (by decide) (by decide))]
  have a2_ : mql d_ R'_ = mql d_ R_ := by
    funext m9_
    unfold mql
    rw [fr_arr (t := 164) g_ (dwf_0 q_ (by decide) (by decide))]
  have a3_ : mqh d_ R'_ = mqh d_ R_ := by
    funext m9_
    unfold mqh
    rw [fr_arr (t := 165) g_ (dwf_0 q_ (by decide) (by decide))]
  have a4_ : mqk d_ R'_ = mqk d_ R_ := by
    unfold mqk
    rw [fr_arr (t := 156) g_ (dwf_0 q_ (by decide) (by decide)), fr_arr (t := 155) g_ (dwf_0 q_ (by decide) (by decide))]
  have a5_ : mqr d_ R'_ = mqr d_ R_ := by
    unfold mqr
    rw [fr_arr (t := 156) g_ (dwf_0 q_ (by decide) (by decide)), fr_arr (t := 167) g_ (dwf_0 q_ (by decide) (by decide)), fr_arr (t := 168) g_ (dwf_0 q_ (by decide) (by decide))]
  refine ⟨a1_, a2_, a3_, a4_, a5_, ?_⟩
  funext j_
  unfold mqL
  rw [a1_, a5_]
theorem rcm_fr {w_ : sx_Wl} {F_ N_ d_ : Int} {R_ R'_ : sm_S} (h_ : rcm F_ N_ d_ R_) (g_ : ai_fr (sx_W w_) R_ R'_) (q_ : dwf w_ = true := by rfl) (h1_ : (sx_W w_).2.1 199 = false := by rfl) (h2_ : (sx_W w_).2.1 200 = false := by rfl) (h3_ : (sx_W w_).2.1 202 = false := by rfl) (h4_ : (sx_W w_).2.1 203 = false := by rfl) : rcm F_ N_ d_ R'_ ∧ rtn F_ N_ R'_ = rtn F_ N_ R_ := by
  have m9_ := mq_fr (d_ := d_) g_ q_
  have b1_ : mqn F_ N_ d_ R'_ = mqn F_ N_ d_ R_ := by
    unfold mqn
    rw [m9_.1, m9_.2.1, m9_.2.2.1, m9_.2.2.2.1, m9_.2.2.2.2.1]
  have b2_ : mqp F_ N_ d_ R'_ = mqp F_ N_ d_ R_ := by
    funext q9_
    unfold mqp
    rw [m9_.1, m9_.2.1, m9_.2.2.1, b1_]
  have b3_ : rtn F_ N_ R'_ = rtn F_ N_ R_ := by
    funext x_
    unfold rtn
    rw [fr_arr (t := 202) (i := 0) g_ h3_]
  have b4_ : rnn F_ R'_ = rnn F_ R_ := by
    funext x_
    unfold rnn
    rw [fr_arr (t := 203) (i := 0) g_ h4_]
  have b5_ : rcu R'_ = rcu R_ := by
    funext x_
    unfold rcu
    rw [fr_arr (t := 199) (i := 0) g_ h1_]
  have b6_ : rhq R'_ = rhq R_ := by
    funext x_
    unfold rhq
    rw [fr_arr (t := 200) (i := 0) g_ h2_]
  refine ⟨?_, b3_⟩
  unfold rcm rcq0
  rw [b1_, b2_, b3_, b4_, b5_, b6_, m9_.1, m9_.2.1, m9_.2.2.1, m9_.2.2.2.1, m9_.2.2.2.2.1, fr_arr (t := 199) (i := 0) g_ h1_, fr_arr (t := 200) (i := 0) g_ h2_, fr_arr (t := 202) (i := 0) g_ h3_, fr_arr (t := 203) (i := 0) g_ h4_]
  exact h_
theorem rcm_n {F_ N_ d_ : Int} {R_ R'_ : sm_S} (hd_ : dmp F_ N_ d_ R_) (hsw : swd F_.toNat N_.toNat (mql d_ R_) (mqh d_ R_) (mqs d_ R_)) (hd'_ : dmp F_ N_ d_ R'_) (e_ : mqs d_ R'_ = mqs d_ R_ ∧ mql d_ R'_ = mql d_ R_ ∧ mqh d_ R'_ = mqh d_ R_ ∧ mqk d_ R'_ = mqk d_ R_ ∧ mqr d_ R'_ = mqr d_ R_ ∧ mqL d_ R'_ = mqL d_ R_) (h1_ : ndw N_.toNat (N_.toNat - F_.toNat) (mqs d_ R_) (mql d_ R_) (mqh d_ R_) (nd0 (mqs d_ R_) (mqr d_ R_) (mqk d_ R_)) (R'_.2.2.1 202 0)) (h2_ : ∀ q_ : Nat, (q_ : Int) < N_ → R'_.2.2.1 203 0 q_ = if F_ ≤ (q_ : Int) ∧ (0 < rcn (mqs d_ R_) (mqr d_ R_) (mqk d_ R_) q_ ∨ (mqn F_ N_ d_ R_ q_ = true ∧ 1 < rcn (mqs d_ R_) (mqr d_ R_) (mqk d_ R_) q_ + mqp F_ N_ d_ R_ q_)) then 1 else 0) (h3_ : ∀ j_ : Int, F_ ≤ j_ → j_ < N_ → R'_.2.2.1 202 0 j_.toNat = 1 → sdv (mqs d_ R_) (mql d_ R_) (mqh d_ R_) (R'_.2.2.1 199 0 j_.toNat) (R'_.2.2.1 200 0 j_.toNat) j_.toNat) : rcm F_ N_ d_ R'_ := by
  have b1_ : mqn F_ N_ d_ R'_ = mqn F_ N_ d_ R_ := by
    unfold mqn
    rw [e_.1, e_.2.1, e_.2.2.1, e_.2.2.2.1, e_.2.2.2.2.1]
  have b2_ : mqp F_ N_ d_ R'_ = mqp F_ N_ d_ R_ := by
    funext q9_
    unfold mqp
    rw [e_.1, e_.2.1, e_.2.2.1, b1_]
  refine rcm_of hd'_ (by rw [e_.1, e_.2.1, e_.2.2.1]; exact hsw) ⟨fun q9_ hq9_ => ?_, fun q9_ hq9_ => ?_, fun q9_ hq9_ => ?_⟩
  · rw [b1_]
    exact h1_ q9_ (by omega)
  · rw [b1_, b2_, e_.1, e_.2.2.2.1, e_.2.2.2.2.1]
    exact h2_ q9_ hq9_
  · rw [e_.1, e_.2.1, e_.2.2.1]
    have z9_ := h3_ (q9_ : Int) hq9_.1 hq9_.2.1
    rw [Int.toNat_natCast] at z9_
    exact z9_ hq9_.2.2
/-- sides differ -/
theorem rcm_d {F_ N_ d_ : Int} {R_ : sm_S} (h_ : rcm F_ N_ d_ R_) (x_ : Int) (h0_ : F_ ≤ x_) (h1_ : x_ < N_) (hF_ : 0 ≤ F_) (h2_ : R_.2.2.1 202 0 x_.toNat = 1) : R_.2.2.1 199 0 x_.toNat / 2 ≠ R_.2.2.1 200 0 x_.toNat / 2 := by
  have t9_ : rtn F_ N_ R_ x_.toNat := ⟨by omega, by omega, h2_⟩
  have z9_ := ((h_.2 x_.toNat t9_).1.2.1 x_.toNat t9_).1.2.2
  intro e9_
  apply z9_
  unfold rcu rhq
  rw [e9_]
def rall (F_ N_ : Int) (R_ : sm_S) : Prop := ∀ x_, rtn F_ N_ R_ x_ → rnw F_ (rtn F_ N_ R_) R_ x_
theorem rnw_fr {w_ : sx_Wl} {F_ : Int} {x_ : Nat} {T_ : Nat → Prop} {R_ R'_ : sm_S} (ht_ : trh (rnn F_ R_) (rcu R_) (rhq R_) x_ T_) (h_ : rnw F_ T_ R_ x_) (hI_ : gi R_) (g_ : ai_fr (sx_W w_) R_ R'_) (a1_ : (sx_W w_).2.1 199 = false := by rfl) (a2_ : (sx_W w_).2.1 200 = false := by rfl) (a3_ : (sx_W w_).2.1 203 = false := by rfl) (a4_ : (sx_W w_).2.1 184 = false := by rfl) (a5_ : (sx_W w_).2.1 185 = false := by rfl) (a6_ : (sx_W w_).2.1 186 = false := by rfl) (a7_ : (sx_W w_).2.1 187 = false := by rfl) (a8_ : (sx_W w_).1 13 106 = false := by rfl) (a9_ : (sx_W w_).1 13 108 = false := by rfl) (b1_ : (sx_W w_).2.1 206 = false := by rfl) (b2_ : (sx_W w_).2.1 207 = false := by rfl) (b3_ : (sx_W w_).2.1 208 = false := by rfl) (b4_ : (sx_W w_).2.1 209 = false := by rfl) (b5_ : (sx_W w_).2.1 210 = false := by rfl) (b6_ : (sx_W w_).2.1 211 = false := by rfl) : rnw F_ T_ R'_ x_ := rnw_cg ht_ h_ (fr_arr g_ a1_) (fr_arr g_ a2_) (fr_arr g_ a3_) (fr_arr g_ a4_) (fr_arr g_ a5_) (fr_arr g_ a6_) (fr_arr g_ a7_) (g_.1 13 0 106 a8_) (g_.1 13 0 108 a9_) (fun j_ _ => by rw [fr_arr (t := 210) (i := 0) g_ b5_]) (fun j_ _ _ => by rw [fr_arr (t := 206) (i := 0) g_ b1_, fr_arr (t := 207) (i := 0) g_ b2_, fr_arr (t := 209) (i := 0) g_ b4_, fr_arr (t := 211) (i := 0) g_ b6_]; exact ⟨rfl, rfl, rfl, rfl⟩) (fun j_ _ _ => by rw [fr_arr (t := 208) (i := 0) g_ b3_]) (fun k_ => (hI_.2 185 0 k_).2)
/-- what findWays leaves, in the_ state behind -/
theorem rnw_nw {F_ : Int} {n_ : Nat} {T_ : Nat → Prop} {R_ R'_ : sm_S} (ht_ : trh (rnn F_ R_) (rcu R_) (rhq R_) n_ T_) (h_ : ∃ (m_ : Nat) (Q_ : Nat → List Nat) (TB_ : Nat → Int), (crn (rnn F_ R_) (rcu R_) (rhq R_) n_ m_).length ≤ m_ / 3 ∧ prm (crn (rnn F_ R_) (rcu R_) (rhq R_) n_ m_).length Q_ (fun i_ => (crn (rnn F_ R_) (rcu R_) (rhq R_) n_ m_).getD i_ []) ∧ sor (crn (rnn F_ R_) (rcu R_) (rhq R_) n_ m_).length Q_ ∧ (∀ i_, i_ < (crn (rnn F_ R_) (rcu R_) (rhq R_) n_ m_).length → ((2 ≤ (Q_ i_).length ∧ (Q_ i_).length ≤ 3) ∧ Q_ i_ ∈ crn (rnn F_ R_) (rcu R_) (rhq R_) n_ m_) ∧ tbq (rcu R_) (rhq R_) (rtl R_) (rtu R_) T_ n_ (Q_ i_) (TB_ i_)) ∧ fnr R'_ (2 * n_) (wbs adr (pcq F_ R_) (hrf (rfq R_) TB_ Q_ 0) (rar R_) (rip R_) Q_ (crn (rnn F_ R_) (rcu R_) (rhq R_) n_ m_).length (R_.2.2.1 184 0 (R_.1 13 0 106).toNat).toNat 1000000000) (wbs adr (pcq F_ R_) (hrf (rfq R_) TB_ Q_ 1) (rar R_) (rip R_) Q_ (crn (rnn F_ R_) (rcu R_) (rhq R_) n_ m_).length (R_.2.2.1 184 0 (R_.1 13 0 106).toNat).toNat 1000000000) ∧ fnr R'_ (2 * n_ + 1) (wbs adr (pcq F_ R_) (hrf (rfq R_) TB_ Q_ 1) (rar R_) (rip R_) Q_ (crn (rnn F_ R_) (rcu R_) (rhq R_) n_ m_).length (R_.2.2.1 184 0 (R_.1 13 0 106).toNat).toNat 1000000000) (wbs adr (pcq F_ R_) (hrf (rfq R_) TB_ Q_ 0) (rar R_) (rip R_) Q_ (crn (rnn F_ R_) (rcu R_) (rhq R_) n_ m_).length (R_.2.2.1 184 0 (R_.1 13 0 106).toNat).toNat 1000000000)) (e99_ : R'_.2.2.1 199 0 = R_.2.2.1 199 0) (e200_ : R'_.2.2.1 200 0 = R_.2.2.1 200 0) (e203_ : R'_.2.2.1 203 0 = R_.2.2.1 203 0) (e184_ : R'_.2.2.1 184 0 = R_.2.2.1 184 0) (e185_ : R'_.2.2.1 185 0 = R_.2.2.1 185 0) (e186_ : R'_.2.2.1 186 0 = R_.2.2.1 186 0) (e187_ : R'_.2.2.1 187 0 = R_.2.2.1 187 0) (f6_ : R'_.1 13 0 106 = R_.1 13 0 106) (f8 : R'_.1 13 0 108 = R_.1 13 0 108) (e210_ : ∀ j_, j_ < 2 * n_ → R'_.2.2.1 210 0 j_ = R_.2.2.1 210 0 j_) : rnw F_ T_ R'_ n_ := by
  have a1_ : rnn F_ R'_ = rnn F_ R_ := by
    funext y_
    unfold rnn
    rw [e203_]
  have a2_ : rcu R'_ = rcu R_ := by
    funext y_
    unfold rcu
    rw [e99_]
  have a3_ : rhq R'_ = rhq R_ := by
    funext y_
    unfold rhq
    rw [e200_]
  have a4_ : rtl R'_ = rtl R_ := by
    funext y_
    unfold rtl
    rw [e99_]
  have a5_ : rtu R'_ = rtu R_ := by
    funext y_
    unfold rtu
    rw [e200_]
  have a6_ : rar R'_ = rar R_ := by
    funext y_
    unfold rar
    rw [e187_, f6_]
  have a7_ : rip R'_ = rip R_ := by
    funext y_
    unfold rip
    rw [e185_, f6_]
  have a8_ : rfq R'_ = rfq R_ := by
    funext y_
    unfold rfq
    rw [e186_, f6_]
  obtain ⟨m_, Q_, TB_, h1_, h2_, h3_, h4_, h5_, h6_⟩ := h_
  unfold rnw
  rw [a1_, a2_, a3_, a4_, a5_, a6_, a7_, a8_, e184_, f6_]
  have pw_ : ∀ t_ : Nat, wbs adr (pcq F_ R'_) (hrf (rfq R_) TB_ Q_ t_) (rar R_) (rip R_) Q_ (crn (rnn F_ R_) (rcu R_) (rhq R_) n_ m_).length (R_.2.2.1 184 0 (R_.1 13 0 106).toNat).toNat 1000000000 = wbs adr (pcq F_ R_) (hrf (rfq R_) TB_ Q_ t_) (rar R_) (rip R_) Q_ (crn (rnn F_ R_) (rcu R_) (rhq R_) n_ m_).length (R_.2.2.1 184 0 (R_.1 13 0 106).toNat).toNat 1000000000 := fun t_ => wbs_cg (fun i_ hi9_ => (h4_ i_ hi9_).1.1) (fun i_ hi9_ y_ t_ hy_ t0_ t1_ => by
      have l9_ := (cut_n ht_ (h4_ i_ hi9_).1.2 hy_).1
      unfold pcq cst
      rw [e203_, f8, e210_ _ (by omega)])
  exact ⟨m_, Q_, TB_, h1_, h2_, h3_, h4_, by rw [pw_ 0, pw_ 1]; exact h5_, by rw [pw_ 0, pw_ 1]; exact h6_⟩
theorem kcp_fr {w_ : sx_Wl} {c_ d_ : Int} {S_ S'_ : sm_S} (h_ : kcp c_ d_ S_ S'_) (g_ : ai_fr (sx_W w_) S_ S'_) (q_ : dwf w_ = true := by rfl) (a1_ : (sx_W w_).2.1 184 = false := by rfl) (a2_ : (sx_W w_).2.1 185 = false := by rfl) (a3_ : (sx_W w_).2.1 186 = false := by rfl) (a4_ : (sx_W w_).2.1 187 = false := by rfl) (a5_ : (sx_W w_).2.1 188 = false := by rfl) (a6_ : (sx_W w_).2.1 216 = false := by rfl) (a7_ : (sx_W w_).2.1 217 = false := by rfl) (a8_ : (sx_W w_).1 13 106 = false := by rfl) (a9_ : (sx_W w_).1 13 129 = false := by rfl) : kcp c_ d_ S'_ S'_ := by
  obtain ⟨h1_, h2_, h3_, h4_, h5_, h6_, h7_, h8_, h9_⟩ := h_
  unfold kcp
  rw [g_.1 13 0 106 a8_, g_.1 13 0 129 a9_, fr_arr (t := 184) (i := 0) g_ a1_, fr_arr (t := 185) (i := 0) g_ a2_, fr_arr (t := 186) (i := 0) g_ a3_, fr_arr (t := 187) (i := 0) g_ a4_, fr_arr (t := 188) (i := 0) g_ a5_, fr_arr (t := 216) (i := 0) g_ a6_, fr_arr (t := 217) (i := 0) g_ a7_, fr_arr (t := 154) (i := 0) g_ (dwf_0 q_ (by decide) (by decide)), fr_arr (t := 155) (i := 0) g_ (dwf_0 q_ (by decide) (by decide)), fr_arr (t := 156) (i := 0) g_ (dwf_0 q_ (by decide) (by decide)), fr_arr (t := 157) (i := 0) g_ (dwf_0 q_ (by decide) (by decide))]
  exact ⟨h1_, h2_, h3_, h4_, h5_, h6_, rfl, rfl, h9_⟩
/-- what is_ made so_ far_ for_ the_ first k_ roots -/
def rim (F_ N_ : Int) (M_ : Nat → Int) : Prop := ∀ u_ : Nat, 3 ≤ u_ → ((u_ / 3 : Nat) : Int) < N_ → (F_ ≤ ((u_ / 3 : Nat) : Int) ∨ u_ % 3 ≠ 1) → M_ u_ = if u_ % 3 = 0 ∧ ((u_ / 3 : Nat) : Int) < F_ then ((u_ / 3 : Nat) : Int) - 1 else -1
def rqz (F_ N_ d_ : Int) (k_ : Nat) (nt_ : Nat → Int) (S_ : sm_S) : Prop := ∃ (M_ : Nat → Int) (gs_ : List (Int × List Int)), rim F_ N_ M_ ∧ rgz S_ gs_ ∧ lck S_ gs_ ∧ (mdr F_ S_, gs_) = rtq (rpn S_) (rpv F_ S_) (rgc S_) (F_ - 1) (mqL d_ S_) k_ (M_, []) ∧ ∀ j_, j_ < k_ → nt_ j_ = ntq (mqL d_ S_) (mdr F_ S_) j_ ∧ (mqL d_ S_ j_ ≤ 1 ∨ mdr F_ S_ (3 * (mqL d_ S_ j_ / 2) + 2 * (mqL d_ S_ j_ % 2)).toNat ≠ -1)
/-- nets told so_ far_ -/
def ntc (c_ o_ : Int) (S_ : sm_S) (j_ : Nat) : Int := if (j_ : Int) < o_ then S_.2.2.1 231 0 (16 * c_ + (j_ : Int)).toNat else S_.2.2.1 232 0 (6 * c_ + ((j_ : Int) - o_)).toNat
theorem rim_0 {F_ N_ : Int} {S_ : sm_S} (hF_ : 1 ≤ F_) (h2_ : ∀ j_ : Int, 2 * F_ ≤ j_ → j_ < 2 * N_ → S_.2.2.1 218 0 j_.toNat = -1) (h3_ : ∀ j_ : Int, 0 ≤ j_ → j_ < N_ → S_.2.2.1 219 0 j_.toNat = -1) : rim F_ N_ (mdr F_ S_) := by
  intro u_ h1_ hN9_ hc_
  unfold mdr
  by_cases a_ : u_ % 3 = 2
  · rw [if_pos (by omega), if_neg (by omega)]
    exact h3_ _ (by omega) (by omega)
  · rw [if_neg (by omega)]
    by_cases b_ : u_ % 3 = 0 ∧ ((u_ / 3 : Nat) : Int) < F_
    · rw [if_pos b_, if_pos ⟨by omega, by omega⟩]
      omega
    · rw [if_neg b_, if_neg (by omega)]
      exact h2_ _ (by omega) (by omega)
theorem rqz_0 {F_ N_ d_ : Int} {nt_ : Nat → Int} {S_ : sm_S} (hF_ : 1 ≤ F_) (h_ : S_.1 13 0 129 = 0) (h1_ : S_.1 13 0 134 = 0) (h2_ : ∀ j_ : Int, 2 * F_ ≤ j_ → j_ < 2 * N_ → S_.2.2.1 218 0 j_.toNat = -1) (h3_ : ∀ j_ : Int, 0 ≤ j_ → j_ < N_ → S_.2.2.1 219 0 j_.toNat = -1) : rqz F_ N_ d_ 0 nt_ S_ := by
  refine ⟨mdr F_ S_, [], rim_0 hF_ h2_ h3_, ⟨h_, fun g_ c_ ns_ q9_ => ?_⟩, ⟨fun q9_ => ?_, fun q9_ => ?_⟩, rfl, fun j_ hj_ => absurd hj_ (Nat.not_lt_zero _)⟩
  · have q9_ : (none : Option (Int × List Int)) = some (c_, ns_) := q9_
    cases q9_
  · rw [h1_] at q9_
    exact absurd q9_ (by decide)
  · obtain ⟨e9_, m9_, -⟩ := q9_
    exact absurd m9_ List.not_mem_nil
theorem rqz_nt {F_ N_ d_ : Int} {k_ : Nat} {nt_ nt'_ : Nat → Int} {S_ : sm_S} (h_ : rqz F_ N_ d_ k_ nt_ S_) (e_ : ∀ j_, j_ < k_ → nt'_ j_ = nt_ j_) : rqz F_ N_ d_ k_ nt'_ S_ := by
  obtain ⟨M_, gs_, h1_, h2_, h3_, h4_, h5_⟩ := h_
  exact ⟨M_, gs_, h1_, h2_, h3_, h4_, fun j_ hj_ => ⟨(e_ j_ hj_).trans (h5_ j_ hj_).1, (h5_ j_ hj_).2⟩⟩
theorem rqz_fr {w_ : sx_Wl} {F_ N_ d_ : Int} {k_ : Nat} {nt_ : Nat → Int} {S_ S'_ : sm_S} (h_ : rqz F_ N_ d_ k_ nt_ S_) (g_ : ai_fr (sx_W w_) S_ S'_) (q_ : dwf w_ = true := by rfl) (a1_ : (sx_W w_).2.1 185 = false := by rfl) (a2_ : (sx_W w_).2.1 203 = false := by rfl) (a3_ : (sx_W w_).2.1 207 = false := by rfl) (a4_ : (sx_W w_).2.1 208 = false := by rfl) (a5_ : (sx_W w_).2.1 209 = false := by rfl) (a6_ : (sx_W w_).2.1 211 = false := by rfl) (a7_ : (sx_W w_).1 13 106 = false := by rfl) (a8_ : (sx_W w_).1 13 107 = false := by rfl) (b1_ : (sx_W w_).1 13 129 = false := by rfl) (b2_ : (sx_W w_).1 13 134 = false := by rfl) (b3_ : (sx_W w_).2.1 216 = false := by rfl) (b4_ : (sx_W w_).2.1 217 = false := by rfl) (b5_ : (sx_W w_).2.1 218 = false := by rfl) (b6_ : (sx_W w_).2.1 219 = false := by rfl) : rqz F_ N_ d_ k_ nt_ S'_ := by
  obtain ⟨M_, gs_, h1_, h2_, h3_, h4_, h5_⟩ := h_
  have p9_ := rp_fr (F_ := F_) g_ a1_ a2_ a3_ a4_ a5_ a6_ a7_ a8_
  have m9_ := (mq_fr (d_ := d_) g_ q_).2.2.2.2.2
  have d9_ : mdr F_ S'_ = mdr F_ S_ := mdr_cg (fr_arr g_ b5_) (fr_arr g_ b6_)
  refine ⟨M_, gs_, h1_, rgz_fr h2_ g_ b1_ b3_ b4_, ?_, ?_, ?_⟩
  · unfold lck
    rw [g_.1 13 0 134 b2_]
    exact h3_
  · rw [p9_.1, p9_.2.1, p9_.2.2, m9_, d9_]
    exact h4_
  · rw [m9_, d9_]
    exact h5_
/-- the_ task of_ a_ root can_ be_ made -/
theorem rgk_r {F_ N_ q_ : Int} {S_ : sm_S} (hF_ : 1 ≤ F_) (h1_ : 1 < q_) (h2_ : q_ / 2 < N_) (hp_ : mrk F_ S_ (q_ / 2)) (hgd_ : gdr F_ N_ S_) : rgk F_ N_ S_ (3 * (q_ / 2) + 2 * (q_ % 2)).toNat := by
  have c9_ : q_ % 2 = 0 ∨ q_ % 2 = 1 := by omega
  rcases c9_ with c9_ | c9_
  · by_cases f9_ : q_ / 2 < F_
    · exact Or.inr ⟨⟨by omega, by omega, by omega⟩, by omega⟩
    · have r9_ := hp_.2.resolve_left f9_
      refine Or.inl ⟨0, 2 * (q_ / 2), Or.inr ⟨rfl, by omega, by omega, by rw [show 2 * (q_ / 2) / 2 = q_ / 2 by omega]; exact hp_.1, hgd_ (q_ / 2) (by omega) h2_ hp_.1 r9_⟩, ?_⟩
      rw [jtk_0]
      omega
  · refine Or.inl ⟨1, q_ / 2, Or.inl ⟨rfl, by omega, h2_, hp_.1, ?_⟩, ?_⟩
    · by_cases f9_ : q_ / 2 < F_
      · exact Or.inl f9_
      · have r9_ := hp_.2.resolve_left f9_
        exact Or.inr ⟨r9_, hgd_ (q_ / 2) (by omega) h2_ hp_.1 r9_⟩
    · rw [jtk_1]
      omega
/-- one_ root more -/
theorem rqz_s {w_ : sx_Wl} {F_ N_ d_ v_ : Int} {k_ : Nat} {nt_ nt'_ : Nat → Int} {S_ S'_ : sm_S} (h_ : ∃ (M_ : Nat → Int) (gs_ : List (Int × List Int)), rim F_ N_ M_ ∧ (mdr F_ S_, gs_) = rtq (rpn S_) (rpv F_ S_) (rgc S_) (F_ - 1) (mqL d_ S_) k_ (M_, []) ∧ (∀ j_, j_ < k_ → nt_ j_ = ntq (mqL d_ S_) (mdr F_ S_) j_ ∧ (mqL d_ S_ j_ ≤ 1 ∨ mdr F_ S_ (3 * (mqL d_ S_ j_ / 2) + 2 * (mqL d_ S_ j_ % 2)).toNat ≠ -1)) ∧ ∃ g1_ : List (Int × List Int), rgz S'_ g1_ ∧ lck S'_ g1_ ∧ (mdr F_ S'_, g1_) = (if mqL d_ S_ k_ ≤ 1 then (mdr F_ S_, gs_) else gmk (rpn S_) (rpv F_ S_) (rgc S_) (F_ - 1) 4000 (3 * (mqL d_ S_ k_ / 2) + 2 * (mqL d_ S_ k_ % 2)).toNat (mdr F_ S_, gs_)) ∧ v_ = (if mqL d_ S_ k_ ≤ 1 then -1 - mqL d_ S_ k_ else mdr F_ S'_ (3 * (mqL d_ S_ k_ / 2) + 2 * (mqL d_ S_ k_ % 2)).toNat)) (hI_ : gi S_) (hal_ : wal9 F_ N_ S_) (hgd_ : gdr F_ N_ S_) (hF_ : 1 ≤ F_) (hN_ : N_ ≤ 1013) (hL_ : 1 < mqL d_ S_ k_ → mqL d_ S_ k_ / 2 < N_ ∧ mrk F_ S_ (mqL d_ S_ k_ / 2)) (g_ : ai_fr (sx_W w_) S_ S'_) (e0_ : ∀ j_, j_ < k_ → nt'_ j_ = nt_ j_) (e1_ : nt'_ k_ = v_) (q_ : dwf w_ = true := by rfl) (a1_ : (sx_W w_).2.1 185 = false := by rfl) (a2_ : (sx_W w_).2.1 203 = false := by rfl) (a3_ : (sx_W w_).2.1 207 = false := by rfl) (a4_ : (sx_W w_).2.1 208 = false := by rfl) (a5_ : (sx_W w_).2.1 209 = false := by rfl) (a6_ : (sx_W w_).2.1 211 = false := by rfl) (a7_ : (sx_W w_).1 13 106 = false := by rfl) (a8_ : (sx_W w_).1 13 107 = false := by rfl) : rqz F_ N_ d_ (k_ + 1) nt'_ S'_ := by
  obtain ⟨M_, gs_, h1_, h4_, h5_, g1_, h6_, h7_, h8_, h9_⟩ := h_
  have p9_ := rp_fr (F_ := F_) g_ a1_ a2_ a3_ a4_ a5_ a6_ a7_ a8_
  have m9_ := (mq_fr (d_ := d_) g_ q_).2.2.2.2.2
  have st_ : rtq (rpn S_) (rpv F_ S_) (rgc S_) (F_ - 1) (mqL d_ S_) (k_ + 1) (M_, []) = if mqL d_ S_ k_ ≤ 1 then rtq (rpn S_) (rpv F_ S_) (rgc S_) (F_ - 1) (mqL d_ S_) k_ (M_, []) else gmk (rpn S_) (rpv F_ S_) (rgc S_) (F_ - 1) 4000 (3 * (mqL d_ S_ k_ / 2) + 2 * (mqL d_ S_ k_ % 2)).toNat (rtq (rpn S_) (rpv F_ S_) (rgc S_) (F_ - 1) (mqL d_ S_) k_ (M_, [])) := rfl
  have kp_ : ∀ u_ : Nat, mdr F_ S_ u_ ≠ -1 → mdr F_ S'_ u_ = mdr F_ S_ u_ := by
    intro u_ hu_
    by_cases c_ : mqL d_ S_ k_ ≤ 1
    · rw [if_pos c_] at h8_
      rw [show mdr F_ S'_ = mdr F_ S_ from congrArg Prod.fst h8_]
    · rw [if_neg c_] at h8_
      have gd_ := gdg_r hI_ hal_ hgd_ hF_
      have l9_ := hL_ (by omega)
      have r9_ := gmk_r (gc_ := rgc S_) (show 0 ≤ F_ - 1 by omega) gd_ 4000 _ (mdr F_ S_, gs_) (rgk_r hF_ (by omega) l9_.1 l9_.2 hgd_) (fun x_ hx_ => mdr_i hx_) (rrk_b (by omega))
      rw [← h8_] at r9_
      exact r9_.1.1 u_ hu_
  have nw : mqL d_ S_ k_ ≤ 1 ∨ mdr F_ S'_ (3 * (mqL d_ S_ k_ / 2) + 2 * (mqL d_ S_ k_ % 2)).toNat ≠ -1 := by
    by_cases c_ : mqL d_ S_ k_ ≤ 1
    · exact Or.inl c_
    · rw [if_neg c_] at h8_
      have gd_ := gdg_r hI_ hal_ hgd_ hF_
      have l9_ := hL_ (by omega)
      have r9_ := gmk_r (gc_ := rgc S_) (show 0 ≤ F_ - 1 by omega) gd_ 4000 _ (mdr F_ S_, gs_) (rgk_r hF_ (by omega) l9_.1 l9_.2 hgd_) (fun x_ hx_ => mdr_i hx_) (rrk_b (by omega))
      rw [← h8_] at r9_
      exact Or.inr r9_.2.1
  refine ⟨M_, g1_, h1_, h6_, h7_, ?_, fun j_ hj_ => ?_⟩
  · rw [p9_.1, p9_.2.1, p9_.2.2, m9_, st_, ← h4_]
    exact h8_
  · rw [m9_]
    by_cases c_ : j_ = k_
    · rw [c_]
      refine ⟨?_, nw⟩
      rw [e1_, h9_]
      rfl
    · have z9_ := h5_ j_ (by omega)
      have y9_ : mqL d_ S_ j_ ≤ 1 ∨ mdr F_ S'_ (3 * (mqL d_ S_ j_ / 2) + 2 * (mqL d_ S_ j_ % 2)).toNat = mdr F_ S_ (3 * (mqL d_ S_ j_ / 2) + 2 * (mqL d_ S_ j_ % 2)).toNat := z9_.2.imp id (fun u9_ => kp_ _ u9_)
      refine ⟨(e0_ j_ (by omega)).trans (z9_.1.trans (ntq_cg y9_).symm), ?_⟩
      rcases z9_.2 with u9_ | u9_
      · exact Or.inl u9_
      · exact Or.inr (by rw [kp_ _ u9_]; exact u9_)
theorem mqL_o {d_ : Int} {S_ : sm_S} {i_ l_ : Int} (hd_ : 0 ≤ d_) (h0_ : 0 ≤ i_) (h1_ : i_ < S_.2.2.1 156 0 d_.toNat) (hl_ : l_ = S_.2.2.1 167 0 (16 * d_ + i_).toNat) (l0_ : 0 ≤ l_) : mqL d_ S_ i_.toNat = i_xor (S_.2.2.1 166 0 (2048 * d_ + l_ / 2).toNat) (l_ % 2) := by
  have e_ : mqr d_ S_ i_.toNat = l_ := by
    unfold mqr rto
    rw [if_pos (by omega), hl_, show (16 * d_ + i_).toNat = 16 * d_.toNat + i_.toNat by omega]
  unfold mqL mqs
  rw [e_, show (2048 * d_ + l_ / 2).toNat = 2048 * d_.toNat + (l_ / 2).toNat by omega]
theorem mqL_n {d_ : Int} {S_ : sm_S} {i_ l_ : Int} (hd_ : 0 ≤ d_) (h0_ : 0 ≤ i_) (hl_ : l_ = S_.2.2.1 168 0 (6 * d_ + i_).toNat) (l0_ : 0 ≤ l_) : mqL d_ S_ ((S_.2.2.1 156 0 d_.toNat).toNat + i_.toNat) = i_xor (S_.2.2.1 166 0 (2048 * d_ + l_ / 2).toNat) (l_ % 2) := by
  have e_ : mqr d_ S_ ((S_.2.2.1 156 0 d_.toNat).toNat + i_.toNat) = l_ := by
    unfold mqr rto
    rw [if_neg (by omega), hl_, show (6 * d_ + i_).toNat = 6 * d_.toNat + ((S_.2.2.1 156 0 d_.toNat).toNat + i_.toNat - (S_.2.2.1 156 0 d_.toNat).toNat) by omega]
  unfold mqL mqs
  rw [e_, show (2048 * d_ + l_ / 2).toNat = 2048 * d_.toNat + (l_ / 2).toNat by omega]
/-- a_ swept literal -/
theorem xb_1 {x_ t_ : Int} (h0_ : 0 ≤ x_) (h1_ : x_ ≤ 2047) (ht_ : t_ = 0 ∨ t_ = 1) : i_xor x_ t_ / 2 = x_ / 2 := by
  rcases ht_ with e_ | e_
  · have z9_ : i_xor x_ 0 = ((x_.toNat ^^^ (0 : Int).toNat : Nat) : Int) := bt_xor_nat h0_ (by omega) (by decide) (by decide)
    rw [e_, z9_, show (0 : Int).toNat = 0 from rfl, Nat.xor_zero]
    omega
  · have z9_ := i_x1 (x_ := x_) ⟨h0_, h1_⟩
    rw [e_, z9_]
    omega
theorem mqL_b {F_ N_ d_ l_ : Int} {S_ : sm_S} (hd_ : dmp F_ N_ d_ S_) (h0_ : 0 ≤ l_) (h1_ : l_ < 2 * N_) : i_xor (S_.2.2.1 166 0 (2048 * d_ + l_ / 2).toNat) (l_ % 2) / 2 = nod d_ S_ l_ ∧ nod d_ S_ l_ < N_ := by
  obtain ⟨a9_, F1_, I1_, R1_, N1_, k1_, k2_, k3_, -⟩ := hd_
  have s9_ := k3_.2 (l_ / 2).toNat (by omega)
  have b9_ := s9_.1
  have e9_ : (2048 * d_ + l_ / 2).toNat = 2048 * d_.toNat + (l_ / 2).toNat := by omega
  unfold nod
  rw [e9_]
  have b9_ : 0 ≤ S_.2.2.1 166 0 (2048 * d_.toNat + (l_ / 2).toNat) ∧ S_.2.2.1 166 0 (2048 * d_.toNat + (l_ / 2).toNat) < 2 * ((l_ / 2).toNat : Int) + 2 := by
    constructor
    · exact b9_.1
    · have z9_ : S_.2.2.1 166 0 (2048 * d_.toNat + (l_ / 2).toNat) ≤ 2 * (((l_ / 2).toNat : Nat) : Int) + 1 := b9_.2
      omega
  exact ⟨xb_1 b9_.1 (by omega) (by omega), by omega⟩
/-! what map_ leaves -/
def ora_map (a1_ a2_ : Int) (S_ : sm_S) : Prop := (0 ≤ a1_ ∧ a1_ < 6 ∧ S_.2.2.1 153 0 a1_.toNat = 1) ∧ (0 ≤ a2_ ∧ a2_ < 3 ∧ S_.2.2.1 183 0 a2_.toNat = 1)
def frr (c_ : Int) (S_ : sm_S) : Prop := 0 ≤ c_ ∧ c_ ≤ 3 ∧ S_.2.2.1 222 0 c_.toNat = 0 ∧ ∀ j_ : Nat, (j_ : Int) < c_ → S_.2.2.1 222 0 j_ = 1
def mpr (F_ N_ a1_ a2_ c_ : Int) (S0_ S1_ : sm_S) (v_ : Int) : Prop := (dmp F_ N_ a1_ S1_ ∧ rcm F_ N_ a1_ S1_ ∧ rall F_ N_ S1_ ∧ wal9 F_ N_ S1_ ∧ rtd F_ a1_ (S1_.2.2.1 156 0 a1_.toNat) (S1_.2.2.1 155 0 a1_.toNat) S1_) ∧ (S1_.1 13 0 106 = a2_ ∧ S1_.1 13 0 107 = rfv S1_.2.2.1 a2_ (S1_.2.2.1 184 0 a2_.toNat).toNat ∧ S1_.1 13 0 108 = if S1_.1 13 0 107 = -1 then 1000000000 else S1_.2.2.1 187 0 (12 * a2_ + S1_.1 13 0 107).toNat) ∧ (rcf c_.toNat S0_ S1_ ∧ (v_ ≠ c_ → S1_.2.2.1 222 0 c_.toNat = 0)) ∧ ((v_ = -1 ∧ ∃ x_ : Nat, rtn F_ N_ S1_ x_ ∧ S1_.2.2.1 203 0 x_ = 1 ∧ 1000000000 ≤ S1_.2.2.1 210 0 (2 * x_)) ∨ (gdr F_ N_ S1_ ∧ rqz F_ N_ a1_ (mqk a1_ S1_) (ntc c_ (S1_.2.2.1 156 0 a1_.toNat) S1_) S1_ ∧ ((v_ = -1 ∧ S1_.1 13 0 134 = 1) ∨ (v_ = -2 ∧ S1_.1 13 0 134 = 0 ∧ 150 < S1_.1 13 0 129) ∨ (v_ = c_ ∧ S1_.1 13 0 134 = 0 ∧ S1_.1 13 0 129 ≤ 150 ∧ kcp c_ a1_ S1_ S1_))))

/-! M_.map -/
def vw_419n : sx_Wl := ([(13, 0), (13, 105), (13, 106), (13, 107), (13, 108), (13, 114), (13, 123), (13, 127), (13, 129), (13, 134), (13, 137)], [199, 200, 201, 202, 203, 204, 205, 206, 207, 208, 209, 210, 211, 212, 213, 214, 215, 216, 217, 218, 219, 220, 221, 222, 223, 224, 225, 226, 227, 228, 229, 230, 231, 232, 233, 234, 235, 236, 237, 240, 251, 263, 272, 289, 294], [])
def vq_419n (a1_ : Int) (a2_ : Int) (F_ : Int) (N_ : Int) (S0_ : sm_S) (u_ : Option sm_V) (S1_ : sm_S) : Prop := ∃ v_ : Int, u_ = some (.inl v_) ∧ gi S1_ ∧ ai_fr (sx_W vw_419n) S0_ S1_ ∧ ((-2147483648 ≤ v_ ∧ v_ ≤ 2147483647) ∧ jR S1_ ∧ ((0 ≤ S1_.1 13 0 127 ∧ S1_.1 13 0 127 ≤ S0_.1 13 0 127 + 65000) ∧ ∀ x_ : Nat, -(S1_.1 13 0 127) ≤ S1_.2.2.1 213 0 x_ ∧ S1_.2.2.1 213 0 x_ ≤ S1_.1 13 0 127) ∧ ((S1_.1 13 0 0 = 1 ∧ S1_.2.2.1 = S0_.2.2.1 ∧ ¬ ora_map a1_ a2_ S0_) ∨ (S1_.1 13 0 0 = 2 ∧ S1_.2.2.1 = S0_.2.2.1 ∧ ora_map a1_ a2_ S0_ ∧ ¬ ∃ c_ : Int, frr c_ S0_) ∨ (S1_.1 13 0 0 = 0 ∧ ∃ c_ : Int, (ora_map a1_ a2_ S0_ ∧ frr c_ S0_) ∧ mpr F_ N_ a1_ a2_ c_ S0_ S1_ v_)))
set_option maxHeartbeats 4000000 in
set_option maxRecDepth 20000 in
theorem vl_419n {sc_ : Nat × (Nat → Int)} (a1_ : Int) (a2_ : Int) (F_ : Int) (N_ : Int) (S0_ : sm_S) (ha1_ : (-2147483648) ≤ a1_ ∧ a1_ ≤ 2147483647) (ha2_ : (-2147483648) ≤ a2_ ∧ a2_ ≤ 2147483647) (hJ_ : jR S0_) (hF0_ : F_ = S0_.2.2.1 160 0 a1_.toNat) (hN0_ : N_ = S0_.2.2.1 159 0 a1_.toNat) (hsw : imq (0 ≤ a1_ ∧ a1_ < 6 ∧ S0_.2.2.1 153 0 a1_.toNat = 1) (swd F_.toNat N_.toNat (mql a1_ S0_) (mqh a1_ S0_) (mqs a1_ S0_))) (hrd0_ : 0 ≤ S0_.1 13 0 127 ∧ S0_.1 13 0 127 ≤ 1999900000) (hmb0_ : ∀ x_ : Nat, -(S0_.1 13 0 127) ≤ S0_.2.2.1 213 0 x_ ∧ S0_.2.2.1 213 0 x_ ≤ S0_.1 13 0 127) : ∀ nn_ : Nat, (∀ (c_ : Int) (gd_ : Int) (i_ : Int) (S_ : sm_S), gi S_ → ai_fr (sx_W vw_419n) S0_ S_ → ((0 ≤ a1_ ∧ a1_ ≤ 5 ∧ 0 ≤ a2_ ∧ a2_ ≤ 2 ∧ 0 ≤ c_ ∧ c_ ≤ 3 ∧ (gd_ = 0 ∨ gd_ = 1) ∧ F_ ≤ i_ ∧ i_ ≤ N_) ∧ (dmp F_ N_ a1_ S_) ∧ (S_.1 13 0 106 = a2_) ∧ (rtd F_ a1_ (S_.2.2.1 156 0 a1_.toNat) (S_.2.2.1 155 0 a1_.toNat) S_) ∧ (S_.1 13 0 107 = -1 ∨ S_.2.2.1 185 0 (12 * S_.1 13 0 106 + S_.1 13 0 107).toNat = 1) ∧ (rcf c_.toNat S0_ S_) ∧ (S_.2.2.1 222 0 c_.toNat = 0) ∧ (rcm F_ N_ a1_ S_) ∧ (S_.1 13 0 0 = 0) ∧ (S_.1 13 0 107 = rfv S_.2.2.1 a2_ (S_.2.2.1 184 0 a2_.toNat).toNat ∧ S_.1 13 0 108 = if S_.1 13 0 107 = -1 then 1000000000 else S_.2.2.1 187 0 (12 * a2_ + S_.1 13 0 107).toNat) ∧ (ora_map a1_ a2_ S0_ ∧ frr c_ S0_) ∧ (lgn F_ N_ S_) ∧ (∀ n9_ : Int, F_ ≤ n9_ → n9_ < i_ → S_.2.2.1 202 0 n9_.toNat = 1 → wok2 F_ n9_ S_) ∧ (gd_ = 1 → ∀ n9_ : Int, F_ ≤ n9_ → n9_ < i_ → S_.2.2.1 202 0 n9_.toNat = 1 → S_.2.2.1 203 0 n9_.toNat = 1 → S_.2.2.1 210 0 (2 * n9_).toNat < 1000000000) ∧ (∀ j9_ : Int, 2 * F_ ≤ j9_ → j9_ < 2 * i_ → S_.2.2.1 218 0 j9_.toNat = -1) ∧ (∀ x_ : Nat, rtn F_ N_ S_ x_ → (x_ : Int) < i_ → rnw F_ (rtn F_ N_ S_) S_ x_) ∧ (imq (gd_ = 0) (∃ x_ : Nat, rtn F_ N_ S_ x_ ∧ (x_ : Int) < i_ ∧ S_.2.2.1 203 0 x_ = 1 ∧ 1000000000 ≤ S_.2.2.1 210 0 (2 * x_))) ∧ ((0 ≤ S_.1 13 0 127 ∧ S_.1 13 0 127 ≤ S0_.1 13 0 127 + 64 * (i_ - F_)) ∧ ∀ x_ : Nat, -(S_.1 13 0 127) ≤ S_.2.2.1 213 0 x_ ∧ S_.2.2.1 213 0 x_ ≤ S_.1 13 0 127) ∧ True) → ((90000 - i_).toNat) < nn_ → sm_T (mt_P sc_) 5 419 (118, [some (.inr (.inr (some (13, 0)))), some (.inl a1_), some (.inl a2_), some (.inl c_), some (.inl gd_), some (.inl i_)], [], S_) (fun ro9_ => ∃ u_ S1_, ro9_ = (.inl u_, S1_, 0) ∧ vq_419n a1_ a2_ F_ N_ S0_ u_ S1_)) ∧ (∀ (c_ : Int) (gd_ : Int) (i_ : Int) (S_ : sm_S), gi S_ → ai_fr (sx_W vw_419n) S0_ S_ → ((0 ≤ a1_ ∧ a1_ ≤ 5 ∧ 0 ≤ a2_ ∧ a2_ ≤ 2 ∧ 0 ≤ c_ ∧ c_ ≤ 3 ∧ (gd_ = 0 ∨ gd_ = 1) ∧ 0 ≤ i_ ∧ i_ ≤ N_) ∧ (dmp F_ N_ a1_ S_) ∧ (S_.1 13 0 106 = a2_) ∧ (rtd F_ a1_ (S_.2.2.1 156 0 a1_.toNat) (S_.2.2.1 155 0 a1_.toNat) S_) ∧ (S_.1 13 0 107 = -1 ∨ S_.2.2.1 185 0 (12 * S_.1 13 0 106 + S_.1 13 0 107).toNat = 1) ∧ (rcf c_.toNat S0_ S_) ∧ (S_.2.2.1 222 0 c_.toNat = 0) ∧ (rcm F_ N_ a1_ S_) ∧ (S_.1 13 0 0 = 0) ∧ (S_.1 13 0 107 = rfv S_.2.2.1 a2_ (S_.2.2.1 184 0 a2_.toNat).toNat ∧ S_.1 13 0 108 = if S_.1 13 0 107 = -1 then 1000000000 else S_.2.2.1 187 0 (12 * a2_ + S_.1 13 0 107).toNat) ∧ (ora_map a1_ a2_ S0_ ∧ frr c_ S0_) ∧ (wal9 F_ N_ S_) ∧ (gd_ = 1 → gdr F_ N_ S_) ∧ (rall F_ N_ S_) ∧ (imq (gd_ = 0) (∃ x_ : Nat, rtn F_ N_ S_ x_ ∧ S_.2.2.1 203 0 x_ = 1 ∧ 1000000000 ≤ S_.2.2.1 210 0 (2 * x_))) ∧ ((0 ≤ S_.1 13 0 127 ∧ S_.1 13 0 127 ≤ S0_.1 13 0 127 + 65000) ∧ ∀ x_ : Nat, -(S_.1 13 0 127) ≤ S_.2.2.1 213 0 x_ ∧ S_.2.2.1 213 0 x_ ≤ S_.1 13 0 127) ∧ (∀ j9_ : Int, 2 * F_ ≤ j9_ → j9_ < 2 * N_ → S_.2.2.1 218 0 j9_.toNat = -1) ∧ (∀ j9_ : Int, 0 ≤ j9_ → j9_ < i_ → S_.2.2.1 219 0 j9_.toNat = -1) ∧ True) → ((70000 - i_).toNat) < nn_ → sm_T (mt_P sc_) 5 419 (213, [some (.inr (.inr (some (13, 0)))), some (.inl a1_), some (.inl a2_), some (.inl c_), some (.inl gd_), some (.inl i_)], [], S_) (fun ro9_ => ∃ u_ S1_, ro9_ = (.inl u_, S1_, 0) ∧ vq_419n a1_ a2_ F_ N_ S0_ u_ S1_)) ∧ (∀ (c_ : Int) (gd_ : Int) (i_ : Int) (S_ : sm_S), gi S_ → ai_fr (sx_W vw_419n) S0_ S_ → ((0 ≤ a1_ ∧ a1_ ≤ 5 ∧ 0 ≤ a2_ ∧ a2_ ≤ 2 ∧ 0 ≤ c_ ∧ c_ ≤ 3 ∧ (gd_ = 0 ∨ gd_ = 1) ∧ 0 ≤ i_ ∧ i_ ≤ S_.2.2.1 156 0 a1_.toNat) ∧ (dmp F_ N_ a1_ S_) ∧ (S_.1 13 0 106 = a2_) ∧ (rtd F_ a1_ (S_.2.2.1 156 0 a1_.toNat) (S_.2.2.1 155 0 a1_.toNat) S_) ∧ (S_.1 13 0 107 = -1 ∨ S_.2.2.1 185 0 (12 * S_.1 13 0 106 + S_.1 13 0 107).toNat = 1) ∧ (rcf c_.toNat S0_ S_) ∧ (S_.2.2.1 222 0 c_.toNat = 0) ∧ (rcm F_ N_ a1_ S_) ∧ (S_.1 13 0 0 = 0) ∧ (S_.1 13 0 107 = rfv S_.2.2.1 a2_ (S_.2.2.1 184 0 a2_.toNat).toNat ∧ S_.1 13 0 108 = if S_.1 13 0 107 = -1 then 1000000000 else S_.2.2.1 187 0 (12 * a2_ + S_.1 13 0 107).toNat) ∧ (ora_map a1_ a2_ S0_ ∧ frr c_ S0_) ∧ (wal9 F_ N_ S_) ∧ (gd_ = 1 → gdr F_ N_ S_) ∧ (rall F_ N_ S_) ∧ (imq (gd_ = 0) (∃ x_ : Nat, rtn F_ N_ S_ x_ ∧ S_.2.2.1 203 0 x_ = 1 ∧ 1000000000 ≤ S_.2.2.1 210 0 (2 * x_))) ∧ ((0 ≤ S_.1 13 0 127 ∧ S_.1 13 0 127 ≤ S0_.1 13 0 127 + 65000) ∧ ∀ x_ : Nat, -(S_.1 13 0 127) ≤ S_.2.2.1 213 0 x_ ∧ S_.2.2.1 213 0 x_ ≤ S_.1 13 0 127) ∧ (gst F_ N_ S_) ∧ (gd_ = 1 → ∀ k9_ : Int, 0 ≤ k9_ → k9_ < i_ → S_.2.2.1 231 0 (16 * c_ + k9_).toNat < F_ - 1 + S_.1 13 0 129) ∧ (imq (gd_ = 1) (rqz F_ N_ a1_ (i_.toNat) (ntc c_ (S_.2.2.1 156 0 a1_.toNat) S_) S_)) ∧ True) → ((50000 - i_).toNat) < nn_ → sm_T (mt_P sc_) 5 419 (251, [some (.inr (.inr (some (13, 0)))), some (.inl a1_), some (.inl a2_), some (.inl c_), some (.inl gd_), some (.inl i_)], [], S_) (fun ro9_ => ∃ u_ S1_, ro9_ = (.inl u_, S1_, 0) ∧ vq_419n a1_ a2_ F_ N_ S0_ u_ S1_)) ∧ (∀ (c_ : Int) (gd_ : Int) (i_ : Int) (S_ : sm_S), gi S_ → ai_fr (sx_W vw_419n) S0_ S_ → ((0 ≤ a1_ ∧ a1_ ≤ 5 ∧ 0 ≤ a2_ ∧ a2_ ≤ 2 ∧ 0 ≤ c_ ∧ c_ ≤ 3 ∧ (gd_ = 0 ∨ gd_ = 1) ∧ 0 ≤ i_ ∧ i_ ≤ S_.2.2.1 155 0 a1_.toNat) ∧ (dmp F_ N_ a1_ S_) ∧ (S_.1 13 0 106 = a2_) ∧ (rtd F_ a1_ (S_.2.2.1 156 0 a1_.toNat) (S_.2.2.1 155 0 a1_.toNat) S_) ∧ (S_.1 13 0 107 = -1 ∨ S_.2.2.1 185 0 (12 * S_.1 13 0 106 + S_.1 13 0 107).toNat = 1) ∧ (rcf c_.toNat S0_ S_) ∧ (S_.2.2.1 222 0 c_.toNat = 0) ∧ (rcm F_ N_ a1_ S_) ∧ (S_.1 13 0 0 = 0) ∧ (S_.1 13 0 107 = rfv S_.2.2.1 a2_ (S_.2.2.1 184 0 a2_.toNat).toNat ∧ S_.1 13 0 108 = if S_.1 13 0 107 = -1 then 1000000000 else S_.2.2.1 187 0 (12 * a2_ + S_.1 13 0 107).toNat) ∧ (ora_map a1_ a2_ S0_ ∧ frr c_ S0_) ∧ (wal9 F_ N_ S_) ∧ (gd_ = 1 → gdr F_ N_ S_) ∧ (rall F_ N_ S_) ∧ (imq (gd_ = 0) (∃ x_ : Nat, rtn F_ N_ S_ x_ ∧ S_.2.2.1 203 0 x_ = 1 ∧ 1000000000 ≤ S_.2.2.1 210 0 (2 * x_))) ∧ ((0 ≤ S_.1 13 0 127 ∧ S_.1 13 0 127 ≤ S0_.1 13 0 127 + 65000) ∧ ∀ x_ : Nat, -(S_.1 13 0 127) ≤ S_.2.2.1 213 0 x_ ∧ S_.2.2.1 213 0 x_ ≤ S_.1 13 0 127) ∧ (gst F_ N_ S_) ∧ (gd_ = 1 → ∀ k9_ : Int, 0 ≤ k9_ → k9_ < S_.2.2.1 156 0 a1_.toNat → S_.2.2.1 231 0 (16 * c_ + k9_).toNat < F_ - 1 + S_.1 13 0 129) ∧ (gd_ = 1 → ∀ k9_ : Int, 0 ≤ k9_ → k9_ < i_ → S_.2.2.1 232 0 (6 * c_ + k9_).toNat < F_ - 1 + S_.1 13 0 129) ∧ (imq (gd_ = 1) (rqz F_ N_ a1_ ((S_.2.2.1 156 0 a1_.toNat).toNat + i_.toNat) (ntc c_ (S_.2.2.1 156 0 a1_.toNat) S_) S_)) ∧ True) → ((30000 - i_).toNat) < nn_ → sm_T (mt_P sc_) 5 419 (304, [some (.inr (.inr (some (13, 0)))), some (.inl a1_), some (.inl a2_), some (.inl c_), some (.inl gd_), some (.inl i_)], [], S_) (fun ro9_ => ∃ u_ S1_, ro9_ = (.inl u_, S1_, 0) ∧ vq_419n a1_ a2_ F_ N_ S0_ u_ S1_)) := by
  intro nn_
  induction nn_ with
  | zero => exact ⟨fun _ _ _ _ _ _ _ h_ => absurd h_ (Nat.not_lt_zero _), fun _ _ _ _ _ _ _ h_ => absurd h_ (Nat.not_lt_zero _), fun _ _ _ _ _ _ _ h_ => absurd h_ (Nat.not_lt_zero _), fun _ _ _ _ _ _ _ h_ => absurd h_ (Nat.not_lt_zero _)⟩
  | succ nn_ ih_ =>
    refine ⟨?_, ?_, ?_, ?_⟩
    · rintro c_ gd_ i_ S_ hI_ hF_ ⟨h0_, hd_, hlb_, hr_, hiv_, hk_, ht_, hrc_, hcd_, hiw_, hok_, hl_, hw_, hgr_, hn2_, hrn_, hbd_, hrd_, -⟩ hm_
      have d1_ := hd_.1
      have rd1_ := hrd_.1
      have f160_ : S_.2.2.1 160 0 (S_.1 13 0 105).toNat = F_ := by (rw [d1_.2.2.1]; exact d1_.2.2.2.1)
      have c156_ : 0 ≤ S_.2.2.1 156 0 a1_.toNat ∧ S_.2.2.1 156 0 a1_.toNat ≤ 16 := hI_.2 156 0 _
      have c155_ : 0 ≤ S_.2.2.1 155 0 a1_.toNat ∧ S_.2.2.1 155 0 a1_.toNat ≤ 6 := hI_.2 155 0 _
      have c134_ : 0 ≤ S_.1 13 0 134 ∧ S_.1 13 0 134 ≤ 1 := hI_.1 13 0 134 rfl
      have c106_ : 0 ≤ S_.1 13 0 106 ∧ S_.1 13 0 106 ≤ 2 := hI_.1 13 0 106 rfl
      refine sm_T_go 4 (c1 := (125, [some (.inr (.inr (some (13, 0)))), some (.inl a1_), some (.inl a2_), some (.inl c_), some (.inl gd_), some (.inl i_)], [.inl a1_, .inr (.inr (some (159, 0))), .inl i_], S_)) rfl ?_
      refine sm_T_iald (n := 6) rfl rfl (by omega) (by omega) ?_
      have bx1_ : 0 ≤ S_.2.2.1 159 0 a1_.toNat ∧ S_.2.2.1 159 0 a1_.toNat ≤ 1013 := hI_.2 159 0 _
      refine sm_T_br (a := 3) (z := 84) rfl (fun cx2_ => ?_) (fun cx2_ => ?_)
      · have cx2_ : (S_.2.2.1 159 0 a1_.toNat) ≤ i_ := of_decide_eq_true cx2_
        refine sm_T_go 2 (c1 := (213, [some (.inr (.inr (some (13, 0)))), some (.inl a1_), some (.inl a2_), some (.inl c_), some (.inl gd_), some (.inl 0)], [], S_)) rfl ?_
        refine ih_.2.1 c_ gd_ 0 S_ hI_ hF_ ⟨?_, ?_, ?_, ?_, ?_, ?_, ?_, ?_, ?_, ?_, ?_, ?_, ?_, ?_, ?_, ?_, ?_, ?_, trivial⟩ ?_
        · omega
        · exact hd_
        · exact hlb_
        · exact hr_
        · exact hiv_
        · exact hk_
        · exact ht_
        · exact hrc_
        · exact hcd_
        · exact hiw_
        · exact hok_
        · (intro n9_ u0_ u1_ u2_; exact hw_ n9_ u0_ (by omega) u2_)
        · (intro G9_ n9_ u0_ u1_ u2_ u3_; exact hgr_ G9_ n9_ u0_ (by omega) u2_ u3_)
        · (intro x_ hx_; exact hrn_ x_ hx_ (by (have z9_ := hx_.2.1; omega)))
        · refine fun z9_ => ?_
          obtain ⟨x9_, a9_, b9_, c9_, k9_⟩ := hbd_ z9_
          exact ⟨x9_, a9_, c9_, k9_⟩
        · exact ⟨⟨by omega, by omega⟩, hrd_.2⟩
        · (intro j9_ u0_ u1_; exact hn2_ j9_ u0_ (by omega))
        · (intro j9_ u0_ u1_; exfalso; omega)
        · omega
      · have cx2_ : ¬ ((S_.2.2.1 159 0 a1_.toNat) ≤ i_) := of_decide_eq_false cx2_
        refine sm_T_go 3 (c1 := (135, [some (.inr (.inr (some (13, 0)))), some (.inl a1_), some (.inl a2_), some (.inl c_), some (.inl gd_), some (.inl i_)], [.inl i_, .inr (.inr (some (202, 0)))], S_)) rfl ?_
        refine sm_T_zald (n := 2048) rfl rfl (by omega) (by omega) ?_
        have bx3_ : 0 ≤ S_.2.2.1 202 0 i_.toNat ∧ S_.2.2.1 202 0 i_.toNat ≤ 1 := hI_.2 202 0 _
        refine sm_T_b0 (a := 0) (z := 46) rfl (fun cx4_ => ?_) (fun cx4_ => ?_)
        · have cx4_ : (S_.2.2.1 202 0 i_.toNat) = 0 := of_decide_eq_true cx4_
          refine sm_T_go 4 (c1 := (189, [some (.inr (.inr (some (13, 0)))), some (.inl a1_), some (.inl a2_), some (.inl c_), some (.inl gd_), some (.inl i_)], [.inl i_, .inl 2, .inr (.inr (some (218, 0)))], S_)) rfl ?_
          refine sm_T_bin (w := 2 * i_) rfl (bi_mul (by omega) (by omega) (by omega)) ?_ -- pc_ 189
          refine sm_T_go 1 (c1 := (191, [some (.inr (.inr (some (13, 0)))), some (.inl a1_), some (.inl a2_), some (.inl c_), some (.inl gd_), some (.inl i_)], [.inl (-1), .inl (2 * i_), .inr (.inr (some (218, 0)))], S_)) rfl ?_
          refine sm_T_iast (n := 4096) rfl rfl (by omega) (by omega) ?_
          have hIx5_ : gi (sm_aI S_ 218 0 (2 * i_).toNat (-1)) := gi_aI hI_ (show (-2) ≤ (-1) ∧ (-1) ≤ 9000 from ⟨by omega, by omega⟩)
          have hFx6_ : ai_fr (sx_W vw_419n) S0_ (sm_aI S_ 218 0 (2 * i_).toNat (-1)) := ai_fr_tr hF_ (ai_fr_aI rfl)
          refine sm_T_go 4 (c1 := (199, [some (.inr (.inr (some (13, 0)))), some (.inl a1_), some (.inl a2_), some (.inl c_), some (.inl gd_), some (.inl i_)], [.inl i_, .inl 2, .inr (.inr (some (218, 0)))], sm_aI S_ 218 0 (2 * i_).toNat (-1))) rfl ?_
          refine sm_T_bin (w := 2 * i_) rfl (bi_mul (by omega) (by omega) (by omega)) ?_ -- pc_ 199
          refine sm_T_go 1 (c1 := (201, [some (.inr (.inr (some (13, 0)))), some (.inl a1_), some (.inl a2_), some (.inl c_), some (.inl gd_), some (.inl i_)], [.inl 1, .inl (2 * i_), .inr (.inr (some (218, 0)))], sm_aI S_ 218 0 (2 * i_).toNat (-1))) rfl ?_
          refine sm_T_bin (w := 2 * i_ + 1) rfl (bi_add (by omega) (by omega) (by omega)) ?_ -- pc_ 201
          refine sm_T_go 1 (c1 := (203, [some (.inr (.inr (some (13, 0)))), some (.inl a1_), some (.inl a2_), some (.inl c_), some (.inl gd_), some (.inl i_)], [.inl (-1), .inl (2 * i_ + 1), .inr (.inr (some (218, 0)))], sm_aI S_ 218 0 (2 * i_).toNat (-1))) rfl ?_
          refine sm_T_iast (n := 4096) rfl rfl (by omega) (by omega) ?_
          have hIx7_ : gi (sm_aI (sm_aI S_ 218 0 (2 * i_).toNat (-1)) 218 0 (2 * i_ + 1).toNat (-1)) := gi_aI hIx5_ (show (-2) ≤ (-1) ∧ (-1) ≤ 9000 from ⟨by omega, by omega⟩)
          have hFx8_ : ai_fr (sx_W vw_419n) S0_ (sm_aI (sm_aI S_ 218 0 (2 * i_).toNat (-1)) 218 0 (2 * i_ + 1).toNat (-1)) := ai_fr_tr hFx6_ (ai_fr_aI rfl)
          refine sm_T_inc (a := 5) (z := 1) (v := i_) (w := i_ + 1) rfl rfl (by omega) (by omega) (by omega) ?_ -- pc_ 204
          refine sm_T_go 1 (c1 := (118, [some (.inr (.inr (some (13, 0)))), some (.inl a1_), some (.inl a2_), some (.inl c_), some (.inl gd_), some (.inl (i_ + 1))], [], sm_aI (sm_aI S_ 218 0 (2 * i_).toNat (-1)) 218 0 (2 * i_ + 1).toNat (-1))) rfl ?_
          refine ih_.1 c_ gd_ (i_ + 1) (sm_aI (sm_aI S_ 218 0 (2 * i_).toNat (-1)) 218 0 (2 * i_ + 1).toNat (-1)) hIx7_ hFx8_ ⟨?_, ?_, ?_, ?_, ?_, ?_, ?_, ?_, ?_, ?_, ?_, ?_, ?_, ?_, ?_, ?_, ?_, ?_, trivial⟩ ?_
          · omega
          · have fT_ : ai_fr (sx_W w118) S_ ((sm_aI (sm_aI S_ 218 0 (2 * i_).toNat (-1)) 218 0 (2 * i_ + 1).toNat (-1))) := by
              first
              | (have y8_ := f142_; exact ai_fr_tr (ai_fr_tr (fr_le f142_ rfl) (ai_fr_aI rfl)) (ai_fr_aI rfl))
              | exact ai_fr_tr (ai_fr_aI rfl) (ai_fr_aI rfl)
            exact dmp_fr hd_ fT_
          · have fT_ : ai_fr (sx_W w118) S_ ((sm_aI (sm_aI S_ 218 0 (2 * i_).toNat (-1)) 218 0 (2 * i_ + 1).toNat (-1))) := by
              first
              | (have y8_ := f142_; exact ai_fr_tr (ai_fr_tr (fr_le f142_ rfl) (ai_fr_aI rfl)) (ai_fr_aI rfl))
              | exact ai_fr_tr (ai_fr_aI rfl) (ai_fr_aI rfl)
            rw [fT_.1 13 0 106 rfl]
            exact hlb_
          · have fT_ : ai_fr (sx_W w118) S_ ((sm_aI (sm_aI S_ 218 0 (2 * i_).toNat (-1)) 218 0 (2 * i_ + 1).toNat (-1))) := by
              first
              | (have y8_ := f142_; exact ai_fr_tr (ai_fr_tr (fr_le f142_ rfl) (ai_fr_aI rfl)) (ai_fr_aI rfl))
              | exact ai_fr_tr (ai_fr_aI rfl) (ai_fr_aI rfl)
            exact rtd_fr hr_ fT_
          · have fT_ : ai_fr (sx_W w118) S_ ((sm_aI (sm_aI S_ 218 0 (2 * i_).toNat (-1)) 218 0 (2 * i_ + 1).toNat (-1))) := by
              first
              | (have y8_ := f142_; exact ai_fr_tr (ai_fr_tr (fr_le f142_ rfl) (ai_fr_aI rfl)) (ai_fr_aI rfl))
              | exact ai_fr_tr (ai_fr_aI rfl) (ai_fr_aI rfl)
            rw [fT_.1 13 0 107 rfl, fT_.1 13 0 106 rfl, fr_arr (t := 185) (i := 0) fT_ rfl]
            exact hiv_
          · have fT_ : ai_fr (sx_W w118) S_ ((sm_aI (sm_aI S_ 218 0 (2 * i_).toNat (-1)) 218 0 (2 * i_ + 1).toNat (-1))) := by
              first
              | (have y8_ := f142_; exact ai_fr_tr (ai_fr_tr (fr_le f142_ rfl) (ai_fr_aI rfl)) (ai_fr_aI rfl))
              | exact ai_fr_tr (ai_fr_aI rfl) (ai_fr_aI rfl)
            exact rcf_tr hk_ (rcf_fr fT_ rfl)
          · have fT_ : ai_fr (sx_W w118) S_ ((sm_aI (sm_aI S_ 218 0 (2 * i_).toNat (-1)) 218 0 (2 * i_ + 1).toNat (-1))) := by
              first
              | (have y8_ := f142_; exact ai_fr_tr (ai_fr_tr (fr_le f142_ rfl) (ai_fr_aI rfl)) (ai_fr_aI rfl))
              | exact ai_fr_tr (ai_fr_aI rfl) (ai_fr_aI rfl)
            rw [fr_arr (t := 222) (i := 0) fT_ rfl]
            exact ht_
          · have fT_ : ai_fr (sx_W w118) S_ ((sm_aI (sm_aI S_ 218 0 (2 * i_).toNat (-1)) 218 0 (2 * i_ + 1).toNat (-1))) := by
              first
              | (have y8_ := f142_; exact ai_fr_tr (ai_fr_tr (fr_le f142_ rfl) (ai_fr_aI rfl)) (ai_fr_aI rfl))
              | exact ai_fr_tr (ai_fr_aI rfl) (ai_fr_aI rfl)
            exact (rcm_fr hrc_ fT_).1
          · have fT_ : ai_fr (sx_W w118) S_ ((sm_aI (sm_aI S_ 218 0 (2 * i_).toNat (-1)) 218 0 (2 * i_ + 1).toNat (-1))) := by
              first
              | (have y8_ := f142_; exact ai_fr_tr (ai_fr_tr (fr_le f142_ rfl) (ai_fr_aI rfl)) (ai_fr_aI rfl))
              | exact ai_fr_tr (ai_fr_aI rfl) (ai_fr_aI rfl)
            exact (fT_.1 13 0 0 rfl).trans hcd_
          · have fT_ : ai_fr (sx_W w118) S_ ((sm_aI (sm_aI S_ 218 0 (2 * i_).toNat (-1)) 218 0 (2 * i_ + 1).toNat (-1))) := by
              first
              | (have y8_ := f142_; exact ai_fr_tr (ai_fr_tr (fr_le f142_ rfl) (ai_fr_aI rfl)) (ai_fr_aI rfl))
              | exact ai_fr_tr (ai_fr_aI rfl) (ai_fr_aI rfl)
            rw [rfv_cg (fr_arr (t := 185) (i := 0) fT_ rfl) (fr_arr (t := 186) (i := 0) fT_ rfl) (fr_arr (t := 187) (i := 0) fT_ rfl), fT_.1 13 0 107 rfl, fT_.1 13 0 108 rfl, fr_arr (t := 184) (i := 0) fT_ rfl, fr_arr (t := 187) (i := 0) fT_ rfl]
            exact hiw_
          · exact hok_
          · have fT_ : ai_fr (sx_W w118) S_ ((sm_aI (sm_aI S_ 218 0 (2 * i_).toNat (-1)) 218 0 (2 * i_ + 1).toNat (-1))) := by
              first
              | (have y8_ := f142_; exact ai_fr_tr (ai_fr_tr (fr_le f142_ rfl) (ai_fr_aI rfl)) (ai_fr_aI rfl))
              | exact ai_fr_tr (ai_fr_aI rfl) (ai_fr_aI rfl)
            exact lgn_cg hl_ (fr_arr fT_ rfl) (fr_arr fT_ rfl) (fr_arr fT_ rfl)
          · have fT_ : ai_fr (sx_W w118) S_ ((sm_aI (sm_aI S_ 218 0 (2 * i_).toNat (-1)) 218 0 (2 * i_ + 1).toNat (-1))) := by
              first
              | (have y8_ := f142_; exact ai_fr_tr (ai_fr_tr (fr_le f142_ rfl) (ai_fr_aI rfl)) (ai_fr_aI rfl))
              | exact ai_fr_tr (ai_fr_aI rfl) (ai_fr_aI rfl)
            intro n9_ u0_ u1_ u2_
            rw [fr_arr (t := 202) (i := 0) fT_ rfl] at u2_
            refine wok2_a (wok2_a ?_)
            first
            | (have y8_ := e142_; by_cases z9_ : n9_ = i_; (subst z9_; exact e142_.1); exact wok2_cg i142_ (hw_ n9_ u0_ (by omega) u2_) e142_.2 (by omega) (by omega) (fr_arr f142_ rfl) (f142_.1 13 0 106 rfl) (f142_.1 13 0 108 rfl) (fr_arr f142_ rfl) (fr_arr f142_ rfl))
            | exact hw_ n9_ u0_ (by (have z9_ : n9_ ≠ i_ := fun z9_ => by (subst z9_; omega)); omega) u2_
          · intro G9_ n9_ u0_ u1_ u2_ u3_
            (try simp only [rd_eq, rd_ne, rf_eq, rf_nk, rf_nt, rd_fa, rd_af, rd_fl, rd_al, rd_lf, rd_la, rd_leq, rd_lne, rd_fr, rd_ar, ne_eq, Nat.reduceEqDiff, not_false_eq_true] at *)
            first
            | (exfalso; omega)
            | (have y8_ := e142_; have u4_ := u3_; rw [g202_] at u2_; rw [g203_] at u3_; by_cases z9_ : n9_ = i_; (subst z9_; omega); (rw [(e142_.2.2 (2 * n9_).toNat (by omega)).1]; exact hgr_ (by omega) n9_ u0_ (by omega) u2_ u3_))
            | (have z9_ : n9_ ≠ i_ := fun z9_ => by (subst z9_; omega)
               exact hgr_ G9_ n9_ u0_ (by omega) u2_ u3_)
          · intro j9_ u0_ u1_
            (try simp only [rd_eq, rd_ne, rf_eq, rf_nk, rf_nt, rd_fa, rd_af, rd_fl, rd_al, rd_lf, rd_la, rd_leq, rd_lne, rd_fr, rd_ar, ne_eq, Nat.reduceEqDiff, not_false_eq_true])
            split
            · rfl
            · split
              · rfl
              · first | (have y8_ := e142_; rw [g218_]; exact hn2_ j9_ u0_ (by omega)) | exact hn2_ j9_ u0_ (by omega)
          · have fB_ : ai_fr (sx_W ([], [218], [])) S_ ((sm_aI (sm_aI S_ 218 0 (2 * i_).toNat (-1)) 218 0 (2 * i_ + 1).toNat (-1))) := ai_fr_tr (ai_fr_aI rfl) (ai_fr_aI rfl)
            intro x_ hx_ u1_
            first
            | (have y8_ := RN142_; have t9_ := (rcm_fr RC142_.1 fB_).2; rw [t9_, RC142_.2] at hx_; rw [t9_, RC142_.2]; exact rnw_fr (TR142_ x_ hx_) (RN142_ x_ hx_ (by omega)) i142_ fB_)
            | (have t9_ := (rcm_fr hrc_ fB_).2; rw [t9_] at hx_; rw [t9_]; exact rnw_fr (hrc_.2 x_ hx_).1 (hrn_ x_ hx_ (by (have z9_ : (x_ : Int) ≠ i_ := fun z9_ => by (have y9_ := hx_.2.2; rw [show x_ = i_.toNat by omega] at y9_; omega)); omega)) hI_ fB_)
          · have fB_ : ai_fr (sx_W ([], [218], [])) S_ ((sm_aI (sm_aI S_ 218 0 (2 * i_).toNat (-1)) 218 0 (2 * i_ + 1).toNat (-1))) := ai_fr_tr (ai_fr_aI rfl) (ai_fr_aI rfl)
            refine fun z9_ => ?_
            first
            | (exfalso; omega)
            | (have y8_ := e142_; have t9_ := (rcm_fr RC142_.1 fB_).2; by_cases y9_ : gd_ = 0; (obtain ⟨x9_, a9_, b9_, c9_, k9_⟩ := hbd_ y9_; exact ⟨x9_, by (rw [t9_, RC142_.2]; exact a9_), by omega, by (rw [fr_arr (t := 203) (i := 0) fB_ rfl, g203_]; exact c9_), by (rw [fr_arr (t := 210) (i := 0) fB_ rfl, (e142_.2.2 (2 * x9_) (by omega)).1]; exact k9_)⟩); exact ⟨i_.toNat, by (rw [t9_, RC142_.2]; exact T142_), by omega, by (rw [fr_arr (t := 203) (i := 0) fB_ rfl]; omega), by (rw [fr_arr (t := 210) (i := 0) fB_ rfl, show 2 * i_.toNat = (2 * i_).toNat by omega]; omega)⟩)
            | (obtain ⟨x9_, a9_, b9_, c9_, k9_⟩ := hbd_ (by omega); exact ⟨x9_, by (rw [(rcm_fr hrc_ fB_).2]; exact a9_), by omega, by (rw [fr_arr (t := 203) (i := 0) fB_ rfl]; exact c9_), by (rw [fr_arr (t := 210) (i := 0) fB_ rfl]; exact k9_)⟩)
          · have fB_ : ai_fr (sx_W ([], [218], [])) S_ ((sm_aI (sm_aI S_ 218 0 (2 * i_).toNat (-1)) 218 0 (2 * i_ + 1).toNat (-1))) := ai_fr_tr (ai_fr_aI rfl) (ai_fr_aI rfl)
            rw [fB_.1 13 0 127 rfl, fr_arr (t := 213) (i := 0) fB_ rfl]
            first | (have y8_ := d142_; exact ⟨⟨by omega, by omega⟩, d142_.2.2⟩) | exact ⟨⟨by omega, by omega⟩, hrd_.2⟩
          · omega
        · have cx4_ : ¬ ((S_.2.2.1 202 0 i_.toNat) = 0) := of_decide_eq_false cx4_
          refine sm_T_go 2 (c1 := (142, [some (.inr (.inr (some (13, 0)))), some (.inl a1_), some (.inl a2_), some (.inl c_), some (.inl gd_), some (.inl i_)], [.inl i_, .inr (.inr (some (13, 0)))], S_)) rfl ?_
          refine sm_T_cal (d1 := 4) (Q1 := vq_407n i_ F_ N_ (rtn F_ N_ S_) S_) rfl rfl (by decide) (vc_407n i_ F_ N_ (rtn F_ N_ S_) S_ hI_ (by (intro x9_ u0_ u1_ u2_; exact rcm_d hrc_ x9_ u0_ u1_ (by omega) u2_)) (by (intro m9_; exact Nat.le_trans ((hrc_.2 i_.toNat ⟨by omega, by omega, by omega⟩).2 m9_) (by decide))) (by exact (hrc_.2 i_.toNat ⟨by omega, by omega, by omega⟩).1) (by omega) (by exact hrd_.2) (by exact f160_) (by omega) (by omega) (by exact hl_)) (fun u_ Sx9_ px12_ => ?_)
          obtain ⟨rfl, hIx10_, hFx11_, px12_⟩ := px12_
          have hFx13_ : ai_fr (sx_W vw_419n) S0_ Sx9_ := ai_fr_tr hF_ (fr_le hFx11_ rfl)
          have e142_ := (px12_).1
          have d142_ := (px12_).2.1
          have f142_ := hFx11_
          have T142_ : rtn F_ N_ S_ i_.toNat := ⟨by omega, by omega, by omega⟩
          have RC142_ := rcm_fr hrc_ hFx11_
          have RN142_ : ∀ x_ : Nat, rtn F_ N_ S_ x_ → (x_ : Int) < i_ + 1 → rnw F_ (rtn F_ N_ S_) Sx9_ x_ := fun x_ hx_ u1_ => by (by_cases z9_ : (x_ : Int) = i_; (rw [show x_ = i_.toNat by omega]; have x9_ := (px12_).2.2; rw [show (2 * i_).toNat = 2 * i_.toNat by omega, show (2 * i_ + 1).toNat = 2 * i_.toNat + 1 by omega] at x9_; exact rnw_nw (hrc_.2 i_.toNat T142_).1 x9_ (fr_arr hFx11_ rfl) (fr_arr hFx11_ rfl) (fr_arr hFx11_ rfl) (fr_arr hFx11_ rfl) (fr_arr hFx11_ rfl) (fr_arr hFx11_ rfl) (fr_arr hFx11_ rfl) (hFx11_.1 13 0 106 rfl) (hFx11_.1 13 0 108 rfl) (fun j_ hj_ => (e142_.2.2 j_ (by omega)).1)); exact rnw_cg (hrc_.2 x_ hx_).1 (hrn_ x_ hx_ (by omega)) (fr_arr hFx11_ rfl) (fr_arr hFx11_ rfl) (fr_arr hFx11_ rfl) (fr_arr hFx11_ rfl) (fr_arr hFx11_ rfl) (fr_arr hFx11_ rfl) (fr_arr hFx11_ rfl) (hFx11_.1 13 0 106 rfl) (hFx11_.1 13 0 108 rfl) (fun j_ hj_ => (e142_.2.2 j_ (by omega)).1) (fun j_ h1_ h2_ => ⟨(e142_.2.1.1 j_ (by omega)).1, (e142_.2.1.1 j_ (by omega)).2.1, (e142_.2.1.1 j_ (by omega)).2.2, (e142_.2.2 j_ (by omega)).2⟩) (fun j_ h1_ h2_ => e142_.2.1.2 j_ (by omega)) (fun k_ => (hI_.2 185 0 k_).2))
          have TR142_ : ∀ x_ : Nat, rtn F_ N_ S_ x_ → trh (rnn F_ Sx9_) (rcu Sx9_) (rhq Sx9_) x_ (rtn F_ N_ S_) := fun x_ hx_ => by (have z9_ := (RC142_.1.2 x_ (by (rw [RC142_.2]; exact hx_))).1; rw [RC142_.2] at z9_; exact z9_)
          have i142_ : gi Sx9_ := hIx10_
          have g202_ : Sx9_.2.2.1 202 0 = S_.2.2.1 202 0 := fr_arr hFx11_ rfl
          have g203_ : Sx9_.2.2.1 203 0 = S_.2.2.1 203 0 := fr_arr hFx11_ rfl
          have g218_ : Sx9_.2.2.1 218 0 = S_.2.2.1 218 0 := fr_arr hFx11_ rfl
          refine sm_T_go 1 (c1 := (147, [some (.inr (.inr (some (13, 0)))), some (.inl a1_), some (.inl a2_), some (.inl c_), some (.inl gd_), some (.inl i_)], [.inl gd_], Sx9_)) rfl ?_
          refine sm_T_b0 (a := 0) (z := 32) rfl (fun cx14_ => ?_) (fun cx14_ => ?_)
          · have cx14_ : gd_ = 0 := of_decide_eq_true cx14_
            refine sm_T_go 6 (c1 := (189, [some (.inr (.inr (some (13, 0)))), some (.inl a1_), some (.inl a2_), some (.inl c_), some (.inl 0), some (.inl i_)], [.inl i_, .inl 2, .inr (.inr (some (218, 0)))], Sx9_)) rfl ?_
            refine sm_T_bin (w := 2 * i_) rfl (bi_mul (by omega) (by omega) (by omega)) ?_ -- pc_ 189
            refine sm_T_go 1 (c1 := (191, [some (.inr (.inr (some (13, 0)))), some (.inl a1_), some (.inl a2_), some (.inl c_), some (.inl 0), some (.inl i_)], [.inl (-1), .inl (2 * i_), .inr (.inr (some (218, 0)))], Sx9_)) rfl ?_
            refine sm_T_iast (n := 4096) rfl rfl (by omega) (by omega) ?_
            have hIx15_ : gi (sm_aI Sx9_ 218 0 (2 * i_).toNat (-1)) := gi_aI hIx10_ (show (-2) ≤ (-1) ∧ (-1) ≤ 9000 from ⟨by omega, by omega⟩)
            have hFx16_ : ai_fr (sx_W vw_419n) S0_ (sm_aI Sx9_ 218 0 (2 * i_).toNat (-1)) := ai_fr_tr hFx13_ (ai_fr_aI rfl)
            refine sm_T_go 4 (c1 := (199, [some (.inr (.inr (some (13, 0)))), some (.inl a1_), some (.inl a2_), some (.inl c_), some (.inl 0), some (.inl i_)], [.inl i_, .inl 2, .inr (.inr (some (218, 0)))], sm_aI Sx9_ 218 0 (2 * i_).toNat (-1))) rfl ?_
            refine sm_T_bin (w := 2 * i_) rfl (bi_mul (by omega) (by omega) (by omega)) ?_ -- pc_ 199
            refine sm_T_go 1 (c1 := (201, [some (.inr (.inr (some (13, 0)))), some (.inl a1_), some (.inl a2_), some (.inl c_), some (.inl 0), some (.inl i_)], [.inl 1, .inl (2 * i_), .inr (.inr (some (218, 0)))], sm_aI Sx9_ 218 0 (2 * i_).toNat (-1))) rfl ?_
            refine sm_T_bin (w := 2 * i_ + 1) rfl (bi_add (by omega) (by omega) (by omega)) ?_ -- pc_ 201
            refine sm_T_go 1 (c1 := (203, [some (.inr (.inr (some (13, 0)))), some (.inl a1_), some (.inl a2_), some (.inl c_), some (.inl 0), some (.inl i_)], [.inl (-1), .inl (2 * i_ + 1), .inr (.inr (some (218, 0)))], sm_aI Sx9_ 218 0 (2 * i_).toNat (-1))) rfl ?_
            refine sm_T_iast (n := 4096) rfl rfl (by omega) (by omega) ?_
            have hIx17_ : gi (sm_aI (sm_aI Sx9_ 218 0 (2 * i_).toNat (-1)) 218 0 (2 * i_ + 1).toNat (-1)) := gi_aI hIx15_ (show (-2) ≤ (-1) ∧ (-1) ≤ 9000 from ⟨by omega, by omega⟩)
            have hFx18_ : ai_fr (sx_W vw_419n) S0_ (sm_aI (sm_aI Sx9_ 218 0 (2 * i_).toNat (-1)) 218 0 (2 * i_ + 1).toNat (-1)) := ai_fr_tr hFx16_ (ai_fr_aI rfl)
            refine sm_T_inc (a := 5) (z := 1) (v := i_) (w := i_ + 1) rfl rfl (by omega) (by omega) (by omega) ?_ -- pc_ 204
            refine sm_T_go 1 (c1 := (118, [some (.inr (.inr (some (13, 0)))), some (.inl a1_), some (.inl a2_), some (.inl c_), some (.inl 0), some (.inl (i_ + 1))], [], sm_aI (sm_aI Sx9_ 218 0 (2 * i_).toNat (-1)) 218 0 (2 * i_ + 1).toNat (-1))) rfl ?_
            refine ih_.1 c_ 0 (i_ + 1) (sm_aI (sm_aI Sx9_ 218 0 (2 * i_).toNat (-1)) 218 0 (2 * i_ + 1).toNat (-1)) hIx17_ hFx18_ ⟨?_, ?_, ?_, ?_, ?_, ?_, ?_, ?_, ?_, ?_, ?_, ?_, ?_, ?_, ?_, ?_, ?_, ?_, trivial⟩ ?_
            · omega
            · have fT_ : ai_fr (sx_W w118) S_ ((sm_aI (sm_aI Sx9_ 218 0 (2 * i_).toNat (-1)) 218 0 (2 * i_ + 1).toNat (-1))) := by
                first
                | (have y8_ := f142_; exact ai_fr_tr (ai_fr_tr (fr_le f142_ rfl) (ai_fr_aI rfl)) (ai_fr_aI rfl))
                | exact ai_fr_tr (ai_fr_aI rfl) (ai_fr_aI rfl)
              exact dmp_fr hd_ fT_
            · have fT_ : ai_fr (sx_W w118) S_ ((sm_aI (sm_aI Sx9_ 218 0 (2 * i_).toNat (-1)) 218 0 (2 * i_ + 1).toNat (-1))) := by
                first
                | (have y8_ := f142_; exact ai_fr_tr (ai_fr_tr (fr_le f142_ rfl) (ai_fr_aI rfl)) (ai_fr_aI rfl))
                | exact ai_fr_tr (ai_fr_aI rfl) (ai_fr_aI rfl)
              rw [fT_.1 13 0 106 rfl]
              exact hlb_
            · have fT_ : ai_fr (sx_W w118) S_ ((sm_aI (sm_aI Sx9_ 218 0 (2 * i_).toNat (-1)) 218 0 (2 * i_ + 1).toNat (-1))) := by
                first
                | (have y8_ := f142_; exact ai_fr_tr (ai_fr_tr (fr_le f142_ rfl) (ai_fr_aI rfl)) (ai_fr_aI rfl))
                | exact ai_fr_tr (ai_fr_aI rfl) (ai_fr_aI rfl)
              exact rtd_fr hr_ fT_
            · have fT_ : ai_fr (sx_W w118) S_ ((sm_aI (sm_aI Sx9_ 218 0 (2 * i_).toNat (-1)) 218 0 (2 * i_ + 1).toNat (-1))) := by
                first
                | (have y8_ := f142_; exact ai_fr_tr (ai_fr_tr (fr_le f142_ rfl) (ai_fr_aI rfl)) (ai_fr_aI rfl))
                | exact ai_fr_tr (ai_fr_aI rfl) (ai_fr_aI rfl)
              rw [fT_.1 13 0 107 rfl, fT_.1 13 0 106 rfl, fr_arr (t := 185) (i := 0) fT_ rfl]
              exact hiv_
            · have fT_ : ai_fr (sx_W w118) S_ ((sm_aI (sm_aI Sx9_ 218 0 (2 * i_).toNat (-1)) 218 0 (2 * i_ + 1).toNat (-1))) := by
                first
                | (have y8_ := f142_; exact ai_fr_tr (ai_fr_tr (fr_le f142_ rfl) (ai_fr_aI rfl)) (ai_fr_aI rfl))
                | exact ai_fr_tr (ai_fr_aI rfl) (ai_fr_aI rfl)
              exact rcf_tr hk_ (rcf_fr fT_ rfl)
            · have fT_ : ai_fr (sx_W w118) S_ ((sm_aI (sm_aI Sx9_ 218 0 (2 * i_).toNat (-1)) 218 0 (2 * i_ + 1).toNat (-1))) := by
                first
                | (have y8_ := f142_; exact ai_fr_tr (ai_fr_tr (fr_le f142_ rfl) (ai_fr_aI rfl)) (ai_fr_aI rfl))
                | exact ai_fr_tr (ai_fr_aI rfl) (ai_fr_aI rfl)
              rw [fr_arr (t := 222) (i := 0) fT_ rfl]
              exact ht_
            · have fT_ : ai_fr (sx_W w118) S_ ((sm_aI (sm_aI Sx9_ 218 0 (2 * i_).toNat (-1)) 218 0 (2 * i_ + 1).toNat (-1))) := by
                first
                | (have y8_ := f142_; exact ai_fr_tr (ai_fr_tr (fr_le f142_ rfl) (ai_fr_aI rfl)) (ai_fr_aI rfl))
                | exact ai_fr_tr (ai_fr_aI rfl) (ai_fr_aI rfl)
              exact (rcm_fr hrc_ fT_).1
            · have fT_ : ai_fr (sx_W w118) S_ ((sm_aI (sm_aI Sx9_ 218 0 (2 * i_).toNat (-1)) 218 0 (2 * i_ + 1).toNat (-1))) := by
                first
                | (have y8_ := f142_; exact ai_fr_tr (ai_fr_tr (fr_le f142_ rfl) (ai_fr_aI rfl)) (ai_fr_aI rfl))
                | exact ai_fr_tr (ai_fr_aI rfl) (ai_fr_aI rfl)
              exact (fT_.1 13 0 0 rfl).trans hcd_
            · have fT_ : ai_fr (sx_W w118) S_ ((sm_aI (sm_aI Sx9_ 218 0 (2 * i_).toNat (-1)) 218 0 (2 * i_ + 1).toNat (-1))) := by
                first
                | (have y8_ := f142_; exact ai_fr_tr (ai_fr_tr (fr_le f142_ rfl) (ai_fr_aI rfl)) (ai_fr_aI rfl))
                | exact ai_fr_tr (ai_fr_aI rfl) (ai_fr_aI rfl)
              rw [rfv_cg (fr_arr (t := 185) (i := 0) fT_ rfl) (fr_arr (t := 186) (i := 0) fT_ rfl) (fr_arr (t := 187) (i := 0) fT_ rfl), fT_.1 13 0 107 rfl, fT_.1 13 0 108 rfl, fr_arr (t := 184) (i := 0) fT_ rfl, fr_arr (t := 187) (i := 0) fT_ rfl]
              exact hiw_
            · exact hok_
            · have fT_ : ai_fr (sx_W w118) S_ ((sm_aI (sm_aI Sx9_ 218 0 (2 * i_).toNat (-1)) 218 0 (2 * i_ + 1).toNat (-1))) := by
                first
                | (have y8_ := f142_; exact ai_fr_tr (ai_fr_tr (fr_le f142_ rfl) (ai_fr_aI rfl)) (ai_fr_aI rfl))
                | exact ai_fr_tr (ai_fr_aI rfl) (ai_fr_aI rfl)
              exact lgn_cg hl_ (fr_arr fT_ rfl) (fr_arr fT_ rfl) (fr_arr fT_ rfl)
            · have fT_ : ai_fr (sx_W w118) S_ ((sm_aI (sm_aI Sx9_ 218 0 (2 * i_).toNat (-1)) 218 0 (2 * i_ + 1).toNat (-1))) := by
                first
                | (have y8_ := f142_; exact ai_fr_tr (ai_fr_tr (fr_le f142_ rfl) (ai_fr_aI rfl)) (ai_fr_aI rfl))
                | exact ai_fr_tr (ai_fr_aI rfl) (ai_fr_aI rfl)
              intro n9_ u0_ u1_ u2_
              rw [fr_arr (t := 202) (i := 0) fT_ rfl] at u2_
              refine wok2_a (wok2_a ?_)
              first
              | (have y8_ := e142_; by_cases z9_ : n9_ = i_; (subst z9_; exact e142_.1); exact wok2_cg i142_ (hw_ n9_ u0_ (by omega) u2_) e142_.2 (by omega) (by omega) (fr_arr f142_ rfl) (f142_.1 13 0 106 rfl) (f142_.1 13 0 108 rfl) (fr_arr f142_ rfl) (fr_arr f142_ rfl))
              | exact hw_ n9_ u0_ (by (have z9_ : n9_ ≠ i_ := fun z9_ => by (subst z9_; omega)); omega) u2_
            · intro G9_ n9_ u0_ u1_ u2_ u3_
              (try simp only [rd_eq, rd_ne, rf_eq, rf_nk, rf_nt, rd_fa, rd_af, rd_fl, rd_al, rd_lf, rd_la, rd_leq, rd_lne, rd_fr, rd_ar, ne_eq, Nat.reduceEqDiff, not_false_eq_true] at *)
              first
              | (exfalso; omega)
              | (have y8_ := e142_; have u4_ := u3_; rw [g202_] at u2_; rw [g203_] at u3_; by_cases z9_ : n9_ = i_; (subst z9_; omega); (rw [(e142_.2.2 (2 * n9_).toNat (by omega)).1]; exact hgr_ (by omega) n9_ u0_ (by omega) u2_ u3_))
              | (have z9_ : n9_ ≠ i_ := fun z9_ => by (subst z9_; omega)
                 exact hgr_ G9_ n9_ u0_ (by omega) u2_ u3_)
            · intro j9_ u0_ u1_
              (try simp only [rd_eq, rd_ne, rf_eq, rf_nk, rf_nt, rd_fa, rd_af, rd_fl, rd_al, rd_lf, rd_la, rd_leq, rd_lne, rd_fr, rd_ar, ne_eq, Nat.reduceEqDiff, not_false_eq_true])
              split
              · rfl
              · split
                · rfl
                · first | (have y8_ := e142_; rw [g218_]; exact hn2_ j9_ u0_ (by omega)) | exact hn2_ j9_ u0_ (by omega)
            · have fB_ : ai_fr (sx_W ([], [218], [])) Sx9_ ((sm_aI (sm_aI Sx9_ 218 0 (2 * i_).toNat (-1)) 218 0 (2 * i_ + 1).toNat (-1))) := ai_fr_tr (ai_fr_aI rfl) (ai_fr_aI rfl)
              intro x_ hx_ u1_
              first
              | (have y8_ := RN142_; have t9_ := (rcm_fr RC142_.1 fB_).2; rw [t9_, RC142_.2] at hx_; rw [t9_, RC142_.2]; exact rnw_fr (TR142_ x_ hx_) (RN142_ x_ hx_ (by omega)) i142_ fB_)
              | (have t9_ := (rcm_fr hrc_ fB_).2; rw [t9_] at hx_; rw [t9_]; exact rnw_fr (hrc_.2 x_ hx_).1 (hrn_ x_ hx_ (by (have z9_ : (x_ : Int) ≠ i_ := fun z9_ => by (have y9_ := hx_.2.2; rw [show x_ = i_.toNat by omega] at y9_; omega)); omega)) hI_ fB_)
            · have fB_ : ai_fr (sx_W ([], [218], [])) Sx9_ ((sm_aI (sm_aI Sx9_ 218 0 (2 * i_).toNat (-1)) 218 0 (2 * i_ + 1).toNat (-1))) := ai_fr_tr (ai_fr_aI rfl) (ai_fr_aI rfl)
              refine fun z9_ => ?_
              first
              | (exfalso; omega)
              | (have y8_ := e142_; have t9_ := (rcm_fr RC142_.1 fB_).2; by_cases y9_ : gd_ = 0; (obtain ⟨x9_, a9_, b9_, c9_, k9_⟩ := hbd_ y9_; exact ⟨x9_, by (rw [t9_, RC142_.2]; exact a9_), by omega, by (rw [fr_arr (t := 203) (i := 0) fB_ rfl, g203_]; exact c9_), by (rw [fr_arr (t := 210) (i := 0) fB_ rfl, (e142_.2.2 (2 * x9_) (by omega)).1]; exact k9_)⟩); exact ⟨i_.toNat, by (rw [t9_, RC142_.2]; exact T142_), by omega, by (rw [fr_arr (t := 203) (i := 0) fB_ rfl]; omega), by (rw [fr_arr (t := 210) (i := 0) fB_ rfl, show 2 * i_.toNat = (2 * i_).toNat by omega]; omega)⟩)
              | (obtain ⟨x9_, a9_, b9_, c9_, k9_⟩ := hbd_ (by omega); exact ⟨x9_, by (rw [(rcm_fr hrc_ fB_).2]; exact a9_), by omega, by (rw [fr_arr (t := 203) (i := 0) fB_ rfl]; exact c9_), by (rw [fr_arr (t := 210) (i := 0) fB_ rfl]; exact k9_)⟩)
            · have fB_ : ai_fr (sx_W ([], [218], [])) Sx9_ ((sm_aI (sm_aI Sx9_ 218 0 (2 * i_).toNat (-1)) 218 0 (2 * i_ + 1).toNat (-1))) := ai_fr_tr (ai_fr_aI rfl) (ai_fr_aI rfl)
              rw [fB_.1 13 0 127 rfl, fr_arr (t := 213) (i := 0) fB_ rfl]
              first | (have y8_ := d142_; exact ⟨⟨by omega, by omega⟩, d142_.2.2⟩) | exact ⟨⟨by omega, by omega⟩, hrd_.2⟩
            · omega
          · have cx14_ : ¬ (gd_ = 0) := of_decide_eq_false cx14_
            refine sm_T_go 3 (c1 := (156, [some (.inr (.inr (some (13, 0)))), some (.inl a1_), some (.inl a2_), some (.inl c_), some (.inl gd_), some (.inl i_)], [.inl i_, .inr (.inr (some (203, 0)))], Sx9_)) rfl ?_
            refine sm_T_zald (n := 2048) rfl rfl (by omega) (by omega) ?_
            have bx19_ : 0 ≤ Sx9_.2.2.1 203 0 i_.toNat ∧ Sx9_.2.2.1 203 0 i_.toNat ≤ 1 := hIx10_.2 203 0 _
            refine sm_T_b0 (a := 0) (z := 18) rfl (fun cx20_ => ?_) (fun cx20_ => ?_)
            · have cx20_ : (Sx9_.2.2.1 203 0 i_.toNat) = 0 := of_decide_eq_true cx20_
              refine sm_T_go 7 (c1 := (189, [some (.inr (.inr (some (13, 0)))), some (.inl a1_), some (.inl a2_), some (.inl c_), some (.inl 1), some (.inl i_)], [.inl i_, .inl 2, .inr (.inr (some (218, 0)))], Sx9_)) rfl ?_
              refine sm_T_bin (w := 2 * i_) rfl (bi_mul (by omega) (by omega) (by omega)) ?_ -- pc_ 189
              refine sm_T_go 1 (c1 := (191, [some (.inr (.inr (some (13, 0)))), some (.inl a1_), some (.inl a2_), some (.inl c_), some (.inl 1), some (.inl i_)], [.inl (-1), .inl (2 * i_), .inr (.inr (some (218, 0)))], Sx9_)) rfl ?_
              refine sm_T_iast (n := 4096) rfl rfl (by omega) (by omega) ?_
              have hIx21_ : gi (sm_aI Sx9_ 218 0 (2 * i_).toNat (-1)) := gi_aI hIx10_ (show (-2) ≤ (-1) ∧ (-1) ≤ 9000 from ⟨by omega, by omega⟩)
              have hFx22_ : ai_fr (sx_W vw_419n) S0_ (sm_aI Sx9_ 218 0 (2 * i_).toNat (-1)) := ai_fr_tr hFx13_ (ai_fr_aI rfl)
              refine sm_T_go 4 (c1 := (199, [some (.inr (.inr (some (13, 0)))), some (.inl a1_), some (.inl a2_), some (.inl c_), some (.inl 1), some (.inl i_)], [.inl i_, .inl 2, .inr (.inr (some (218, 0)))], sm_aI Sx9_ 218 0 (2 * i_).toNat (-1))) rfl ?_
              refine sm_T_bin (w := 2 * i_) rfl (bi_mul (by omega) (by omega) (by omega)) ?_ -- pc_ 199
              refine sm_T_go 1 (c1 := (201, [some (.inr (.inr (some (13, 0)))), some (.inl a1_), some (.inl a2_), some (.inl c_), some (.inl 1), some (.inl i_)], [.inl 1, .inl (2 * i_), .inr (.inr (some (218, 0)))], sm_aI Sx9_ 218 0 (2 * i_).toNat (-1))) rfl ?_
              refine sm_T_bin (w := 2 * i_ + 1) rfl (bi_add (by omega) (by omega) (by omega)) ?_ -- pc_ 201
              refine sm_T_go 1 (c1 := (203, [some (.inr (.inr (some (13, 0)))), some (.inl a1_), some (.inl a2_), some (.inl c_), some (.inl 1), some (.inl i_)], [.inl (-1), .inl (2 * i_ + 1), .inr (.inr (some (218, 0)))], sm_aI Sx9_ 218 0 (2 * i_).toNat (-1))) rfl ?_
              refine sm_T_iast (n := 4096) rfl rfl (by omega) (by omega) ?_
              have hIx23_ : gi (sm_aI (sm_aI Sx9_ 218 0 (2 * i_).toNat (-1)) 218 0 (2 * i_ + 1).toNat (-1)) := gi_aI hIx21_ (show (-2) ≤ (-1) ∧ (-1) ≤ 9000 from ⟨by omega, by omega⟩)
              have hFx24_ : ai_fr (sx_W vw_419n) S0_ (sm_aI (sm_aI Sx9_ 218 0 (2 * i_).toNat (-1)) 218 0 (2 * i_ + 1).toNat (-1)) := ai_fr_tr hFx22_ (ai_fr_aI rfl)
              refine sm_T_inc (a := 5) (z := 1) (v := i_) (w := i_ + 1) rfl rfl (by omega) (by omega) (by omega) ?_ -- pc_ 204
              refine sm_T_go 1 (c1 := (118, [some (.inr (.inr (some (13, 0)))), some (.inl a1_), some (.inl a2_), some (.inl c_), some (.inl 1), some (.inl (i_ + 1))], [], sm_aI (sm_aI Sx9_ 218 0 (2 * i_).toNat (-1)) 218 0 (2 * i_ + 1).toNat (-1))) rfl ?_
              refine ih_.1 c_ 1 (i_ + 1) (sm_aI (sm_aI Sx9_ 218 0 (2 * i_).toNat (-1)) 218 0 (2 * i_ + 1).toNat (-1)) hIx23_ hFx24_ ⟨?_, ?_, ?_, ?_, ?_, ?_, ?_, ?_, ?_, ?_, ?_, ?_, ?_, ?_, ?_, ?_, ?_, ?_, trivial⟩ ?_
              · omega
              · have fT_ : ai_fr (sx_W w118) S_ ((sm_aI (sm_aI Sx9_ 218 0 (2 * i_).toNat (-1)) 218 0 (2 * i_ + 1).toNat (-1))) := by
                  first
                  | (have y8_ := f142_; exact ai_fr_tr (ai_fr_tr (fr_le f142_ rfl) (ai_fr_aI rfl)) (ai_fr_aI rfl))
                  | exact ai_fr_tr (ai_fr_aI rfl) (ai_fr_aI rfl)
                exact dmp_fr hd_ fT_
              · have fT_ : ai_fr (sx_W w118) S_ ((sm_aI (sm_aI Sx9_ 218 0 (2 * i_).toNat (-1)) 218 0 (2 * i_ + 1).toNat (-1))) := by
                  first
                  | (have y8_ := f142_; exact ai_fr_tr (ai_fr_tr (fr_le f142_ rfl) (ai_fr_aI rfl)) (ai_fr_aI rfl))
                  | exact ai_fr_tr (ai_fr_aI rfl) (ai_fr_aI rfl)
                rw [fT_.1 13 0 106 rfl]
                exact hlb_
              · have fT_ : ai_fr (sx_W w118) S_ ((sm_aI (sm_aI Sx9_ 218 0 (2 * i_).toNat (-1)) 218 0 (2 * i_ + 1).toNat (-1))) := by
                  first
                  | (have y8_ := f142_; exact ai_fr_tr (ai_fr_tr (fr_le f142_ rfl) (ai_fr_aI rfl)) (ai_fr_aI rfl))
                  | exact ai_fr_tr (ai_fr_aI rfl) (ai_fr_aI rfl)
                exact rtd_fr hr_ fT_
              · have fT_ : ai_fr (sx_W w118) S_ ((sm_aI (sm_aI Sx9_ 218 0 (2 * i_).toNat (-1)) 218 0 (2 * i_ + 1).toNat (-1))) := by
                  first
                  | (have y8_ := f142_; exact ai_fr_tr (ai_fr_tr (fr_le f142_ rfl) (ai_fr_aI rfl)) (ai_fr_aI rfl))
                  | exact ai_fr_tr (ai_fr_aI rfl) (ai_fr_aI rfl)
                rw [fT_.1 13 0 107 rfl, fT_.1 13 0 106 rfl, fr_arr (t := 185) (i := 0) fT_ rfl]
                exact hiv_
              · have fT_ : ai_fr (sx_W w118) S_ ((sm_aI (sm_aI Sx9_ 218 0 (2 * i_).toNat (-1)) 218 0 (2 * i_ + 1).toNat (-1))) := by
                  first
                  | (have y8_ := f142_; exact ai_fr_tr (ai_fr_tr (fr_le f142_ rfl) (ai_fr_aI rfl)) (ai_fr_aI rfl))
                  | exact ai_fr_tr (ai_fr_aI rfl) (ai_fr_aI rfl)
                exact rcf_tr hk_ (rcf_fr fT_ rfl)
              · have fT_ : ai_fr (sx_W w118) S_ ((sm_aI (sm_aI Sx9_ 218 0 (2 * i_).toNat (-1)) 218 0 (2 * i_ + 1).toNat (-1))) := by
                  first
                  | (have y8_ := f142_; exact ai_fr_tr (ai_fr_tr (fr_le f142_ rfl) (ai_fr_aI rfl)) (ai_fr_aI rfl))
                  | exact ai_fr_tr (ai_fr_aI rfl) (ai_fr_aI rfl)
                rw [fr_arr (t := 222) (i := 0) fT_ rfl]
                exact ht_
              · have fT_ : ai_fr (sx_W w118) S_ ((sm_aI (sm_aI Sx9_ 218 0 (2 * i_).toNat (-1)) 218 0 (2 * i_ + 1).toNat (-1))) := by
                  first
                  | (have y8_ := f142_; exact ai_fr_tr (ai_fr_tr (fr_le f142_ rfl) (ai_fr_aI rfl)) (ai_fr_aI rfl))
                  | exact ai_fr_tr (ai_fr_aI rfl) (ai_fr_aI rfl)
                exact (rcm_fr hrc_ fT_).1
              · have fT_ : ai_fr (sx_W w118) S_ ((sm_aI (sm_aI Sx9_ 218 0 (2 * i_).toNat (-1)) 218 0 (2 * i_ + 1).toNat (-1))) := by
                  first
                  | (have y8_ := f142_; exact ai_fr_tr (ai_fr_tr (fr_le f142_ rfl) (ai_fr_aI rfl)) (ai_fr_aI rfl))
                  | exact ai_fr_tr (ai_fr_aI rfl) (ai_fr_aI rfl)
                exact (fT_.1 13 0 0 rfl).trans hcd_
              · have fT_ : ai_fr (sx_W w118) S_ ((sm_aI (sm_aI Sx9_ 218 0 (2 * i_).toNat (-1)) 218 0 (2 * i_ + 1).toNat (-1))) := by
                  first
                  | (have y8_ := f142_; exact ai_fr_tr (ai_fr_tr (fr_le f142_ rfl) (ai_fr_aI rfl)) (ai_fr_aI rfl))
                  | exact ai_fr_tr (ai_fr_aI rfl) (ai_fr_aI rfl)
                rw [rfv_cg (fr_arr (t := 185) (i := 0) fT_ rfl) (fr_arr (t := 186) (i := 0) fT_ rfl) (fr_arr (t := 187) (i := 0) fT_ rfl), fT_.1 13 0 107 rfl, fT_.1 13 0 108 rfl, fr_arr (t := 184) (i := 0) fT_ rfl, fr_arr (t := 187) (i := 0) fT_ rfl]
                exact hiw_
              · exact hok_
              · have fT_ : ai_fr (sx_W w118) S_ ((sm_aI (sm_aI Sx9_ 218 0 (2 * i_).toNat (-1)) 218 0 (2 * i_ + 1).toNat (-1))) := by
                  first
                  | (have y8_ := f142_; exact ai_fr_tr (ai_fr_tr (fr_le f142_ rfl) (ai_fr_aI rfl)) (ai_fr_aI rfl))
                  | exact ai_fr_tr (ai_fr_aI rfl) (ai_fr_aI rfl)
                exact lgn_cg hl_ (fr_arr fT_ rfl) (fr_arr fT_ rfl) (fr_arr fT_ rfl)
              · have fT_ : ai_fr (sx_W w118) S_ ((sm_aI (sm_aI Sx9_ 218 0 (2 * i_).toNat (-1)) 218 0 (2 * i_ + 1).toNat (-1))) := by
                  first
                  | (have y8_ := f142_; exact ai_fr_tr (ai_fr_tr (fr_le f142_ rfl) (ai_fr_aI rfl)) (ai_fr_aI rfl))
                  | exact ai_fr_tr (ai_fr_aI rfl) (ai_fr_aI rfl)
                intro n9_ u0_ u1_ u2_
                rw [fr_arr (t := 202) (i := 0) fT_ rfl] at u2_
                refine wok2_a (wok2_a ?_)
                first
                | (have y8_ := e142_; by_cases z9_ : n9_ = i_; (subst z9_; exact e142_.1); exact wok2_cg i142_ (hw_ n9_ u0_ (by omega) u2_) e142_.2 (by omega) (by omega) (fr_arr f142_ rfl) (f142_.1 13 0 106 rfl) (f142_.1 13 0 108 rfl) (fr_arr f142_ rfl) (fr_arr f142_ rfl))
                | exact hw_ n9_ u0_ (by (have z9_ : n9_ ≠ i_ := fun z9_ => by (subst z9_; omega)); omega) u2_
              · intro G9_ n9_ u0_ u1_ u2_ u3_
                (try simp only [rd_eq, rd_ne, rf_eq, rf_nk, rf_nt, rd_fa, rd_af, rd_fl, rd_al, rd_lf, rd_la, rd_leq, rd_lne, rd_fr, rd_ar, ne_eq, Nat.reduceEqDiff, not_false_eq_true] at *)
                first
                | (exfalso; omega)
                | (have y8_ := e142_; have u4_ := u3_; rw [g202_] at u2_; rw [g203_] at u3_; by_cases z9_ : n9_ = i_; (subst z9_; omega); (rw [(e142_.2.2 (2 * n9_).toNat (by omega)).1]; exact hgr_ (by omega) n9_ u0_ (by omega) u2_ u3_))
                | (have z9_ : n9_ ≠ i_ := fun z9_ => by (subst z9_; omega)
                   exact hgr_ G9_ n9_ u0_ (by omega) u2_ u3_)
              · intro j9_ u0_ u1_
                (try simp only [rd_eq, rd_ne, rf_eq, rf_nk, rf_nt, rd_fa, rd_af, rd_fl, rd_al, rd_lf, rd_la, rd_leq, rd_lne, rd_fr, rd_ar, ne_eq, Nat.reduceEqDiff, not_false_eq_true])
                split
                · rfl
                · split
                  · rfl
                  · first | (have y8_ := e142_; rw [g218_]; exact hn2_ j9_ u0_ (by omega)) | exact hn2_ j9_ u0_ (by omega)
              · have fB_ : ai_fr (sx_W ([], [218], [])) Sx9_ ((sm_aI (sm_aI Sx9_ 218 0 (2 * i_).toNat (-1)) 218 0 (2 * i_ + 1).toNat (-1))) := ai_fr_tr (ai_fr_aI rfl) (ai_fr_aI rfl)
                intro x_ hx_ u1_
                first
                | (have y8_ := RN142_; have t9_ := (rcm_fr RC142_.1 fB_).2; rw [t9_, RC142_.2] at hx_; rw [t9_, RC142_.2]; exact rnw_fr (TR142_ x_ hx_) (RN142_ x_ hx_ (by omega)) i142_ fB_)
                | (have t9_ := (rcm_fr hrc_ fB_).2; rw [t9_] at hx_; rw [t9_]; exact rnw_fr (hrc_.2 x_ hx_).1 (hrn_ x_ hx_ (by (have z9_ : (x_ : Int) ≠ i_ := fun z9_ => by (have y9_ := hx_.2.2; rw [show x_ = i_.toNat by omega] at y9_; omega)); omega)) hI_ fB_)
              · have fB_ : ai_fr (sx_W ([], [218], [])) Sx9_ ((sm_aI (sm_aI Sx9_ 218 0 (2 * i_).toNat (-1)) 218 0 (2 * i_ + 1).toNat (-1))) := ai_fr_tr (ai_fr_aI rfl) (ai_fr_aI rfl)
                refine fun z9_ => ?_
                first
                | (exfalso; omega)
                | (have y8_ := e142_; have t9_ := (rcm_fr RC142_.1 fB_).2; by_cases y9_ : gd_ = 0; (obtain ⟨x9_, a9_, b9_, c9_, k9_⟩ := hbd_ y9_; exact ⟨x9_, by (rw [t9_, RC142_.2]; exact a9_), by omega, by (rw [fr_arr (t := 203) (i := 0) fB_ rfl, g203_]; exact c9_), by (rw [fr_arr (t := 210) (i := 0) fB_ rfl, (e142_.2.2 (2 * x9_) (by omega)).1]; exact k9_)⟩); exact ⟨i_.toNat, by (rw [t9_, RC142_.2]; exact T142_), by omega, by (rw [fr_arr (t := 203) (i := 0) fB_ rfl]; omega), by (rw [fr_arr (t := 210) (i := 0) fB_ rfl, show 2 * i_.toNat = (2 * i_).toNat by omega]; omega)⟩)
                | (obtain ⟨x9_, a9_, b9_, c9_, k9_⟩ := hbd_ (by omega); exact ⟨x9_, by (rw [(rcm_fr hrc_ fB_).2]; exact a9_), by omega, by (rw [fr_arr (t := 203) (i := 0) fB_ rfl]; exact c9_), by (rw [fr_arr (t := 210) (i := 0) fB_ rfl]; exact k9_)⟩)
              · have fB_ : ai_fr (sx_W ([], [218], [])) Sx9_ ((sm_aI (sm_aI Sx9_ 218 0 (2 * i_).toNat (-1)) 218 0 (2 * i_ + 1).toNat (-1))) := ai_fr_tr (ai_fr_aI rfl) (ai_fr_aI rfl)
                rw [fB_.1 13 0 127 rfl, fr_arr (t := 213) (i := 0) fB_ rfl]
                first | (have y8_ := d142_; exact ⟨⟨by omega, by omega⟩, d142_.2.2⟩) | exact ⟨⟨by omega, by omega⟩, hrd_.2⟩
              · omega
            · have cx20_ : ¬ ((Sx9_.2.2.1 203 0 i_.toNat) = 0) := of_decide_eq_false cx20_
              refine sm_T_go 4 (c1 := (167, [some (.inr (.inr (some (13, 0)))), some (.inl a1_), some (.inl a2_), some (.inl c_), some (.inl gd_), some (.inl i_)], [.inl i_, .inl 2, .inr (.inr (some (210, 0)))], Sx9_)) rfl ?_
              refine sm_T_bin (w := 2 * i_) rfl (bi_mul (by omega) (by omega) (by omega)) ?_ -- pc_ 167
              refine sm_T_iald (n := 4096) rfl rfl (by omega) (by omega) ?_
              have bx25_ : 0 ≤ Sx9_.2.2.1 210 0 (2 * i_).toNat ∧ Sx9_.2.2.1 210 0 (2 * i_).toNat ≤ 1000000000 := hIx10_.2 210 0 _
              refine sm_T_nt (u := some (.inl 1000000000)) (S1 := Sx9_) rfl rfl rfl ?_
              refine sm_T_br (a := 3) (z := 7) rfl (fun cx26_ => ?_) (fun cx26_ => ?_)
              · have cx26_ : 1000000000 ≤ (Sx9_.2.2.1 210 0 (2 * i_).toNat) := of_decide_eq_true cx26_
                refine sm_T_go 6 (c1 := (189, [some (.inr (.inr (some (13, 0)))), some (.inl a1_), some (.inl a2_), some (.inl c_), some (.inl 0), some (.inl i_)], [.inl i_, .inl 2, .inr (.inr (some (218, 0)))], Sx9_)) rfl ?_
                refine sm_T_bin (w := 2 * i_) rfl (bi_mul (by omega) (by omega) (by omega)) ?_ -- pc_ 189
                refine sm_T_go 1 (c1 := (191, [some (.inr (.inr (some (13, 0)))), some (.inl a1_), some (.inl a2_), some (.inl c_), some (.inl 0), some (.inl i_)], [.inl (-1), .inl (2 * i_), .inr (.inr (some (218, 0)))], Sx9_)) rfl ?_
                refine sm_T_iast (n := 4096) rfl rfl (by omega) (by omega) ?_
                have hIx27_ : gi (sm_aI Sx9_ 218 0 (2 * i_).toNat (-1)) := gi_aI hIx10_ (show (-2) ≤ (-1) ∧ (-1) ≤ 9000 from ⟨by omega, by omega⟩)
                have hFx28_ : ai_fr (sx_W vw_419n) S0_ (sm_aI Sx9_ 218 0 (2 * i_).toNat (-1)) := ai_fr_tr hFx13_ (ai_fr_aI rfl)
                refine sm_T_go 4 (c1 := (199, [some (.inr (.inr (some (13, 0)))), some (.inl a1_), some (.inl a2_), some (.inl c_), some (.inl 0), some (.inl i_)], [.inl i_, .inl 2, .inr (.inr (some (218, 0)))], sm_aI Sx9_ 218 0 (2 * i_).toNat (-1))) rfl ?_
                refine sm_T_bin (w := 2 * i_) rfl (bi_mul (by omega) (by omega) (by omega)) ?_ -- pc_ 199
                refine sm_T_go 1 (c1 := (201, [some (.inr (.inr (some (13, 0)))), some (.inl a1_), some (.inl a2_), some (.inl c_), some (.inl 0), some (.inl i_)], [.inl 1, .inl (2 * i_), .inr (.inr (some (218, 0)))], sm_aI Sx9_ 218 0 (2 * i_).toNat (-1))) rfl ?_
                refine sm_T_bin (w := 2 * i_ + 1) rfl (bi_add (by omega) (by omega) (by omega)) ?_ -- pc_ 201
                refine sm_T_go 1 (c1 := (203, [some (.inr (.inr (some (13, 0)))), some (.inl a1_), some (.inl a2_), some (.inl c_), some (.inl 0), some (.inl i_)], [.inl (-1), .inl (2 * i_ + 1), .inr (.inr (some (218, 0)))], sm_aI Sx9_ 218 0 (2 * i_).toNat (-1))) rfl ?_
                refine sm_T_iast (n := 4096) rfl rfl (by omega) (by omega) ?_
                have hIx29_ : gi (sm_aI (sm_aI Sx9_ 218 0 (2 * i_).toNat (-1)) 218 0 (2 * i_ + 1).toNat (-1)) := gi_aI hIx27_ (show (-2) ≤ (-1) ∧ (-1) ≤ 9000 from ⟨by omega, by omega⟩)
                have hFx30_ : ai_fr (sx_W vw_419n) S0_ (sm_aI (sm_aI Sx9_ 218 0 (2 * i_).toNat (-1)) 218 0 (2 * i_ + 1).toNat (-1)) := ai_fr_tr hFx28_ (ai_fr_aI rfl)
                refine sm_T_inc (a := 5) (z := 1) (v := i_) (w := i_ + 1) rfl rfl (by omega) (by omega) (by omega) ?_ -- pc_ 204
                refine sm_T_go 1 (c1 := (118, [some (.inr (.inr (some (13, 0)))), some (.inl a1_), some (.inl a2_), some (.inl c_), some (.inl 0), some (.inl (i_ + 1))], [], sm_aI (sm_aI Sx9_ 218 0 (2 * i_).toNat (-1)) 218 0 (2 * i_ + 1).toNat (-1))) rfl ?_
                refine ih_.1 c_ 0 (i_ + 1) (sm_aI (sm_aI Sx9_ 218 0 (2 * i_).toNat (-1)) 218 0 (2 * i_ + 1).toNat (-1)) hIx29_ hFx30_ ⟨?_, ?_, ?_, ?_, ?_, ?_, ?_, ?_, ?_, ?_, ?_, ?_, ?_, ?_, ?_, ?_, ?_, ?_, trivial⟩ ?_
                · omega
                · have fT_ : ai_fr (sx_W w118) S_ ((sm_aI (sm_aI Sx9_ 218 0 (2 * i_).toNat (-1)) 218 0 (2 * i_ + 1).toNat (-1))) := by
                    first
                    | (have y8_ := f142_; exact ai_fr_tr (ai_fr_tr (fr_le f142_ rfl) (ai_fr_aI rfl)) (ai_fr_aI rfl))
                    | exact ai_fr_tr (ai_fr_aI rfl) (ai_fr_aI rfl)
                  exact dmp_fr hd_ fT_
                · have fT_ : ai_fr (sx_W w118) S_ ((sm_aI (sm_aI Sx9_ 218 0 (2 * i_).toNat (-1)) 218 0 (2 * i_ + 1).toNat (-1))) := by
                    first
                    | (have y8_ := f142_; exact ai_fr_tr (ai_fr_tr (fr_le f142_ rfl) (ai_fr_aI rfl)) (ai_fr_aI rfl))
                    | exact ai_fr_tr (ai_fr_aI rfl) (ai_fr_aI rfl)
                  rw [fT_.1 13 0 106 rfl]
                  exact hlb_
                · have fT_ : ai_fr (sx_W w118) S_ ((sm_aI (sm_aI Sx9_ 218 0 (2 * i_).toNat (-1)) 218 0 (2 * i_ + 1).toNat (-1))) := by
                    first
                    | (have y8_ := f142_; exact ai_fr_tr (ai_fr_tr (fr_le f142_ rfl) (ai_fr_aI rfl)) (ai_fr_aI rfl))
                    | exact ai_fr_tr (ai_fr_aI rfl) (ai_fr_aI rfl)
                  exact rtd_fr hr_ fT_
                · have fT_ : ai_fr (sx_W w118) S_ ((sm_aI (sm_aI Sx9_ 218 0 (2 * i_).toNat (-1)) 218 0 (2 * i_ + 1).toNat (-1))) := by
                    first
                    | (have y8_ := f142_; exact ai_fr_tr (ai_fr_tr (fr_le f142_ rfl) (ai_fr_aI rfl)) (ai_fr_aI rfl))
                    | exact ai_fr_tr (ai_fr_aI rfl) (ai_fr_aI rfl)
                  rw [fT_.1 13 0 107 rfl, fT_.1 13 0 106 rfl, fr_arr (t := 185) (i := 0) fT_ rfl]
                  exact hiv_
                · have fT_ : ai_fr (sx_W w118) S_ ((sm_aI (sm_aI Sx9_ 218 0 (2 * i_).toNat (-1)) 218 0 (2 * i_ + 1).toNat (-1))) := by
                    first
                    | (have y8_ := f142_; exact ai_fr_tr (ai_fr_tr (fr_le f142_ rfl) (ai_fr_aI rfl)) (ai_fr_aI rfl))
                    | exact ai_fr_tr (ai_fr_aI rfl) (ai_fr_aI rfl)
                  exact rcf_tr hk_ (rcf_fr fT_ rfl)
                · have fT_ : ai_fr (sx_W w118) S_ ((sm_aI (sm_aI Sx9_ 218 0 (2 * i_).toNat (-1)) 218 0 (2 * i_ + 1).toNat (-1))) := by
                    first
                    | (have y8_ := f142_; exact ai_fr_tr (ai_fr_tr (fr_le f142_ rfl) (ai_fr_aI rfl)) (ai_fr_aI rfl))
                    | exact ai_fr_tr (ai_fr_aI rfl) (ai_fr_aI rfl)
                  rw [fr_arr (t := 222) (i := 0) fT_ rfl]
                  exact ht_
                · have fT_ : ai_fr (sx_W w118) S_ ((sm_aI (sm_aI Sx9_ 218 0 (2 * i_).toNat (-1)) 218 0 (2 * i_ + 1).toNat (-1))) := by
                    first
                    | (have y8_ := f142_; exact ai_fr_tr (ai_fr_tr (fr_le f142_ rfl) (ai_fr_aI rfl)) (ai_fr_aI rfl))
                    | exact ai_fr_tr (ai_fr_aI rfl) (ai_fr_aI rfl)
                  exact (rcm_fr hrc_ fT_).1
                · have fT_ : ai_fr (sx_W w118) S_ ((sm_aI (sm_aI Sx9_ 218 0 (2 * i_).toNat (-1)) 218 0 (2 * i_ + 1).toNat (-1))) := by
                    first
                    | (have y8_ := f142_; exact ai_fr_tr (ai_fr_tr (fr_le f142_ rfl) (ai_fr_aI rfl)) (ai_fr_aI rfl))
                    | exact ai_fr_tr (ai_fr_aI rfl) (ai_fr_aI rfl)
                  exact (fT_.1 13 0 0 rfl).trans hcd_
                · have fT_ : ai_fr (sx_W w118) S_ ((sm_aI (sm_aI Sx9_ 218 0 (2 * i_).toNat (-1)) 218 0 (2 * i_ + 1).toNat (-1))) := by
                    first
                    | (have y8_ := f142_; exact ai_fr_tr (ai_fr_tr (fr_le f142_ rfl) (ai_fr_aI rfl)) (ai_fr_aI rfl))
                    | exact ai_fr_tr (ai_fr_aI rfl) (ai_fr_aI rfl)
                  rw [rfv_cg (fr_arr (t := 185) (i := 0) fT_ rfl) (fr_arr (t := 186) (i := 0) fT_ rfl) (fr_arr (t := 187) (i := 0) fT_ rfl), fT_.1 13 0 107 rfl, fT_.1 13 0 108 rfl, fr_arr (t := 184) (i := 0) fT_ rfl, fr_arr (t := 187) (i := 0) fT_ rfl]
                  exact hiw_
                · exact hok_
                · have fT_ : ai_fr (sx_W w118) S_ ((sm_aI (sm_aI Sx9_ 218 0 (2 * i_).toNat (-1)) 218 0 (2 * i_ + 1).toNat (-1))) := by
                    first
                    | (have y8_ := f142_; exact ai_fr_tr (ai_fr_tr (fr_le f142_ rfl) (ai_fr_aI rfl)) (ai_fr_aI rfl))
                    | exact ai_fr_tr (ai_fr_aI rfl) (ai_fr_aI rfl)
                  exact lgn_cg hl_ (fr_arr fT_ rfl) (fr_arr fT_ rfl) (fr_arr fT_ rfl)
                · have fT_ : ai_fr (sx_W w118) S_ ((sm_aI (sm_aI Sx9_ 218 0 (2 * i_).toNat (-1)) 218 0 (2 * i_ + 1).toNat (-1))) := by
                    first
                    | (have y8_ := f142_; exact ai_fr_tr (ai_fr_tr (fr_le f142_ rfl) (ai_fr_aI rfl)) (ai_fr_aI rfl))
                    | exact ai_fr_tr (ai_fr_aI rfl) (ai_fr_aI rfl)
                  intro n9_ u0_ u1_ u2_
                  rw [fr_arr (t := 202) (i := 0) fT_ rfl] at u2_
                  refine wok2_a (wok2_a ?_)
                  first
                  | (have y8_ := e142_; by_cases z9_ : n9_ = i_; (subst z9_; exact e142_.1); exact wok2_cg i142_ (hw_ n9_ u0_ (by omega) u2_) e142_.2 (by omega) (by omega) (fr_arr f142_ rfl) (f142_.1 13 0 106 rfl) (f142_.1 13 0 108 rfl) (fr_arr f142_ rfl) (fr_arr f142_ rfl))
                  | exact hw_ n9_ u0_ (by (have z9_ : n9_ ≠ i_ := fun z9_ => by (subst z9_; omega)); omega) u2_
                · intro G9_ n9_ u0_ u1_ u2_ u3_
                  (try simp only [rd_eq, rd_ne, rf_eq, rf_nk, rf_nt, rd_fa, rd_af, rd_fl, rd_al, rd_lf, rd_la, rd_leq, rd_lne, rd_fr, rd_ar, ne_eq, Nat.reduceEqDiff, not_false_eq_true] at *)
                  first
                  | (exfalso; omega)
                  | (have y8_ := e142_; have u4_ := u3_; rw [g202_] at u2_; rw [g203_] at u3_; by_cases z9_ : n9_ = i_; (subst z9_; omega); (rw [(e142_.2.2 (2 * n9_).toNat (by omega)).1]; exact hgr_ (by omega) n9_ u0_ (by omega) u2_ u3_))
                  | (have z9_ : n9_ ≠ i_ := fun z9_ => by (subst z9_; omega)
                     exact hgr_ G9_ n9_ u0_ (by omega) u2_ u3_)
                · intro j9_ u0_ u1_
                  (try simp only [rd_eq, rd_ne, rf_eq, rf_nk, rf_nt, rd_fa, rd_af, rd_fl, rd_al, rd_lf, rd_la, rd_leq, rd_lne, rd_fr, rd_ar, ne_eq, Nat.reduceEqDiff, not_false_eq_true])
                  split
                  · rfl
                  · split
                    · rfl
                    · first | (have y8_ := e142_; rw [g218_]; exact hn2_ j9_ u0_ (by omega)) | exact hn2_ j9_ u0_ (by omega)
                · have fB_ : ai_fr (sx_W ([], [218], [])) Sx9_ ((sm_aI (sm_aI Sx9_ 218 0 (2 * i_).toNat (-1)) 218 0 (2 * i_ + 1).toNat (-1))) := ai_fr_tr (ai_fr_aI rfl) (ai_fr_aI rfl)
                  intro x_ hx_ u1_
                  first
                  | (have y8_ := RN142_; have t9_ := (rcm_fr RC142_.1 fB_).2; rw [t9_, RC142_.2] at hx_; rw [t9_, RC142_.2]; exact rnw_fr (TR142_ x_ hx_) (RN142_ x_ hx_ (by omega)) i142_ fB_)
                  | (have t9_ := (rcm_fr hrc_ fB_).2; rw [t9_] at hx_; rw [t9_]; exact rnw_fr (hrc_.2 x_ hx_).1 (hrn_ x_ hx_ (by (have z9_ : (x_ : Int) ≠ i_ := fun z9_ => by (have y9_ := hx_.2.2; rw [show x_ = i_.toNat by omega] at y9_; omega)); omega)) hI_ fB_)
                · have fB_ : ai_fr (sx_W ([], [218], [])) Sx9_ ((sm_aI (sm_aI Sx9_ 218 0 (2 * i_).toNat (-1)) 218 0 (2 * i_ + 1).toNat (-1))) := ai_fr_tr (ai_fr_aI rfl) (ai_fr_aI rfl)
                  refine fun z9_ => ?_
                  first
                  | (exfalso; omega)
                  | (have y8_ := e142_; have t9_ := (rcm_fr RC142_.1 fB_).2; by_cases y9_ : gd_ = 0; (obtain ⟨x9_, a9_, b9_, c9_, k9_⟩ := hbd_ y9_; exact ⟨x9_, by (rw [t9_, RC142_.2]; exact a9_), by omega, by (rw [fr_arr (t := 203) (i := 0) fB_ rfl, g203_]; exact c9_), by (rw [fr_arr (t := 210) (i := 0) fB_ rfl, (e142_.2.2 (2 * x9_) (by omega)).1]; exact k9_)⟩); exact ⟨i_.toNat, by (rw [t9_, RC142_.2]; exact T142_), by omega, by (rw [fr_arr (t := 203) (i := 0) fB_ rfl]; omega), by (rw [fr_arr (t := 210) (i := 0) fB_ rfl, show 2 * i_.toNat = (2 * i_).toNat by omega]; omega)⟩)
                  | (obtain ⟨x9_, a9_, b9_, c9_, k9_⟩ := hbd_ (by omega); exact ⟨x9_, by (rw [(rcm_fr hrc_ fB_).2]; exact a9_), by omega, by (rw [fr_arr (t := 203) (i := 0) fB_ rfl]; exact c9_), by (rw [fr_arr (t := 210) (i := 0) fB_ rfl]; exact k9_)⟩)
                · have fB_ : ai_fr (sx_W ([], [218], [])) Sx9_ ((sm_aI (sm_aI Sx9_ 218 0 (2 * i_).toNat (-1)) 218 0 (2 * i_ + 1).toNat (-1))) := ai_fr_tr (ai_fr_aI rfl) (ai_fr_aI rfl)
                  rw [fB_.1 13 0 127 rfl, fr_arr (t := 213) (i := 0) fB_ rfl]
                  first | (have y8_ := d142_; exact ⟨⟨by omega, by omega⟩, d142_.2.2⟩) | exact ⟨⟨by omega, by omega⟩, hrd_.2⟩
                · omega
              · have cx26_ : ¬ (1000000000 ≤ (Sx9_.2.2.1 210 0 (2 * i_).toNat)) := of_decide_eq_false cx26_
                refine sm_T_go 7 (c1 := (189, [some (.inr (.inr (some (13, 0)))), some (.inl a1_), some (.inl a2_), some (.inl c_), some (.inl 1), some (.inl i_)], [.inl i_, .inl 2, .inr (.inr (some (218, 0)))], Sx9_)) rfl ?_
                refine sm_T_bin (w := 2 * i_) rfl (bi_mul (by omega) (by omega) (by omega)) ?_ -- pc_ 189
                refine sm_T_go 1 (c1 := (191, [some (.inr (.inr (some (13, 0)))), some (.inl a1_), some (.inl a2_), some (.inl c_), some (.inl 1), some (.inl i_)], [.inl (-1), .inl (2 * i_), .inr (.inr (some (218, 0)))], Sx9_)) rfl ?_
                refine sm_T_iast (n := 4096) rfl rfl (by omega) (by omega) ?_
                have hIx31_ : gi (sm_aI Sx9_ 218 0 (2 * i_).toNat (-1)) := gi_aI hIx10_ (show (-2) ≤ (-1) ∧ (-1) ≤ 9000 from ⟨by omega, by omega⟩)
                have hFx32_ : ai_fr (sx_W vw_419n) S0_ (sm_aI Sx9_ 218 0 (2 * i_).toNat (-1)) := ai_fr_tr hFx13_ (ai_fr_aI rfl)
                refine sm_T_go 4 (c1 := (199, [some (.inr (.inr (some (13, 0)))), some (.inl a1_), some (.inl a2_), some (.inl c_), some (.inl 1), some (.inl i_)], [.inl i_, .inl 2, .inr (.inr (some (218, 0)))], sm_aI Sx9_ 218 0 (2 * i_).toNat (-1))) rfl ?_
                refine sm_T_bin (w := 2 * i_) rfl (bi_mul (by omega) (by omega) (by omega)) ?_ -- pc_ 199
                refine sm_T_go 1 (c1 := (201, [some (.inr (.inr (some (13, 0)))), some (.inl a1_), some (.inl a2_), some (.inl c_), some (.inl 1), some (.inl i_)], [.inl 1, .inl (2 * i_), .inr (.inr (some (218, 0)))], sm_aI Sx9_ 218 0 (2 * i_).toNat (-1))) rfl ?_
                refine sm_T_bin (w := 2 * i_ + 1) rfl (bi_add (by omega) (by omega) (by omega)) ?_ -- pc_ 201
                refine sm_T_go 1 (c1 := (203, [some (.inr (.inr (some (13, 0)))), some (.inl a1_), some (.inl a2_), some (.inl c_), some (.inl 1), some (.inl i_)], [.inl (-1), .inl (2 * i_ + 1), .inr (.inr (some (218, 0)))], sm_aI Sx9_ 218 0 (2 * i_).toNat (-1))) rfl ?_
                refine sm_T_iast (n := 4096) rfl rfl (by omega) (by omega) ?_
                have hIx33_ : gi (sm_aI (sm_aI Sx9_ 218 0 (2 * i_).toNat (-1)) 218 0 (2 * i_ + 1).toNat (-1)) := gi_aI hIx31_ (show (-2) ≤ (-1) ∧ (-1) ≤ 9000 from ⟨by omega, by omega⟩)
                have hFx34_ : ai_fr (sx_W vw_419n) S0_ (sm_aI (sm_aI Sx9_ 218 0 (2 * i_).toNat (-1)) 218 0 (2 * i_ + 1).toNat (-1)) := ai_fr_tr hFx32_ (ai_fr_aI rfl)
                refine sm_T_inc (a := 5) (z := 1) (v := i_) (w := i_ + 1) rfl rfl (by omega) (by omega) (by omega) ?_ -- pc_ 204
                refine sm_T_go 1 (c1 := (118, [some (.inr (.inr (some (13, 0)))), some (.inl a1_), some (.inl a2_), some (.inl c_), some (.inl 1), some (.inl (i_ + 1))], [], sm_aI (sm_aI Sx9_ 218 0 (2 * i_).toNat (-1)) 218 0 (2 * i_ + 1).toNat (-1))) rfl ?_
                refine ih_.1 c_ 1 (i_ + 1) (sm_aI (sm_aI Sx9_ 218 0 (2 * i_).toNat (-1)) 218 0 (2 * i_ + 1).toNat (-1)) hIx33_ hFx34_ ⟨?_, ?_, ?_, ?_, ?_, ?_, ?_, ?_, ?_, ?_, ?_, ?_, ?_, ?_, ?_, ?_, ?_, ?_, trivial⟩ ?_
                · omega
                · have fT_ : ai_fr (sx_W w118) S_ ((sm_aI (sm_aI Sx9_ 218 0 (2 * i_).toNat (-1)) 218 0 (2 * i_ + 1).toNat (-1))) := by
                    first
                    | (have y8_ := f142_; exact ai_fr_tr (ai_fr_tr (fr_le f142_ rfl) (ai_fr_aI rfl)) (ai_fr_aI rfl))
                    | exact ai_fr_tr (ai_fr_aI rfl) (ai_fr_aI rfl)
                  exact dmp_fr hd_ fT_
                · have fT_ : ai_fr (sx_W w118) S_ ((sm_aI (sm_aI Sx9_ 218 0 (2 * i_).toNat (-1)) 218 0 (2 * i_ + 1).toNat (-1))) := by
                    first
                    | (have y8_ := f142_; exact ai_fr_tr (ai_fr_tr (fr_le f142_ rfl) (ai_fr_aI rfl)) (ai_fr_aI rfl))
                    | exact ai_fr_tr (ai_fr_aI rfl) (ai_fr_aI rfl)
                  rw [fT_.1 13 0 106 rfl]
                  exact hlb_
                · have fT_ : ai_fr (sx_W w118) S_ ((sm_aI (sm_aI Sx9_ 218 0 (2 * i_).toNat (-1)) 218 0 (2 * i_ + 1).toNat (-1))) := by
                    first
                    | (have y8_ := f142_; exact ai_fr_tr (ai_fr_tr (fr_le f142_ rfl) (ai_fr_aI rfl)) (ai_fr_aI rfl))
                    | exact ai_fr_tr (ai_fr_aI rfl) (ai_fr_aI rfl)
                  exact rtd_fr hr_ fT_
                · have fT_ : ai_fr (sx_W w118) S_ ((sm_aI (sm_aI Sx9_ 218 0 (2 * i_).toNat (-1)) 218 0 (2 * i_ + 1).toNat (-1))) := by
                    first
                    | (have y8_ := f142_; exact ai_fr_tr (ai_fr_tr (fr_le f142_ rfl) (ai_fr_aI rfl)) (ai_fr_aI rfl))
                    | exact ai_fr_tr (ai_fr_aI rfl) (ai_fr_aI rfl)
                  rw [fT_.1 13 0 107 rfl, fT_.1 13 0 106 rfl, fr_arr (t := 185) (i := 0) fT_ rfl]
                  exact hiv_
                · have fT_ : ai_fr (sx_W w118) S_ ((sm_aI (sm_aI Sx9_ 218 0 (2 * i_).toNat (-1)) 218 0 (2 * i_ + 1).toNat (-1))) := by
                    first
                    | (have y8_ := f142_; exact ai_fr_tr (ai_fr_tr (fr_le f142_ rfl) (ai_fr_aI rfl)) (ai_fr_aI rfl))
                    | exact ai_fr_tr (ai_fr_aI rfl) (ai_fr_aI rfl)
                  exact rcf_tr hk_ (rcf_fr fT_ rfl)
                · have fT_ : ai_fr (sx_W w118) S_ ((sm_aI (sm_aI Sx9_ 218 0 (2 * i_).toNat (-1)) 218 0 (2 * i_ + 1).toNat (-1))) := by
                    first
                    | (have y8_ := f142_; exact ai_fr_tr (ai_fr_tr (fr_le f142_ rfl) (ai_fr_aI rfl)) (ai_fr_aI rfl))
                    | exact ai_fr_tr (ai_fr_aI rfl) (ai_fr_aI rfl)
                  rw [fr_arr (t := 222) (i := 0) fT_ rfl]
                  exact ht_
                · have fT_ : ai_fr (sx_W w118) S_ ((sm_aI (sm_aI Sx9_ 218 0 (2 * i_).toNat (-1)) 218 0 (2 * i_ + 1).toNat (-1))) := by
                    first
                    | (have y8_ := f142_; exact ai_fr_tr (ai_fr_tr (fr_le f142_ rfl) (ai_fr_aI rfl)) (ai_fr_aI rfl))
                    | exact ai_fr_tr (ai_fr_aI rfl) (ai_fr_aI rfl)
                  exact (rcm_fr hrc_ fT_).1
                · have fT_ : ai_fr (sx_W w118) S_ ((sm_aI (sm_aI Sx9_ 218 0 (2 * i_).toNat (-1)) 218 0 (2 * i_ + 1).toNat (-1))) := by
                    first
                    | (have y8_ := f142_; exact ai_fr_tr (ai_fr_tr (fr_le f142_ rfl) (ai_fr_aI rfl)) (ai_fr_aI rfl))
                    | exact ai_fr_tr (ai_fr_aI rfl) (ai_fr_aI rfl)
                  exact (fT_.1 13 0 0 rfl).trans hcd_
                · have fT_ : ai_fr (sx_W w118) S_ ((sm_aI (sm_aI Sx9_ 218 0 (2 * i_).toNat (-1)) 218 0 (2 * i_ + 1).toNat (-1))) := by
                    first
                    | (have y8_ := f142_; exact ai_fr_tr (ai_fr_tr (fr_le f142_ rfl) (ai_fr_aI rfl)) (ai_fr_aI rfl))
                    | exact ai_fr_tr (ai_fr_aI rfl) (ai_fr_aI rfl)
                  rw [rfv_cg (fr_arr (t := 185) (i := 0) fT_ rfl) (fr_arr (t := 186) (i := 0) fT_ rfl) (fr_arr (t := 187) (i := 0) fT_ rfl), fT_.1 13 0 107 rfl, fT_.1 13 0 108 rfl, fr_arr (t := 184) (i := 0) fT_ rfl, fr_arr (t := 187) (i := 0) fT_ rfl]
                  exact hiw_
                · exact hok_
                · have fT_ : ai_fr (sx_W w118) S_ ((sm_aI (sm_aI Sx9_ 218 0 (2 * i_).toNat (-1)) 218 0 (2 * i_ + 1).toNat (-1))) := by
                    first
                    | (have y8_ := f142_; exact ai_fr_tr (ai_fr_tr (fr_le f142_ rfl) (ai_fr_aI rfl)) (ai_fr_aI rfl))
                    | exact ai_fr_tr (ai_fr_aI rfl) (ai_fr_aI rfl)
                  exact lgn_cg hl_ (fr_arr fT_ rfl) (fr_arr fT_ rfl) (fr_arr fT_ rfl)
                · have fT_ : ai_fr (sx_W w118) S_ ((sm_aI (sm_aI Sx9_ 218 0 (2 * i_).toNat (-1)) 218 0 (2 * i_ + 1).toNat (-1))) := by
                    first
                    | (have y8_ := f142_; exact ai_fr_tr (ai_fr_tr (fr_le f142_ rfl) (ai_fr_aI rfl)) (ai_fr_aI rfl))
                    | exact ai_fr_tr (ai_fr_aI rfl) (ai_fr_aI rfl)
                  intro n9_ u0_ u1_ u2_
                  rw [fr_arr (t := 202) (i := 0) fT_ rfl] at u2_
                  refine wok2_a (wok2_a ?_)
                  first
                  | (have y8_ := e142_; by_cases z9_ : n9_ = i_; (subst z9_; exact e142_.1); exact wok2_cg i142_ (hw_ n9_ u0_ (by omega) u2_) e142_.2 (by omega) (by omega) (fr_arr f142_ rfl) (f142_.1 13 0 106 rfl) (f142_.1 13 0 108 rfl) (fr_arr f142_ rfl) (fr_arr f142_ rfl))
                  | exact hw_ n9_ u0_ (by (have z9_ : n9_ ≠ i_ := fun z9_ => by (subst z9_; omega)); omega) u2_
                · intro G9_ n9_ u0_ u1_ u2_ u3_
                  (try simp only [rd_eq, rd_ne, rf_eq, rf_nk, rf_nt, rd_fa, rd_af, rd_fl, rd_al, rd_lf, rd_la, rd_leq, rd_lne, rd_fr, rd_ar, ne_eq, Nat.reduceEqDiff, not_false_eq_true] at *)
                  first
                  | (exfalso; omega)
                  | (have y8_ := e142_; have u4_ := u3_; rw [g202_] at u2_; rw [g203_] at u3_; by_cases z9_ : n9_ = i_; (subst z9_; omega); (rw [(e142_.2.2 (2 * n9_).toNat (by omega)).1]; exact hgr_ (by omega) n9_ u0_ (by omega) u2_ u3_))
                  | (have z9_ : n9_ ≠ i_ := fun z9_ => by (subst z9_; omega)
                     exact hgr_ G9_ n9_ u0_ (by omega) u2_ u3_)
                · intro j9_ u0_ u1_
                  (try simp only [rd_eq, rd_ne, rf_eq, rf_nk, rf_nt, rd_fa, rd_af, rd_fl, rd_al, rd_lf, rd_la, rd_leq, rd_lne, rd_fr, rd_ar, ne_eq, Nat.reduceEqDiff, not_false_eq_true])
                  split
                  · rfl
                  · split
                    · rfl
                    · first | (have y8_ := e142_; rw [g218_]; exact hn2_ j9_ u0_ (by omega)) | exact hn2_ j9_ u0_ (by omega)
                · have fB_ : ai_fr (sx_W ([], [218], [])) Sx9_ ((sm_aI (sm_aI Sx9_ 218 0 (2 * i_).toNat (-1)) 218 0 (2 * i_ + 1).toNat (-1))) := ai_fr_tr (ai_fr_aI rfl) (ai_fr_aI rfl)
                  intro x_ hx_ u1_
                  first
                  | (have y8_ := RN142_; have t9_ := (rcm_fr RC142_.1 fB_).2; rw [t9_, RC142_.2] at hx_; rw [t9_, RC142_.2]; exact rnw_fr (TR142_ x_ hx_) (RN142_ x_ hx_ (by omega)) i142_ fB_)
                  | (have t9_ := (rcm_fr hrc_ fB_).2; rw [t9_] at hx_; rw [t9_]; exact rnw_fr (hrc_.2 x_ hx_).1 (hrn_ x_ hx_ (by (have z9_ : (x_ : Int) ≠ i_ := fun z9_ => by (have y9_ := hx_.2.2; rw [show x_ = i_.toNat by omega] at y9_; omega)); omega)) hI_ fB_)
                · have fB_ : ai_fr (sx_W ([], [218], [])) Sx9_ ((sm_aI (sm_aI Sx9_ 218 0 (2 * i_).toNat (-1)) 218 0 (2 * i_ + 1).toNat (-1))) := ai_fr_tr (ai_fr_aI rfl) (ai_fr_aI rfl)
                  refine fun z9_ => ?_
                  first
                  | (exfalso; omega)
                  | (have y8_ := e142_; have t9_ := (rcm_fr RC142_.1 fB_).2; by_cases y9_ : gd_ = 0; (obtain ⟨x9_, a9_, b9_, c9_, k9_⟩ := hbd_ y9_; exact ⟨x9_, by (rw [t9_, RC142_.2]; exact a9_), by omega, by (rw [fr_arr (t := 203) (i := 0) fB_ rfl, g203_]; exact c9_), by (rw [fr_arr (t := 210) (i := 0) fB_ rfl, (e142_.2.2 (2 * x9_) (by omega)).1]; exact k9_)⟩); exact ⟨i_.toNat, by (rw [t9_, RC142_.2]; exact T142_), by omega, by (rw [fr_arr (t := 203) (i := 0) fB_ rfl]; omega), by (rw [fr_arr (t := 210) (i := 0) fB_ rfl, show 2 * i_.toNat = (2 * i_).toNat by omega]; omega)⟩)
                  | (obtain ⟨x9_, a9_, b9_, c9_, k9_⟩ := hbd_ (by omega); exact ⟨x9_, by (rw [(rcm_fr hrc_ fB_).2]; exact a9_), by omega, by (rw [fr_arr (t := 203) (i := 0) fB_ rfl]; exact c9_), by (rw [fr_arr (t := 210) (i := 0) fB_ rfl]; exact k9_)⟩)
                · have fB_ : ai_fr (sx_W ([], [218], [])) Sx9_ ((sm_aI (sm_aI Sx9_ 218 0 (2 * i_).toNat (-1)) 218 0 (2 * i_ + 1).toNat (-1))) := ai_fr_tr (ai_fr_aI rfl) (ai_fr_aI rfl)
                  rw [fB_.1 13 0 127 rfl, fr_arr (t := 213) (i := 0) fB_ rfl]
                  first | (have y8_ := d142_; exact ⟨⟨by omega, by omega⟩, d142_.2.2⟩) | exact ⟨⟨by omega, by omega⟩, hrd_.2⟩
                · omega
    · rintro c_ gd_ i_ S_ hI_ hF_ ⟨h0_, hd_, hlb_, hr_, hiv_, hk_, ht_, hrc_, hcd_, hiw_, hok_, hal_, hgd_, hra_, hbd_, hrd_, hn2_, hn3_, -⟩ hm_
      have d1_ := hd_.1
      have rd1_ := hrd_.1
      have f160_ : S_.2.2.1 160 0 (S_.1 13 0 105).toNat = F_ := by (rw [d1_.2.2.1]; exact d1_.2.2.2.1)
      have c156_ : 0 ≤ S_.2.2.1 156 0 a1_.toNat ∧ S_.2.2.1 156 0 a1_.toNat ≤ 16 := hI_.2 156 0 _
      have c155_ : 0 ≤ S_.2.2.1 155 0 a1_.toNat ∧ S_.2.2.1 155 0 a1_.toNat ≤ 6 := hI_.2 155 0 _
      have c134_ : 0 ≤ S_.1 13 0 134 ∧ S_.1 13 0 134 ≤ 1 := hI_.1 13 0 134 rfl
      have c106_ : 0 ≤ S_.1 13 0 106 ∧ S_.1 13 0 106 ≤ 2 := hI_.1 13 0 106 rfl
      refine sm_T_go 4 (c1 := (220, [some (.inr (.inr (some (13, 0)))), some (.inl a1_), some (.inl a2_), some (.inl c_), some (.inl gd_), some (.inl i_)], [.inl a1_, .inr (.inr (some (159, 0))), .inl i_], S_)) rfl ?_
      refine sm_T_iald (n := 6) rfl rfl (by omega) (by omega) ?_
      have bx1_ : 0 ≤ S_.2.2.1 159 0 a1_.toNat ∧ S_.2.2.1 159 0 a1_.toNat ≤ 1013 := hI_.2 159 0 _
      refine sm_T_br (a := 3) (z := 17) rfl (fun cx2_ => ?_) (fun cx2_ => ?_)
      · have cx2_ : (S_.2.2.1 159 0 a1_.toNat) ≤ i_ := of_decide_eq_true cx2_
        have hIx3_ : gi (sm_pI S_ 13 0 129 0) := gi_pI hI_ (show 0 ≤ 0 ∧ 0 ≤ 8191 from ⟨by omega, by omega⟩)
        have hFx4_ : ai_fr (sx_W vw_419n) S0_ (sm_pI S_ 13 0 129 0) := ai_fr_tr hF_ (ai_fr_pI rfl)
        have hIx5_ : gi (sm_pI (sm_pI S_ 13 0 129 0) 13 0 134 0) := gi_pI hIx3_ (show 0 ≤ 0 ∧ 0 ≤ 1 from ⟨by omega, by omega⟩)
        have hFx6_ : ai_fr (sx_W vw_419n) S0_ (sm_pI (sm_pI S_ 13 0 129 0) 13 0 134 0) := ai_fr_tr hFx4_ (ai_fr_pI rfl)
        refine sm_T_go 8 (c1 := (251, [some (.inr (.inr (some (13, 0)))), some (.inl a1_), some (.inl a2_), some (.inl c_), some (.inl gd_), some (.inl 0)], [], sm_pI (sm_pI S_ 13 0 129 0) 13 0 134 0)) rfl ?_
        refine ih_.2.2.1 c_ gd_ 0 (sm_pI (sm_pI S_ 13 0 129 0) 13 0 134 0) hIx5_ hFx6_ ⟨?_, ?_, ?_, ?_, ?_, ?_, ?_, ?_, ?_, ?_, ?_, ?_, ?_, ?_, ?_, ?_, ?_, ?_, ?_, trivial⟩ ?_
        · have fT_ : ai_fr (sx_W ([(13, 129), (13, 134)], [], [])) S_ ((sm_pI (sm_pI S_ 13 0 129 0) 13 0 134 0)) := ai_fr_tr (ai_fr_pI rfl) (ai_fr_pI rfl)
          rw [fr_arr (t := 156) (i := 0) fT_ rfl]
          omega
        · have fT_ : ai_fr (sx_W ([(13, 129), (13, 134)], [], [])) S_ ((sm_pI (sm_pI S_ 13 0 129 0) 13 0 134 0)) := ai_fr_tr (ai_fr_pI rfl) (ai_fr_pI rfl)
          exact dmp_fr hd_ fT_
        · have fT_ : ai_fr (sx_W ([(13, 129), (13, 134)], [], [])) S_ ((sm_pI (sm_pI S_ 13 0 129 0) 13 0 134 0)) := ai_fr_tr (ai_fr_pI rfl) (ai_fr_pI rfl)
          rw [fT_.1 13 0 106 rfl]
          exact hlb_
        · have fT_ : ai_fr (sx_W ([(13, 129), (13, 134)], [], [])) S_ ((sm_pI (sm_pI S_ 13 0 129 0) 13 0 134 0)) := ai_fr_tr (ai_fr_pI rfl) (ai_fr_pI rfl)
          exact rtd_fr hr_ fT_
        · have fT_ : ai_fr (sx_W ([(13, 129), (13, 134)], [], [])) S_ ((sm_pI (sm_pI S_ 13 0 129 0) 13 0 134 0)) := ai_fr_tr (ai_fr_pI rfl) (ai_fr_pI rfl)
          rw [fT_.1 13 0 107 rfl, fT_.1 13 0 106 rfl, fr_arr (t := 185) (i := 0) fT_ rfl]
          exact hiv_
        · have fT_ : ai_fr (sx_W ([(13, 129), (13, 134)], [], [])) S_ ((sm_pI (sm_pI S_ 13 0 129 0) 13 0 134 0)) := ai_fr_tr (ai_fr_pI rfl) (ai_fr_pI rfl)
          exact rcf_tr hk_ (rcf_fr fT_ rfl)
        · have fT_ : ai_fr (sx_W ([(13, 129), (13, 134)], [], [])) S_ ((sm_pI (sm_pI S_ 13 0 129 0) 13 0 134 0)) := ai_fr_tr (ai_fr_pI rfl) (ai_fr_pI rfl)
          rw [fr_arr (t := 222) (i := 0) fT_ rfl]
          exact ht_
        · have fT_ : ai_fr (sx_W ([(13, 129), (13, 134)], [], [])) S_ ((sm_pI (sm_pI S_ 13 0 129 0) 13 0 134 0)) := ai_fr_tr (ai_fr_pI rfl) (ai_fr_pI rfl)
          exact (rcm_fr hrc_ fT_).1
        · have fT_ : ai_fr (sx_W ([(13, 129), (13, 134)], [], [])) S_ ((sm_pI (sm_pI S_ 13 0 129 0) 13 0 134 0)) := ai_fr_tr (ai_fr_pI rfl) (ai_fr_pI rfl)
          exact (fT_.1 13 0 0 rfl).trans hcd_
        · have fT_ : ai_fr (sx_W ([(13, 129), (13, 134)], [], [])) S_ ((sm_pI (sm_pI S_ 13 0 129 0) 13 0 134 0)) := ai_fr_tr (ai_fr_pI rfl) (ai_fr_pI rfl)
          rw [rfv_cg (fr_arr (t := 185) (i := 0) fT_ rfl) (fr_arr (t := 186) (i := 0) fT_ rfl) (fr_arr (t := 187) (i := 0) fT_ rfl), fT_.1 13 0 107 rfl, fT_.1 13 0 108 rfl, fr_arr (t := 184) (i := 0) fT_ rfl, fr_arr (t := 187) (i := 0) fT_ rfl]
          exact hiw_
        · exact hok_
        · have fT_ : ai_fr (sx_W ([(13, 129), (13, 134)], [], [])) S_ ((sm_pI (sm_pI S_ 13 0 129 0) 13 0 134 0)) := ai_fr_tr (ai_fr_pI rfl) (ai_fr_pI rfl)
          exact wal9_cg hal_ (fr_arr fT_ rfl) (fr_arr fT_ rfl) (fr_arr fT_ rfl) (fr_arr fT_ rfl) (fr_arr fT_ rfl) (fr_arr fT_ rfl) (fr_arr fT_ rfl) (fr_arr fT_ rfl) (fr_arr fT_ rfl) (fT_.1 13 0 106 rfl) (fT_.1 13 0 108 rfl)
        · have fT_ : ai_fr (sx_W ([(13, 129), (13, 134)], [], [])) S_ ((sm_pI (sm_pI S_ 13 0 129 0) 13 0 134 0)) := ai_fr_tr (ai_fr_pI rfl) (ai_fr_pI rfl)
          exact fun G9_ => gdr_cg (hgd_ G9_) (fr_arr fT_ rfl) (fr_arr fT_ rfl) (fr_arr fT_ rfl)
        · have fT_ : ai_fr (sx_W ([(13, 129), (13, 134)], [], [])) S_ ((sm_pI (sm_pI S_ 13 0 129 0) 13 0 134 0)) := ai_fr_tr (ai_fr_pI rfl) (ai_fr_pI rfl)
          intro x_ hx_
          have t9_ := (rcm_fr hrc_ fT_).2
          rw [t9_] at hx_ ⊢
          exact rnw_fr (hrc_.2 x_ hx_).1 (hra_ x_ hx_) hI_ fT_
        · have fT_ : ai_fr (sx_W ([(13, 129), (13, 134)], [], [])) S_ ((sm_pI (sm_pI S_ 13 0 129 0) 13 0 134 0)) := ai_fr_tr (ai_fr_pI rfl) (ai_fr_pI rfl)
          refine fun z9_ => ?_
          obtain ⟨x9_, a9_, c9_, d9_⟩ := hbd_ z9_
          exact ⟨x9_, by (rw [(rcm_fr hrc_ fT_).2]; exact a9_), by (rw [fr_arr (t := 203) (i := 0) fT_ rfl]; exact c9_), by (rw [fr_arr (t := 210) (i := 0) fT_ rfl]; exact d9_)⟩
        · have fT_ : ai_fr (sx_W ([(13, 129), (13, 134)], [], [])) S_ ((sm_pI (sm_pI S_ 13 0 129 0) 13 0 134 0)) := ai_fr_tr (ai_fr_pI rfl) (ai_fr_pI rfl)
          rw [fT_.1 13 0 127 rfl, fr_arr (t := 213) (i := 0) fT_ rfl]
          exact hrd_
        · exact gst_0 (by omega) (by (try simp only [rd_eq, rd_ne, rf_eq, rf_nk, rf_nt, rd_fa, rd_af, rd_fl, rd_al, rd_lf, rd_la, rd_leq, rd_lne, rd_fr, rd_ar, ne_eq, Nat.reduceEqDiff, not_false_eq_true])) hn2_ (fun j9_ u0_ u1_ => hn3_ j9_ u0_ (by omega))
        · (intro G9_ k9_ u0_ u1_; exfalso; omega)
        · exact fun _ => rqz_0 (by omega) (by (try simp only [rd_eq, rd_ne, rf_eq, rf_nk, rf_nt, rd_fa, rd_af, rd_fl, rd_al, rd_lf, rd_la, rd_leq, rd_lne, rd_fr, rd_ar, ne_eq, Nat.reduceEqDiff, not_false_eq_true])) (by (try simp only [rd_eq, rd_ne, rf_eq, rf_nk, rf_nt, rd_fa, rd_af, rd_fl, rd_al, rd_lf, rd_la, rd_leq, rd_lne, rd_fr, rd_ar, ne_eq, Nat.reduceEqDiff, not_false_eq_true])) hn2_ (fun j9_ u0_ u1_ => hn3_ j9_ u0_ (by omega))
        · omega
      · have cx2_ : ¬ ((S_.2.2.1 159 0 a1_.toNat) ≤ i_) := of_decide_eq_false cx2_
        refine sm_T_go 4 (c1 := (231, [some (.inr (.inr (some (13, 0)))), some (.inl a1_), some (.inl a2_), some (.inl c_), some (.inl gd_), some (.inl i_)], [.inl (-1), .inl i_, .inr (.inr (some (219, 0)))], S_)) rfl ?_
        refine sm_T_iast (n := 2048) rfl rfl (by omega) (by omega) ?_
        have hIx7_ : gi (sm_aI S_ 219 0 i_.toNat (-1)) := gi_aI hI_ (show (-2) ≤ (-1) ∧ (-1) ≤ 9000 from ⟨by omega, by omega⟩)
        have hFx8_ : ai_fr (sx_W vw_419n) S0_ (sm_aI S_ 219 0 i_.toNat (-1)) := ai_fr_tr hF_ (ai_fr_aI rfl)
        refine sm_T_inc (a := 5) (z := 1) (v := i_) (w := i_ + 1) rfl rfl (by omega) (by omega) (by omega) ?_ -- pc_ 232
        refine sm_T_go 1 (c1 := (213, [some (.inr (.inr (some (13, 0)))), some (.inl a1_), some (.inl a2_), some (.inl c_), some (.inl gd_), some (.inl (i_ + 1))], [], sm_aI S_ 219 0 i_.toNat (-1))) rfl ?_
        refine ih_.2.1 c_ gd_ (i_ + 1) (sm_aI S_ 219 0 i_.toNat (-1)) hIx7_ hFx8_ ⟨?_, ?_, ?_, ?_, ?_, ?_, ?_, ?_, ?_, ?_, ?_, ?_, ?_, ?_, ?_, ?_, ?_, ?_, trivial⟩ ?_
        · omega
        · have fT_ : ai_fr (sx_W ([], [219], [])) S_ ((sm_aI S_ 219 0 i_.toNat (-1))) := ai_fr_aI rfl
          exact dmp_fr hd_ fT_
        · have fT_ : ai_fr (sx_W ([], [219], [])) S_ ((sm_aI S_ 219 0 i_.toNat (-1))) := ai_fr_aI rfl
          rw [fT_.1 13 0 106 rfl]
          exact hlb_
        · have fT_ : ai_fr (sx_W ([], [219], [])) S_ ((sm_aI S_ 219 0 i_.toNat (-1))) := ai_fr_aI rfl
          exact rtd_fr hr_ fT_
        · have fT_ : ai_fr (sx_W ([], [219], [])) S_ ((sm_aI S_ 219 0 i_.toNat (-1))) := ai_fr_aI rfl
          rw [fT_.1 13 0 107 rfl, fT_.1 13 0 106 rfl, fr_arr (t := 185) (i := 0) fT_ rfl]
          exact hiv_
        · have fT_ : ai_fr (sx_W ([], [219], [])) S_ ((sm_aI S_ 219 0 i_.toNat (-1))) := ai_fr_aI rfl
          exact rcf_tr hk_ (rcf_fr fT_ rfl)
        · have fT_ : ai_fr (sx_W ([], [219], [])) S_ ((sm_aI S_ 219 0 i_.toNat (-1))) := ai_fr_aI rfl
          rw [fr_arr (t := 222) (i := 0) fT_ rfl]
          exact ht_
        · have fT_ : ai_fr (sx_W ([], [219], [])) S_ ((sm_aI S_ 219 0 i_.toNat (-1))) := ai_fr_aI rfl
          exact (rcm_fr hrc_ fT_).1
        · have fT_ : ai_fr (sx_W ([], [219], [])) S_ ((sm_aI S_ 219 0 i_.toNat (-1))) := ai_fr_aI rfl
          exact (fT_.1 13 0 0 rfl).trans hcd_
        · have fT_ : ai_fr (sx_W ([], [219], [])) S_ ((sm_aI S_ 219 0 i_.toNat (-1))) := ai_fr_aI rfl
          rw [rfv_cg (fr_arr (t := 185) (i := 0) fT_ rfl) (fr_arr (t := 186) (i := 0) fT_ rfl) (fr_arr (t := 187) (i := 0) fT_ rfl), fT_.1 13 0 107 rfl, fT_.1 13 0 108 rfl, fr_arr (t := 184) (i := 0) fT_ rfl, fr_arr (t := 187) (i := 0) fT_ rfl]
          exact hiw_
        · exact hok_
        · have fT_ : ai_fr (sx_W ([], [219], [])) S_ ((sm_aI S_ 219 0 i_.toNat (-1))) := ai_fr_aI rfl
          exact wal9_cg hal_ (fr_arr fT_ rfl) (fr_arr fT_ rfl) (fr_arr fT_ rfl) (fr_arr fT_ rfl) (fr_arr fT_ rfl) (fr_arr fT_ rfl) (fr_arr fT_ rfl) (fr_arr fT_ rfl) (fr_arr fT_ rfl) (fT_.1 13 0 106 rfl) (fT_.1 13 0 108 rfl)
        · have fT_ : ai_fr (sx_W ([], [219], [])) S_ ((sm_aI S_ 219 0 i_.toNat (-1))) := ai_fr_aI rfl
          exact fun G9_ => gdr_cg (hgd_ G9_) (fr_arr fT_ rfl) (fr_arr fT_ rfl) (fr_arr fT_ rfl)
        · have fT_ : ai_fr (sx_W ([], [219], [])) S_ ((sm_aI S_ 219 0 i_.toNat (-1))) := ai_fr_aI rfl
          intro x_ hx_
          have t9_ := (rcm_fr hrc_ fT_).2
          rw [t9_] at hx_ ⊢
          exact rnw_fr (hrc_.2 x_ hx_).1 (hra_ x_ hx_) hI_ fT_
        · have fT_ : ai_fr (sx_W ([], [219], [])) S_ ((sm_aI S_ 219 0 i_.toNat (-1))) := ai_fr_aI rfl
          refine fun z9_ => ?_
          obtain ⟨x9_, a9_, c9_, d9_⟩ := hbd_ z9_
          exact ⟨x9_, by (rw [(rcm_fr hrc_ fT_).2]; exact a9_), by (rw [fr_arr (t := 203) (i := 0) fT_ rfl]; exact c9_), by (rw [fr_arr (t := 210) (i := 0) fT_ rfl]; exact d9_)⟩
        · have fT_ : ai_fr (sx_W ([], [219], [])) S_ ((sm_aI S_ 219 0 i_.toNat (-1))) := ai_fr_aI rfl
          rw [fT_.1 13 0 127 rfl, fr_arr (t := 213) (i := 0) fT_ rfl]
          exact hrd_
        · have fT_ : ai_fr (sx_W ([], [219], [])) S_ ((sm_aI S_ 219 0 i_.toNat (-1))) := ai_fr_aI rfl
          rw [fr_arr (t := 218) (i := 0) fT_ rfl]
          exact hn2_
        · intro j9_ u0_ u1_
          (try simp only [rd_eq, rd_ne, rf_eq, rf_nk, rf_nt, rd_fa, rd_af, rd_fl, rd_al, rd_lf, rd_la, rd_leq, rd_lne, rd_fr, rd_ar, ne_eq, Nat.reduceEqDiff, not_false_eq_true])
          split
          · rfl
          · exact hn3_ j9_ u0_ (by omega)
        · omega
    · rintro c_ gd_ i_ S_ hI_ hF_ ⟨h0_, hd_, hlb_, hr_, hiv_, hk_, ht_, hrc_, hcd_, hiw_, hok_, hal_, hgd_, hra_, hbd_, hrd_, hgs_, ho_, hq_, -⟩ hm_
      have d1_ := hd_.1
      have rd1_ := hrd_.1
      have f160_ : S_.2.2.1 160 0 (S_.1 13 0 105).toNat = F_ := by (rw [d1_.2.2.1]; exact d1_.2.2.2.1)
      have c156_ : 0 ≤ S_.2.2.1 156 0 a1_.toNat ∧ S_.2.2.1 156 0 a1_.toNat ≤ 16 := hI_.2 156 0 _
      have c155_ : 0 ≤ S_.2.2.1 155 0 a1_.toNat ∧ S_.2.2.1 155 0 a1_.toNat ≤ 6 := hI_.2 155 0 _
      have c134_ : 0 ≤ S_.1 13 0 134 ∧ S_.1 13 0 134 ≤ 1 := hI_.1 13 0 134 rfl
      have c106_ : 0 ≤ S_.1 13 0 106 ∧ S_.1 13 0 106 ≤ 2 := hI_.1 13 0 106 rfl
      refine sm_T_go 4 (c1 := (258, [some (.inr (.inr (some (13, 0)))), some (.inl a1_), some (.inl a2_), some (.inl c_), some (.inl gd_), some (.inl i_)], [.inl a1_, .inr (.inr (some (156, 0))), .inl i_], S_)) rfl ?_
      refine sm_T_iald (n := 6) rfl rfl (by omega) (by omega) ?_
      have bx1_ : 0 ≤ S_.2.2.1 156 0 a1_.toNat ∧ S_.2.2.1 156 0 a1_.toNat ≤ 16 := hI_.2 156 0 _
      refine sm_T_br (a := 3) (z := 42) rfl (fun cx2_ => ?_) (fun cx2_ => ?_)
      · have cx2_ : (S_.2.2.1 156 0 a1_.toNat) ≤ i_ := of_decide_eq_true cx2_
        refine sm_T_go 2 (c1 := (304, [some (.inr (.inr (some (13, 0)))), some (.inl a1_), some (.inl a2_), some (.inl c_), some (.inl gd_), some (.inl 0)], [], S_)) rfl ?_
        refine ih_.2.2.2 c_ gd_ 0 S_ hI_ hF_ ⟨?_, ?_, ?_, ?_, ?_, ?_, ?_, ?_, ?_, ?_, ?_, ?_, ?_, ?_, ?_, ?_, ?_, ?_, ?_, ?_, trivial⟩ ?_
        · omega
        · exact hd_
        · exact hlb_
        · exact hr_
        · exact hiv_
        · exact hk_
        · exact ht_
        · exact hrc_
        · exact hcd_
        · exact hiw_
        · exact hok_
        · exact hal_
        · exact hgd_
        · exact hra_
        · exact hbd_
        · exact hrd_
        · exact hgs_
        · (intro G9_ k9_ u0_ u1_; first | (exfalso; omega) | exact ho_ G9_ k9_ u0_ (by omega))
        · (intro G9_ k9_ u0_ u1_; exfalso; omega)
        · refine fun G9_ => ?_
          first
          | (exfalso; omega)
          | (rw [show (S_.2.2.1 156 0 a1_.toNat).toNat + (0 : Int).toNat = i_.toNat by omega]; exact hq_ G9_)
        · omega
      · have cx2_ : ¬ ((S_.2.2.1 156 0 a1_.toNat) ≤ i_) := of_decide_eq_false cx2_
        refine sm_T_go 1 (c1 := (264, [some (.inr (.inr (some (13, 0)))), some (.inl a1_), some (.inl a2_), some (.inl c_), some (.inl gd_), some (.inl i_)], [.inl gd_], S_)) rfl ?_
        refine sm_T_b0 (a := 0) (z := 37) rfl (fun cx3_ => ?_) (fun cx3_ => ?_)
        · have cx3_ : gd_ = 0 := of_decide_eq_true cx3_
          refine sm_T_go 2 (c1 := (304, [some (.inr (.inr (some (13, 0)))), some (.inl a1_), some (.inl a2_), some (.inl c_), some (.inl gd_), some (.inl 0)], [], S_)) rfl ?_
          refine ih_.2.2.2 c_ gd_ 0 S_ hI_ hF_ ⟨?_, ?_, ?_, ?_, ?_, ?_, ?_, ?_, ?_, ?_, ?_, ?_, ?_, ?_, ?_, ?_, ?_, ?_, ?_, ?_, trivial⟩ ?_
          · omega
          · exact hd_
          · exact hlb_
          · exact hr_
          · exact hiv_
          · exact hk_
          · exact ht_
          · exact hrc_
          · exact hcd_
          · exact hiw_
          · exact hok_
          · exact hal_
          · exact hgd_
          · exact hra_
          · exact hbd_
          · exact hrd_
          · exact hgs_
          · (intro G9_ k9_ u0_ u1_; first | (exfalso; omega) | exact ho_ G9_ k9_ u0_ (by omega))
          · (intro G9_ k9_ u0_ u1_; exfalso; omega)
          · refine fun G9_ => ?_
            first
            | (exfalso; omega)
            | (rw [show (S_.2.2.1 156 0 a1_.toNat).toNat + (0 : Int).toNat = i_.toNat by omega]; exact hq_ G9_)
          · omega
        · have cx3_ : ¬ (gd_ = 0) := of_decide_eq_false cx3_
          obtain ⟨M9_, g9_, rm9_, z9x, l9x, x9x, n9x⟩ := hq_ (by omega)
          refine sm_T_go 4 (c1 := (274, [some (.inr (.inr (some (13, 0)))), some (.inl a1_), some (.inl a2_), some (.inl c_), some (.inl gd_), some (.inl i_)], [.inl c_, .inl 16, .inr (.inr (some (231, 0)))], S_)) rfl ?_
          refine sm_T_bin (w := 16 * c_) rfl (bi_mul (by omega) (by omega) (by omega)) ?_ -- pc_ 274
          refine sm_T_go 1 (c1 := (277, [some (.inr (.inr (some (13, 0)))), some (.inl a1_), some (.inl a2_), some (.inl c_), some (.inl gd_), some (.inl i_)], [.inl i_, .inl (16 * c_), .inr (.inr (some (231, 0)))], S_)) rfl ?_
          refine sm_T_bin (w := 16 * c_ + i_) rfl (bi_add (by omega) (by omega) (by omega)) ?_ -- pc_ 277
          refine sm_T_go 5 (c1 := (286, [some (.inr (.inr (some (13, 0)))), some (.inl a1_), some (.inl a2_), some (.inl c_), some (.inl gd_), some (.inl i_)], [.inl a1_, .inl 16, .inr (.inr (some (167, 0))), .inr (.inr (some (13, 0))), .inl (16 * c_ + i_), .inr (.inr (some (231, 0)))], S_)) rfl ?_
          refine sm_T_bin (w := 16 * a1_) rfl (bi_mul (by omega) (by omega) (by omega)) ?_ -- pc_ 286
          refine sm_T_go 1 (c1 := (289, [some (.inr (.inr (some (13, 0)))), some (.inl a1_), some (.inl a2_), some (.inl c_), some (.inl gd_), some (.inl i_)], [.inl i_, .inl (16 * a1_), .inr (.inr (some (167, 0))), .inr (.inr (some (13, 0))), .inl (16 * c_ + i_), .inr (.inr (some (231, 0)))], S_)) rfl ?_
          refine sm_T_bin (w := 16 * a1_ + i_) rfl (bi_add (by omega) (by omega) (by omega)) ?_ -- pc_ 289
          refine sm_T_iald (n := 96) rfl rfl (by omega) (by omega) ?_
          have bx4_ : 0 ≤ S_.2.2.1 167 0 (16 * a1_ + i_).toNat ∧ S_.2.2.1 167 0 (16 * a1_ + i_).toNat ≤ 2047 := hI_.2 167 0 _
          refine sm_T_cal (d1 := 4) (Q1 := vq_418n (S_.2.2.1 167 0 (16 * a1_ + i_).toNat) F_ N_ a1_ g9_ S_) rfl rfl (by decide) (vc_418n (S_.2.2.1 167 0 (16 * a1_ + i_).toNat) F_ N_ a1_ g9_ S_ hI_ (by exact hd_) (by exact hal_) (by exact hgd_ (by omega)) (by exact hiv_) (by exact hgs_) (by exact z9x) (by exact l9x) (by exact (dmp_l hd_ (k_ := i_)).1 (by omega) (by omega)) (by exact hr_.1 i_ (by omega) (by omega))) (fun u_ Sx5_ px8_ => ?_)
          obtain ⟨vx10_, rfl, hIx6_, hFx7_, px8_⟩ := px8_
          have hFx9_ : ai_fr (sx_W vw_419n) S0_ Sx5_ := ai_fr_tr hF_ (fr_le hFx7_ rfl)
          have e291_ := (px8_).1
          have X291_ := (px8_).2
          have l9l := (dmp_l hd_ (k_ := i_)).1 (by omega) (by omega)
          have L291_ := mqL_o (d_ := a1_) (S_ := S_) (i_ := i_) (l_ := S_.2.2.1 167 0 (16 * a1_ + i_).toNat) (by omega) (by omega) (by omega) rfl l9l.1
          have b291_ := mqL_b hd_ l9l.1 l9l.2
          rw [← L291_] at X291_ b291_
          have RQ291_ : ∀ nt9_ : Nat → Int, (∀ j_, j_ < i_.toNat → nt9_ j_ = ntc c_ (S_.2.2.1 156 0 a1_.toNat) S_ j_) → nt9_ i_.toNat = vx10_ → rqz F_ N_ a1_ (i_.toNat + 1) nt9_ Sx5_ := fun nt9_ e0_ e1_ => rqz_s ⟨M9_, g9_, rm9_, x9x, n9x, X291_⟩ hI_ hal_ (hgd_ (by omega)) (by omega) (by omega) (fun _ => ⟨by (rw [b291_.1]; exact b291_.2), by (rw [b291_.1]; exact hr_.1 i_ (by omega) (by omega))⟩) hFx7_ e0_ e1_
          have f291_ := hFx7_
          have g0_ := hgs_.1.1
          have g1_ := e291_.1.1
          refine sm_T_iast (n := 64) rfl rfl (by omega) (by omega) ?_
          have hIx11_ : gi (sm_aI Sx5_ 231 0 (16 * c_ + i_).toNat vx10_) := gi_aI hIx6_ (show (-2) ≤ vx10_ ∧ vx10_ ≤ 9000 from ⟨by omega, by omega⟩)
          have hFx12_ : ai_fr (sx_W vw_419n) S0_ (sm_aI Sx5_ 231 0 (16 * c_ + i_).toNat vx10_) := ai_fr_tr hFx9_ (ai_fr_aI rfl)
          refine sm_T_inc (a := 5) (z := 1) (v := i_) (w := i_ + 1) rfl rfl (by omega) (by omega) (by omega) ?_ -- pc_ 295
          refine sm_T_go 1 (c1 := (251, [some (.inr (.inr (some (13, 0)))), some (.inl a1_), some (.inl a2_), some (.inl c_), some (.inl gd_), some (.inl (i_ + 1))], [], sm_aI Sx5_ 231 0 (16 * c_ + i_).toNat vx10_)) rfl ?_
          refine ih_.2.2.1 c_ gd_ (i_ + 1) (sm_aI Sx5_ 231 0 (16 * c_ + i_).toNat vx10_) hIx11_ hFx12_ ⟨?_, ?_, ?_, ?_, ?_, ?_, ?_, ?_, ?_, ?_, ?_, ?_, ?_, ?_, ?_, ?_, ?_, ?_, ?_, trivial⟩ ?_
          · have fT_ : ai_fr (sx_W w251) S_ ((sm_aI Sx5_ 231 0 (16 * c_ + i_).toNat vx10_)) := ai_fr_tr (fr_le f291_ rfl) (ai_fr_aI rfl)
            rw [fr_arr (t := 156) (i := 0) fT_ rfl]
            omega
          · have fT_ : ai_fr (sx_W w251) S_ ((sm_aI Sx5_ 231 0 (16 * c_ + i_).toNat vx10_)) := ai_fr_tr (fr_le f291_ rfl) (ai_fr_aI rfl)
            exact dmp_fr hd_ fT_
          · have fT_ : ai_fr (sx_W w251) S_ ((sm_aI Sx5_ 231 0 (16 * c_ + i_).toNat vx10_)) := ai_fr_tr (fr_le f291_ rfl) (ai_fr_aI rfl)
            rw [fT_.1 13 0 106 rfl]
            exact hlb_
          · have fT_ : ai_fr (sx_W w251) S_ ((sm_aI Sx5_ 231 0 (16 * c_ + i_).toNat vx10_)) := ai_fr_tr (fr_le f291_ rfl) (ai_fr_aI rfl)
            exact rtd_fr hr_ fT_
          · have fT_ : ai_fr (sx_W w251) S_ ((sm_aI Sx5_ 231 0 (16 * c_ + i_).toNat vx10_)) := ai_fr_tr (fr_le f291_ rfl) (ai_fr_aI rfl)
            rw [fT_.1 13 0 107 rfl, fT_.1 13 0 106 rfl, fr_arr (t := 185) (i := 0) fT_ rfl]
            exact hiv_
          · have fT_ : ai_fr (sx_W w251) S_ ((sm_aI Sx5_ 231 0 (16 * c_ + i_).toNat vx10_)) := ai_fr_tr (fr_le f291_ rfl) (ai_fr_aI rfl)
            exact rcf_aI (rcf_tr hk_ (rcf_fr f291_ rfl)) (Or.inr ⟨by (rw [show rcs 231 = 16 from rfl]; omega), by (rw [show rcs 231 = 16 from rfl]; omega)⟩)
          · have fT_ : ai_fr (sx_W w251) S_ ((sm_aI Sx5_ 231 0 (16 * c_ + i_).toNat vx10_)) := ai_fr_tr (fr_le f291_ rfl) (ai_fr_aI rfl)
            rw [fr_arr (t := 222) (i := 0) fT_ rfl]
            exact ht_
          · have fT_ : ai_fr (sx_W w251) S_ ((sm_aI Sx5_ 231 0 (16 * c_ + i_).toNat vx10_)) := ai_fr_tr (fr_le f291_ rfl) (ai_fr_aI rfl)
            exact (rcm_fr hrc_ fT_).1
          · have fT_ : ai_fr (sx_W w251) S_ ((sm_aI Sx5_ 231 0 (16 * c_ + i_).toNat vx10_)) := ai_fr_tr (fr_le f291_ rfl) (ai_fr_aI rfl)
            exact (fT_.1 13 0 0 rfl).trans hcd_
          · have fT_ : ai_fr (sx_W w251) S_ ((sm_aI Sx5_ 231 0 (16 * c_ + i_).toNat vx10_)) := ai_fr_tr (fr_le f291_ rfl) (ai_fr_aI rfl)
            rw [rfv_cg (fr_arr (t := 185) (i := 0) fT_ rfl) (fr_arr (t := 186) (i := 0) fT_ rfl) (fr_arr (t := 187) (i := 0) fT_ rfl), fT_.1 13 0 107 rfl, fT_.1 13 0 108 rfl, fr_arr (t := 184) (i := 0) fT_ rfl, fr_arr (t := 187) (i := 0) fT_ rfl]
            exact hiw_
          · exact hok_
          · have fT_ : ai_fr (sx_W w251) S_ ((sm_aI Sx5_ 231 0 (16 * c_ + i_).toNat vx10_)) := ai_fr_tr (fr_le f291_ rfl) (ai_fr_aI rfl)
            exact wal9_cg hal_ (fr_arr fT_ rfl) (fr_arr fT_ rfl) (fr_arr fT_ rfl) (fr_arr fT_ rfl) (fr_arr fT_ rfl) (fr_arr fT_ rfl) (fr_arr fT_ rfl) (fr_arr fT_ rfl) (fr_arr fT_ rfl) (fT_.1 13 0 106 rfl) (fT_.1 13 0 108 rfl)
          · have fT_ : ai_fr (sx_W w251) S_ ((sm_aI Sx5_ 231 0 (16 * c_ + i_).toNat vx10_)) := ai_fr_tr (fr_le f291_ rfl) (ai_fr_aI rfl)
            exact fun G9_ => gdr_cg (hgd_ G9_) (fr_arr fT_ rfl) (fr_arr fT_ rfl) (fr_arr fT_ rfl)
          · have fT_ : ai_fr (sx_W w251) S_ ((sm_aI Sx5_ 231 0 (16 * c_ + i_).toNat vx10_)) := ai_fr_tr (fr_le f291_ rfl) (ai_fr_aI rfl)
            intro x_ hx_
            have t9_ := (rcm_fr hrc_ fT_).2
            rw [t9_] at hx_ ⊢
            exact rnw_fr (hrc_.2 x_ hx_).1 (hra_ x_ hx_) hI_ fT_
          · have fT_ : ai_fr (sx_W w251) S_ ((sm_aI Sx5_ 231 0 (16 * c_ + i_).toNat vx10_)) := ai_fr_tr (fr_le f291_ rfl) (ai_fr_aI rfl)
            refine fun z9_ => ?_
            obtain ⟨x9_, a9_, c9_, d9_⟩ := hbd_ z9_
            exact ⟨x9_, by (rw [(rcm_fr hrc_ fT_).2]; exact a9_), by (rw [fr_arr (t := 203) (i := 0) fT_ rfl]; exact c9_), by (rw [fr_arr (t := 210) (i := 0) fT_ rfl]; exact d9_)⟩
          · have fT_ : ai_fr (sx_W w251) S_ ((sm_aI Sx5_ 231 0 (16 * c_ + i_).toNat vx10_)) := ai_fr_tr (fr_le f291_ rfl) (ai_fr_aI rfl)
            rw [fT_.1 13 0 127 rfl, fr_arr (t := 213) (i := 0) fT_ rfl]
            exact hrd_
          · exact gst_a e291_.1 (Or.inl rfl)
          · intro G9_ k9_ u0_ u1_
            (try simp only [rd_eq, rd_ne, rf_eq, rf_nk, rf_nt, rd_fa, rd_af, rd_fl, rd_al, rd_lf, rd_la, rd_leq, rd_lne, rd_fr, rd_ar, ne_eq, Nat.reduceEqDiff, not_false_eq_true])
            by_cases z9_ : k9_ = i_
            · rw [z9_, if_pos rfl]; omega
            · rw [if_neg (by omega), fr_arr (t := 231) (i := 0) f291_ rfl]; have w9_ := ho_ G9_ k9_ u0_ (by omega); omega
          · have fT_ : ai_fr (sx_W w251) S_ ((sm_aI Sx5_ 231 0 (16 * c_ + i_).toNat vx10_)) := ai_fr_tr (fr_le f291_ rfl) (ai_fr_aI rfl)
            refine fun G9_ => ?_
            have fB_ : ai_fr (sx_W ([], [231], [])) Sx5_ ((sm_aI Sx5_ 231 0 (16 * c_ + i_).toNat vx10_)) := ai_fr_aI rfl
            rw [show (i_ + 1).toNat = i_.toNat + 1 by omega]
            refine rqz_fr (RQ291_ _ (fun j_ hj_ => ?_) ?_) fB_
            · unfold ntc
              rw [fr_arr (t := 156) (i := 0) fT_ rfl, if_pos (by omega), if_pos (by omega), rd_eq, if_neg (by omega), fr_arr (t := 231) (i := 0) f291_ rfl]
            · unfold ntc
              rw [fr_arr (t := 156) (i := 0) fT_ rfl, if_pos (by omega), rd_eq, if_pos (by omega)]
          · omega
    · rintro c_ gd_ i_ S_ hI_ hF_ ⟨h0_, hd_, hlb_, hr_, hiv_, hk_, ht_, hrc_, hcd_, hiw_, hok_, hal_, hgd_, hra_, hbd_, hrd_, hgs_, ho_, hp_, hq_, -⟩ hm_
      have d1_ := hd_.1
      have rd1_ := hrd_.1
      have f160_ : S_.2.2.1 160 0 (S_.1 13 0 105).toNat = F_ := by (rw [d1_.2.2.1]; exact d1_.2.2.2.1)
      have c156_ : 0 ≤ S_.2.2.1 156 0 a1_.toNat ∧ S_.2.2.1 156 0 a1_.toNat ≤ 16 := hI_.2 156 0 _
      have c155_ : 0 ≤ S_.2.2.1 155 0 a1_.toNat ∧ S_.2.2.1 155 0 a1_.toNat ≤ 6 := hI_.2 155 0 _
      have c134_ : 0 ≤ S_.1 13 0 134 ∧ S_.1 13 0 134 ≤ 1 := hI_.1 13 0 134 rfl
      have c106_ : 0 ≤ S_.1 13 0 106 ∧ S_.1 13 0 106 ≤ 2 := hI_.1 13 0 106 rfl
      refine sm_T_go 4 (c1 := (311, [some (.inr (.inr (some (13, 0)))), some (.inl a1_), some (.inl a2_), some (.inl c_), some (.inl gd_), some (.inl i_)], [.inl a1_, .inr (.inr (some (155, 0))), .inl i_], S_)) rfl ?_
      refine sm_T_iald (n := 6) rfl rfl (by omega) (by omega) ?_
      have bx1_ : 0 ≤ S_.2.2.1 155 0 a1_.toNat ∧ S_.2.2.1 155 0 a1_.toNat ≤ 6 := hI_.2 155 0 _
      refine sm_T_br (a := 3) (z := 42) rfl (fun cx2_ => ?_) (fun cx2_ => ?_)
      · have cx2_ : (S_.2.2.1 155 0 a1_.toNat) ≤ i_ := of_decide_eq_true cx2_
        refine sm_T_go 1 (c1 := (356, [some (.inr (.inr (some (13, 0)))), some (.inl a1_), some (.inl a2_), some (.inl c_), some (.inl gd_), some (.inl i_)], [.inl gd_], S_)) rfl ?_
        refine sm_T_b0 (a := 0) (z := 10) rfl (fun cx3_ => ?_) (fun cx3_ => ?_)
        · have cx3_ : gd_ = 0 := of_decide_eq_true cx3_
          refine sm_T_go 1 (c1 := (367, [some (.inr (.inr (some (13, 0)))), some (.inl a1_), some (.inl a2_), some (.inl c_), some (.inl gd_), some (.inl i_)], [.inl (-1)], S_)) rfl ?_
          refine sm_T_ri rfl ⟨_, _, rfl, _, rfl, hI_, hF_, ?_⟩
          refine ⟨⟨by omega, by omega⟩, jR_cf hJ_ hI_ hF_ rfl hk_ (fun z9_ => absurd z9_ (by omega)), ⟨rd1_, hrd_.2⟩, Or.inr (Or.inr ⟨hcd_, c_, hok_, ⟨hd_, hrc_, hra_, hal_, hr_⟩, ⟨hlb_, hiw_.1, hiw_.2⟩, ⟨hk_, fun _ => ht_⟩, ?_⟩)⟩
          first | exact Or.inl ⟨rfl, hbd_ (by omega)⟩ | exact Or.inr ⟨hgd_ (by omega), by (have z9_ := hq_ (by omega); rw [show (S_.2.2.1 156 0 a1_.toNat).toNat + i_.toNat = mqk a1_ S_ by (unfold mqk; omega)] at z9_; exact z9_), Or.inl ⟨rfl, by omega⟩⟩
        · have cx3_ : ¬ (gd_ = 0) := of_decide_eq_false cx3_
          have bx4_ : 0 ≤ S_.1 13 0 134 ∧ S_.1 13 0 134 ≤ 1 := hI_.1 13 0 134 rfl
          refine sm_T_go 2 (c1 := (363, [some (.inr (.inr (some (13, 0)))), some (.inl a1_), some (.inl a2_), some (.inl c_), some (.inl gd_), some (.inl i_)], [.inl (S_.1 13 0 134)], S_)) rfl ?_
          refine sm_T_b0 (a := 0) (z := 5) rfl (fun cx5_ => ?_) (fun cx5_ => ?_)
          · have cx5_ : (S_.1 13 0 134) = 0 := of_decide_eq_true cx5_
            have bx6_ : 0 ≤ S_.1 13 0 129 ∧ S_.1 13 0 129 ≤ 8191 := hI_.1 13 0 129 rfl
            refine sm_T_go 3 (c1 := (375, [some (.inr (.inr (some (13, 0)))), some (.inl a1_), some (.inl a2_), some (.inl c_), some (.inl gd_), some (.inl i_)], [.inl 150, .inl (S_.1 13 0 129)], S_)) rfl ?_
            refine sm_T_br (a := 5) (z := 6) rfl (fun cx7_ => ?_) (fun cx7_ => ?_)
            · have cx7_ : (S_.1 13 0 129) ≤ 150 := of_decide_eq_true cx7_
              refine sm_T_go 2 (c1 := (383, [some (.inr (.inr (some (13, 0)))), some (.inl a1_), some (.inl a2_), some (.inl c_), some (.inl gd_), some (.inl i_)], [.inl c_, .inr (.inr (some (13, 0)))], S_)) rfl ?_
              refine sm_T_cal (d1 := 1) (Q1 := vq_420n c_ F_ N_ a1_ S_) rfl rfl (by decide) (vc_420n c_ F_ N_ a1_ S_ hI_ (by exact hd_) (by omega) (by exact hgs_.2.2.2) (by omega) (by (have g0_ := hgs_.1.1; omega)) (by omega) (by exact ⟨ho_ (by omega), fun k9_ u0_ u1_ => hp_ (by omega) k9_ u0_ (by omega)⟩)) (fun u_ Sx8_ px11_ => ?_)
              obtain ⟨rfl, hIx9_, hFx10_, px11_⟩ := px11_
              have hFx12_ : ai_fr (sx_W vw_419n) S0_ Sx8_ := ai_fr_tr hF_ (fr_le hFx10_ rfl)
              obtain ⟨dx13_, px11_⟩ := px11_
              have ex14_ : Sx8_.1 13 0 129 = S_.1 13 0 129 := hFx10_.1 13 0 129 rfl
              have ex15_ : Sx8_.1 13 0 134 = S_.1 13 0 134 := hFx10_.1 13 0 134 rfl
              have e383_ := (px11_).1
              have K383_ := (px11_).2
              have f383_ := hFx10_
              have i383_ := hIx9_
              have k383_ := dx13_
              have RC383_ := rcm_fr hrc_ hFx10_
              have NT383_ : ∀ j_, j_ < mqk a1_ S_ → ntc c_ (Sx8_.2.2.1 156 0 a1_.toNat) Sx8_ j_ = ntc c_ (S_.2.2.1 156 0 a1_.toNat) S_ j_ := fun j_ _ => by (unfold ntc; rw [fr_arr (t := 156) (i := 0) hFx10_ rfl, K383_.2.2.2.2.2.2.1, K383_.2.2.2.2.2.2.2.1])
              refine sm_T_go 1 (c1 := (387, [some (.inr (.inr (some (13, 0)))), some (.inl a1_), some (.inl a2_), some (.inl c_), some (.inl gd_), some (.inl i_)], [.inl c_], Sx8_)) rfl ?_
              refine sm_T_ri rfl ⟨_, _, rfl, _, rfl, hIx9_, hFx12_, ?_⟩
              refine ⟨⟨by omega, by omega⟩, jR_cf hJ_ hIx9_ hFx12_ rfl (rcf_tr hk_ k383_) (fun z9_ => by (rw [show ((c_.toNat : Nat) : Int) = c_ by omega]; exact e383_)), ⟨?_, ?_⟩, Or.inr (Or.inr ⟨(f383_.1 13 0 0 rfl).trans hcd_, c_, hok_, ⟨dmp_fr hd_ f383_, RC383_.1, ?_, wal9_cg hal_ (fr_arr f383_ rfl) (fr_arr f383_ rfl) (fr_arr f383_ rfl) (fr_arr f383_ rfl) (fr_arr f383_ rfl) (fr_arr f383_ rfl) (fr_arr f383_ rfl) (fr_arr f383_ rfl) (fr_arr f383_ rfl) (f383_.1 13 0 106 rfl) (f383_.1 13 0 108 rfl), rtd_fr hr_ f383_⟩, ⟨(f383_.1 13 0 106 rfl).trans hlb_, ?_⟩, ⟨rcf_tr hk_ k383_, fun z9_ => absurd rfl z9_⟩, Or.inr ⟨gdr_cg (hgd_ (by omega)) (fr_arr f383_ rfl) (fr_arr f383_ rfl) (fr_arr f383_ rfl), ?_, Or.inr (Or.inr ⟨rfl, (f383_.1 13 0 134 rfl).trans (by omega), by (rw [f383_.1 13 0 129 rfl]; omega), kcp_fr K383_ f383_⟩)⟩⟩)⟩
              · rw [f383_.1 13 0 127 rfl]; exact rd1_
              · rw [f383_.1 13 0 127 rfl, fr_arr (t := 213) (i := 0) f383_ rfl]; exact hrd_.2
              · intro x_ hx_
                rw [RC383_.2] at hx_ ⊢
                exact rnw_fr (hrc_.2 x_ hx_).1 (hra_ x_ hx_) hI_ f383_
              · rw [rfv_cg (fr_arr (t := 185) (i := 0) f383_ rfl) (fr_arr (t := 186) (i := 0) f383_ rfl) (fr_arr (t := 187) (i := 0) f383_ rfl), f383_.1 13 0 107 rfl, f383_.1 13 0 108 rfl, fr_arr (t := 184) (i := 0) f383_ rfl, fr_arr (t := 187) (i := 0) f383_ rfl]
                exact hiw_
              · have q9_ := by (have z9_ := hq_ (by omega); rw [show (S_.2.2.1 156 0 a1_.toNat).toNat + i_.toNat = mqk a1_ S_ by (unfold mqk; omega)] at z9_; exact z9_)
                rw [show mqk a1_ Sx8_ = mqk a1_ S_ from (mq_fr f383_).2.2.2.1]
                exact rqz_nt (rqz_fr q9_ f383_) NT383_
            · have cx7_ : ¬ ((S_.1 13 0 129) ≤ 150) := of_decide_eq_false cx7_
              refine sm_T_go 1 (c1 := (380, [some (.inr (.inr (some (13, 0)))), some (.inl a1_), some (.inl a2_), some (.inl c_), some (.inl gd_), some (.inl i_)], [.inl (-2)], S_)) rfl ?_
              refine sm_T_ri rfl ⟨_, _, rfl, _, rfl, hI_, hF_, ?_⟩
              refine ⟨⟨by omega, by omega⟩, jR_cf hJ_ hI_ hF_ rfl hk_ (fun z9_ => absurd z9_ (by omega)), ⟨rd1_, hrd_.2⟩, Or.inr (Or.inr ⟨hcd_, c_, hok_, ⟨hd_, hrc_, hra_, hal_, hr_⟩, ⟨hlb_, hiw_.1, hiw_.2⟩, ⟨hk_, fun _ => ht_⟩, Or.inr ⟨hgd_ (by omega), by (have z9_ := hq_ (by omega); rw [show (S_.2.2.1 156 0 a1_.toNat).toNat + i_.toNat = mqk a1_ S_ by (unfold mqk; omega)] at z9_; exact z9_), Or.inr (Or.inl ⟨rfl, by omega, by omega⟩)⟩⟩)⟩
          · have cx5_ : ¬ ((S_.1 13 0 134) = 0) := of_decide_eq_false cx5_
            refine sm_T_go 1 (c1 := (367, [some (.inr (.inr (some (13, 0)))), some (.inl a1_), some (.inl a2_), some (.inl c_), some (.inl gd_), some (.inl i_)], [.inl (-1)], S_)) rfl ?_
            refine sm_T_ri rfl ⟨_, _, rfl, _, rfl, hI_, hF_, ?_⟩
            refine ⟨⟨by omega, by omega⟩, jR_cf hJ_ hI_ hF_ rfl hk_ (fun z9_ => absurd z9_ (by omega)), ⟨rd1_, hrd_.2⟩, Or.inr (Or.inr ⟨hcd_, c_, hok_, ⟨hd_, hrc_, hra_, hal_, hr_⟩, ⟨hlb_, hiw_.1, hiw_.2⟩, ⟨hk_, fun _ => ht_⟩, ?_⟩)⟩
            first | exact Or.inl ⟨rfl, hbd_ (by omega)⟩ | exact Or.inr ⟨hgd_ (by omega), by (have z9_ := hq_ (by omega); rw [show (S_.2.2.1 156 0 a1_.toNat).toNat + i_.toNat = mqk a1_ S_ by (unfold mqk; omega)] at z9_; exact z9_), Or.inl ⟨rfl, by omega⟩⟩
      · have cx2_ : ¬ ((S_.2.2.1 155 0 a1_.toNat) ≤ i_) := of_decide_eq_false cx2_
        refine sm_T_go 1 (c1 := (317, [some (.inr (.inr (some (13, 0)))), some (.inl a1_), some (.inl a2_), some (.inl c_), some (.inl gd_), some (.inl i_)], [.inl gd_], S_)) rfl ?_
        refine sm_T_b0 (a := 0) (z := 37) rfl (fun cx16_ => ?_) (fun cx16_ => ?_)
        · have cx16_ : gd_ = 0 := of_decide_eq_true cx16_
          refine sm_T_go 1 (c1 := (356, [some (.inr (.inr (some (13, 0)))), some (.inl a1_), some (.inl a2_), some (.inl c_), some (.inl gd_), some (.inl i_)], [.inl gd_], S_)) rfl ?_
          refine sm_T_b0 (a := 0) (z := 10) rfl (fun cx17_ => ?_) (fun cx17_ => ?_)
          · have cx17_ : gd_ = 0 := of_decide_eq_true cx17_
            refine sm_T_go 1 (c1 := (367, [some (.inr (.inr (some (13, 0)))), some (.inl a1_), some (.inl a2_), some (.inl c_), some (.inl gd_), some (.inl i_)], [.inl (-1)], S_)) rfl ?_
            refine sm_T_ri rfl ⟨_, _, rfl, _, rfl, hI_, hF_, ?_⟩
            refine ⟨⟨by omega, by omega⟩, jR_cf hJ_ hI_ hF_ rfl hk_ (fun z9_ => absurd z9_ (by omega)), ⟨rd1_, hrd_.2⟩, Or.inr (Or.inr ⟨hcd_, c_, hok_, ⟨hd_, hrc_, hra_, hal_, hr_⟩, ⟨hlb_, hiw_.1, hiw_.2⟩, ⟨hk_, fun _ => ht_⟩, ?_⟩)⟩
            first | exact Or.inl ⟨rfl, hbd_ (by omega)⟩ | exact Or.inr ⟨hgd_ (by omega), by (have z9_ := hq_ (by omega); rw [show (S_.2.2.1 156 0 a1_.toNat).toNat + i_.toNat = mqk a1_ S_ by (unfold mqk; omega)] at z9_; exact z9_), Or.inl ⟨rfl, by omega⟩⟩
          · have cx17_ : ¬ (gd_ = 0) := of_decide_eq_false cx17_
            exfalso; omega
        · have cx16_ : ¬ (gd_ = 0) := of_decide_eq_false cx16_
          obtain ⟨M9_, g9_, rm9_, z9x, l9x, x9x, n9x⟩ := hq_ (by omega)
          refine sm_T_go 4 (c1 := (327, [some (.inr (.inr (some (13, 0)))), some (.inl a1_), some (.inl a2_), some (.inl c_), some (.inl gd_), some (.inl i_)], [.inl c_, .inl 6, .inr (.inr (some (232, 0)))], S_)) rfl ?_
          refine sm_T_bin (w := 6 * c_) rfl (bi_mul (by omega) (by omega) (by omega)) ?_ -- pc_ 327
          refine sm_T_go 1 (c1 := (330, [some (.inr (.inr (some (13, 0)))), some (.inl a1_), some (.inl a2_), some (.inl c_), some (.inl gd_), some (.inl i_)], [.inl i_, .inl (6 * c_), .inr (.inr (some (232, 0)))], S_)) rfl ?_
          refine sm_T_bin (w := 6 * c_ + i_) rfl (bi_add (by omega) (by omega) (by omega)) ?_ -- pc_ 330
          refine sm_T_go 5 (c1 := (339, [some (.inr (.inr (some (13, 0)))), some (.inl a1_), some (.inl a2_), some (.inl c_), some (.inl gd_), some (.inl i_)], [.inl a1_, .inl 6, .inr (.inr (some (168, 0))), .inr (.inr (some (13, 0))), .inl (6 * c_ + i_), .inr (.inr (some (232, 0)))], S_)) rfl ?_
          refine sm_T_bin (w := 6 * a1_) rfl (bi_mul (by omega) (by omega) (by omega)) ?_ -- pc_ 339
          refine sm_T_go 1 (c1 := (342, [some (.inr (.inr (some (13, 0)))), some (.inl a1_), some (.inl a2_), some (.inl c_), some (.inl gd_), some (.inl i_)], [.inl i_, .inl (6 * a1_), .inr (.inr (some (168, 0))), .inr (.inr (some (13, 0))), .inl (6 * c_ + i_), .inr (.inr (some (232, 0)))], S_)) rfl ?_
          refine sm_T_bin (w := 6 * a1_ + i_) rfl (bi_add (by omega) (by omega) (by omega)) ?_ -- pc_ 342
          refine sm_T_iald (n := 36) rfl rfl (by omega) (by omega) ?_
          have bx18_ : 0 ≤ S_.2.2.1 168 0 (6 * a1_ + i_).toNat ∧ S_.2.2.1 168 0 (6 * a1_ + i_).toNat ≤ 2047 := hI_.2 168 0 _
          refine sm_T_cal (d1 := 4) (Q1 := vq_418n (S_.2.2.1 168 0 (6 * a1_ + i_).toNat) F_ N_ a1_ g9_ S_) rfl rfl (by decide) (vc_418n (S_.2.2.1 168 0 (6 * a1_ + i_).toNat) F_ N_ a1_ g9_ S_ hI_ (by exact hd_) (by exact hal_) (by exact hgd_ (by omega)) (by exact hiv_) (by exact hgs_) (by exact z9x) (by exact l9x) (by exact (dmp_l hd_ (k_ := i_)).2 (by omega) (by omega)) (by exact hr_.2 i_ (by omega) (by omega))) (fun u_ Sx19_ px22_ => ?_)
          obtain ⟨vx24_, rfl, hIx20_, hFx21_, px22_⟩ := px22_
          have hFx23_ : ai_fr (sx_W vw_419n) S0_ Sx19_ := ai_fr_tr hF_ (fr_le hFx21_ rfl)
          have e344_ := (px22_).1
          have X344_ := (px22_).2
          have l9l := (dmp_l hd_ (k_ := i_)).2 (by omega) (by omega)
          have L344_ := mqL_n (d_ := a1_) (S_ := S_) (i_ := i_) (l_ := S_.2.2.1 168 0 (6 * a1_ + i_).toNat) (by omega) (by omega) rfl l9l.1
          have b344_ := mqL_b hd_ l9l.1 l9l.2
          rw [← L344_] at X344_ b344_
          have RQ344_ : ∀ nt9_ : Nat → Int, (∀ j_, j_ < ((S_.2.2.1 156 0 a1_.toNat).toNat + i_.toNat) → nt9_ j_ = ntc c_ (S_.2.2.1 156 0 a1_.toNat) S_ j_) → nt9_ ((S_.2.2.1 156 0 a1_.toNat).toNat + i_.toNat) = vx24_ → rqz F_ N_ a1_ (((S_.2.2.1 156 0 a1_.toNat).toNat + i_.toNat) + 1) nt9_ Sx19_ := fun nt9_ e0_ e1_ => rqz_s ⟨M9_, g9_, rm9_, x9x, n9x, X344_⟩ hI_ hal_ (hgd_ (by omega)) (by omega) (by omega) (fun _ => ⟨by (rw [b344_.1]; exact b344_.2), by (rw [b344_.1]; exact hr_.2 i_ (by omega) (by omega))⟩) hFx21_ e0_ e1_
          have f344_ := hFx21_
          have g0_ := hgs_.1.1
          have g1_ := e344_.1.1
          refine sm_T_iast (n := 24) rfl rfl (by omega) (by omega) ?_
          have hIx25_ : gi (sm_aI Sx19_ 232 0 (6 * c_ + i_).toNat vx24_) := gi_aI hIx20_ (show (-2) ≤ vx24_ ∧ vx24_ ≤ 9000 from ⟨by omega, by omega⟩)
          have hFx26_ : ai_fr (sx_W vw_419n) S0_ (sm_aI Sx19_ 232 0 (6 * c_ + i_).toNat vx24_) := ai_fr_tr hFx23_ (ai_fr_aI rfl)
          refine sm_T_inc (a := 5) (z := 1) (v := i_) (w := i_ + 1) rfl rfl (by omega) (by omega) (by omega) ?_ -- pc_ 348
          refine sm_T_go 1 (c1 := (304, [some (.inr (.inr (some (13, 0)))), some (.inl a1_), some (.inl a2_), some (.inl c_), some (.inl gd_), some (.inl (i_ + 1))], [], sm_aI Sx19_ 232 0 (6 * c_ + i_).toNat vx24_)) rfl ?_
          refine ih_.2.2.2 c_ gd_ (i_ + 1) (sm_aI Sx19_ 232 0 (6 * c_ + i_).toNat vx24_) hIx25_ hFx26_ ⟨?_, ?_, ?_, ?_, ?_, ?_, ?_, ?_, ?_, ?_, ?_, ?_, ?_, ?_, ?_, ?_, ?_, ?_, ?_, ?_, trivial⟩ ?_
          · have fT_ : ai_fr (sx_W w304) S_ ((sm_aI Sx19_ 232 0 (6 * c_ + i_).toNat vx24_)) := ai_fr_tr (fr_le f344_ rfl) (ai_fr_aI rfl)
            rw [fr_arr (t := 155) (i := 0) fT_ rfl]
            omega
          · have fT_ : ai_fr (sx_W w304) S_ ((sm_aI Sx19_ 232 0 (6 * c_ + i_).toNat vx24_)) := ai_fr_tr (fr_le f344_ rfl) (ai_fr_aI rfl)
            exact dmp_fr hd_ fT_
          · have fT_ : ai_fr (sx_W w304) S_ ((sm_aI Sx19_ 232 0 (6 * c_ + i_).toNat vx24_)) := ai_fr_tr (fr_le f344_ rfl) (ai_fr_aI rfl)
            rw [fT_.1 13 0 106 rfl]
            exact hlb_
          · have fT_ : ai_fr (sx_W w304) S_ ((sm_aI Sx19_ 232 0 (6 * c_ + i_).toNat vx24_)) := ai_fr_tr (fr_le f344_ rfl) (ai_fr_aI rfl)
            exact rtd_fr hr_ fT_
          · have fT_ : ai_fr (sx_W w304) S_ ((sm_aI Sx19_ 232 0 (6 * c_ + i_).toNat vx24_)) := ai_fr_tr (fr_le f344_ rfl) (ai_fr_aI rfl)
            rw [fT_.1 13 0 107 rfl, fT_.1 13 0 106 rfl, fr_arr (t := 185) (i := 0) fT_ rfl]
            exact hiv_
          · have fT_ : ai_fr (sx_W w304) S_ ((sm_aI Sx19_ 232 0 (6 * c_ + i_).toNat vx24_)) := ai_fr_tr (fr_le f344_ rfl) (ai_fr_aI rfl)
            exact rcf_aI (rcf_tr hk_ (rcf_fr f344_ rfl)) (Or.inr ⟨by (rw [show rcs 232 = 6 from rfl]; omega), by (rw [show rcs 232 = 6 from rfl]; omega)⟩)
          · have fT_ : ai_fr (sx_W w304) S_ ((sm_aI Sx19_ 232 0 (6 * c_ + i_).toNat vx24_)) := ai_fr_tr (fr_le f344_ rfl) (ai_fr_aI rfl)
            rw [fr_arr (t := 222) (i := 0) fT_ rfl]
            exact ht_
          · have fT_ : ai_fr (sx_W w304) S_ ((sm_aI Sx19_ 232 0 (6 * c_ + i_).toNat vx24_)) := ai_fr_tr (fr_le f344_ rfl) (ai_fr_aI rfl)
            exact (rcm_fr hrc_ fT_).1
          · have fT_ : ai_fr (sx_W w304) S_ ((sm_aI Sx19_ 232 0 (6 * c_ + i_).toNat vx24_)) := ai_fr_tr (fr_le f344_ rfl) (ai_fr_aI rfl)
            exact (fT_.1 13 0 0 rfl).trans hcd_
          · have fT_ : ai_fr (sx_W w304) S_ ((sm_aI Sx19_ 232 0 (6 * c_ + i_).toNat vx24_)) := ai_fr_tr (fr_le f344_ rfl) (ai_fr_aI rfl)
            rw [rfv_cg (fr_arr (t := 185) (i := 0) fT_ rfl) (fr_arr (t := 186) (i := 0) fT_ rfl) (fr_arr (t := 187) (i := 0) fT_ rfl), fT_.1 13 0 107 rfl, fT_.1 13 0 108 rfl, fr_arr (t := 184) (i := 0) fT_ rfl, fr_arr (t := 187) (i := 0) fT_ rfl]
            exact hiw_
          · exact hok_
          · have fT_ : ai_fr (sx_W w304) S_ ((sm_aI Sx19_ 232 0 (6 * c_ + i_).toNat vx24_)) := ai_fr_tr (fr_le f344_ rfl) (ai_fr_aI rfl)
            exact wal9_cg hal_ (fr_arr fT_ rfl) (fr_arr fT_ rfl) (fr_arr fT_ rfl) (fr_arr fT_ rfl) (fr_arr fT_ rfl) (fr_arr fT_ rfl) (fr_arr fT_ rfl) (fr_arr fT_ rfl) (fr_arr fT_ rfl) (fT_.1 13 0 106 rfl) (fT_.1 13 0 108 rfl)
          · have fT_ : ai_fr (sx_W w304) S_ ((sm_aI Sx19_ 232 0 (6 * c_ + i_).toNat vx24_)) := ai_fr_tr (fr_le f344_ rfl) (ai_fr_aI rfl)
            exact fun G9_ => gdr_cg (hgd_ G9_) (fr_arr fT_ rfl) (fr_arr fT_ rfl) (fr_arr fT_ rfl)
          · have fT_ : ai_fr (sx_W w304) S_ ((sm_aI Sx19_ 232 0 (6 * c_ + i_).toNat vx24_)) := ai_fr_tr (fr_le f344_ rfl) (ai_fr_aI rfl)
            intro x_ hx_
            have t9_ := (rcm_fr hrc_ fT_).2
            rw [t9_] at hx_ ⊢
            exact rnw_fr (hrc_.2 x_ hx_).1 (hra_ x_ hx_) hI_ fT_
          · have fT_ : ai_fr (sx_W w304) S_ ((sm_aI Sx19_ 232 0 (6 * c_ + i_).toNat vx24_)) := ai_fr_tr (fr_le f344_ rfl) (ai_fr_aI rfl)
            refine fun z9_ => ?_
            obtain ⟨x9_, a9_, c9_, d9_⟩ := hbd_ z9_
            exact ⟨x9_, by (rw [(rcm_fr hrc_ fT_).2]; exact a9_), by (rw [fr_arr (t := 203) (i := 0) fT_ rfl]; exact c9_), by (rw [fr_arr (t := 210) (i := 0) fT_ rfl]; exact d9_)⟩
          · have fT_ : ai_fr (sx_W w304) S_ ((sm_aI Sx19_ 232 0 (6 * c_ + i_).toNat vx24_)) := ai_fr_tr (fr_le f344_ rfl) (ai_fr_aI rfl)
            rw [fT_.1 13 0 127 rfl, fr_arr (t := 213) (i := 0) fT_ rfl]
            exact hrd_
          · exact gst_a e344_.1 (Or.inr rfl)
          · have fT_ : ai_fr (sx_W w304) S_ ((sm_aI Sx19_ 232 0 (6 * c_ + i_).toNat vx24_)) := ai_fr_tr (fr_le f344_ rfl) (ai_fr_aI rfl)
            intro G9_ k9_ u0_ u1_
            rw [fr_arr (t := 156) (i := 0) fT_ rfl] at u1_
            rw [fr_arr (t := 231) (i := 0) fT_ rfl]
            (try simp only [rd_eq, rd_ne, rf_eq, rf_nk, rf_nt, rd_fa, rd_af, rd_fl, rd_al, rd_lf, rd_la, rd_leq, rd_lne, rd_fr, rd_ar, ne_eq, Nat.reduceEqDiff, not_false_eq_true])
            have w9_ := ho_ G9_ k9_ u0_ u1_
            omega
          · intro G9_ k9_ u0_ u1_
            (try simp only [rd_eq, rd_ne, rf_eq, rf_nk, rf_nt, rd_fa, rd_af, rd_fl, rd_al, rd_lf, rd_la, rd_leq, rd_lne, rd_fr, rd_ar, ne_eq, Nat.reduceEqDiff, not_false_eq_true])
            by_cases z9_ : k9_ = i_
            · rw [z9_, if_pos rfl]; omega
            · rw [if_neg (by omega), fr_arr (t := 232) (i := 0) f344_ rfl]; have w9_ := hp_ G9_ k9_ u0_ (by omega); omega
          · have fT_ : ai_fr (sx_W w304) S_ ((sm_aI Sx19_ 232 0 (6 * c_ + i_).toNat vx24_)) := ai_fr_tr (fr_le f344_ rfl) (ai_fr_aI rfl)
            refine fun G9_ => ?_
            have fB_ : ai_fr (sx_W ([], [232], [])) Sx19_ ((sm_aI Sx19_ 232 0 (6 * c_ + i_).toNat vx24_)) := ai_fr_aI rfl
            rw [fr_arr (t := 156) (i := 0) fT_ rfl, show (S_.2.2.1 156 0 a1_.toNat).toNat + (i_ + 1).toNat = (S_.2.2.1 156 0 a1_.toNat).toNat + i_.toNat + 1 by omega]
            refine rqz_fr (RQ344_ _ (fun j_ hj_ => ?_) ?_) fB_
            · unfold ntc
              by_cases z9_ : (j_ : Int) < S_.2.2.1 156 0 a1_.toNat
              · rw [if_pos z9_, if_pos z9_, fr_arr (t := 231) (i := 0) fT_ rfl]
              · rw [if_neg z9_, if_neg z9_, rd_eq, if_neg (by omega), fr_arr (t := 232) (i := 0) f344_ rfl]
            · unfold ntc
              rw [if_neg (by omega), rd_eq, if_pos (by omega)]
          · omega
set_option maxHeartbeats 4000000 in
set_option maxRecDepth 20000 in
theorem vc_419n {sc_ : Nat × (Nat → Int)} (a1_ : Int) (a2_ : Int) (F_ : Int) (N_ : Int) (S0_ : sm_S) (hI_ : gi S0_) (ha1_ : (-2147483648) ≤ a1_ ∧ a1_ ≤ 2147483647) (ha2_ : (-2147483648) ≤ a2_ ∧ a2_ ≤ 2147483647) (hJ_ : jR S0_) (hF0_ : F_ = S0_.2.2.1 160 0 a1_.toNat) (hN0_ : N_ = S0_.2.2.1 159 0 a1_.toNat) (hsw : imq (0 ≤ a1_ ∧ a1_ < 6 ∧ S0_.2.2.1 153 0 a1_.toNat = 1) (swd F_.toNat N_.toNat (mql a1_ S0_) (mqh a1_ S0_) (mqs a1_ S0_))) (hrd0_ : 0 ≤ S0_.1 13 0 127 ∧ S0_.1 13 0 127 ≤ 1999900000) (hmb0_ : ∀ x_ : Nat, -(S0_.1 13 0 127) ≤ S0_.2.2.1 213 0 x_ ∧ S0_.2.2.1 213 0 x_ ≤ S0_.1 13 0 127) : sm_T (mt_P sc_) 5 419 (0, [some (.inr (.inr (some (13, 0)))), some (.inl a1_), some (.inl a2_), none, none, none], [], S0_) (fun ro9_ => ∃ u_ S1_, ro9_ = (.inl u_, S1_, 0) ∧ vq_419n a1_ a2_ F_ N_ S0_ u_ S1_) := by
  have hF_ : ai_fr (sx_W vw_419n) S0_ S0_ := ai_fr_rf
  refine sm_T_go 3 (c1 := (5, [some (.inr (.inr (some (13, 0)))), some (.inl a1_), some (.inl a2_), none, none, none], [.inl 4, .inr (.inr (some (222, 0)))], S0_)) rfl ?_
  refine sm_T_cal (d1 := 0) (Q1 := vq_362c 4 S0_) rfl rfl (by decide) (vc_362c 4 S0_ hI_ (by omega)) (fun u_ Sx1_ px4_ => ?_)
  obtain ⟨rfl, vx6_, rfl, px4_⟩ := px4_
  have d5f := px4_
  have FR5_ : imq (vx6_ ≠ -1) (frr vx6_ S0_) := fun z9_ => by (rcases px4_ with y9_ | ⟨u9_, y1_, y2_, y3_, y4_⟩; exact absurd y9_.1 z9_; (rw [y1_]; exact ⟨by omega, by omega, y3_, fun j_ hj_ => y4_ j_ (by omega)⟩))
  have d5_ : vx6_ = -1 ∨ (0 ≤ vx6_ ∧ vx6_ ≤ 3 ∧ S0_.2.2.1 222 0 (vx6_).toNat = 0) := by (rcases px4_ with y9_ | ⟨u9_, y1_, y2_, y3_, y4_⟩; exact Or.inl y9_.1; (right; rw [y1_]; exact ⟨by omega, by omega, y3_⟩))
  refine sm_T_go 4 (c1 := (12, [some (.inr (.inr (some (13, 0)))), some (.inl a1_), some (.inl a2_), some (.inl vx6_), none, none], [.inl a1_, .inr (.inr (some (13, 0))), .inr (.inr (some (13, 0)))], S0_)) rfl ?_
  refine sm_T_cal (d1 := 0) (Q1 := vq_369 a1_ S0_) rfl rfl (by decide) (vc_369 a1_ S0_ hI_ (by omega)) (fun u_ Sx7_ px10_ => ?_)
  obtain ⟨rfl, vx12_, rfl, px10_⟩ := px10_
  have d12_ := px10_
  refine sm_T_b0 (a := 0) (z := 11) rfl (fun cx13_ => ?_) (fun cx13_ => ?_)
  · have cx13_ : vx12_ = 0 := of_decide_eq_true cx13_
    have hIx14_ : gi (sm_pI S0_ 13 0 0 1) := gi_pI hI_ (show 0 ≤ 1 ∧ 1 ≤ 4 from ⟨by omega, by omega⟩)
    have hFx15_ : ai_fr (sx_W vw_419n) S0_ (sm_pI S0_ 13 0 0 1) := ai_fr_tr hF_ (ai_fr_pI rfl)
    refine sm_T_go 7 (c1 := (51, [some (.inr (.inr (some (13, 0)))), some (.inl a1_), some (.inl a2_), some (.inl vx6_), none, none], [.inl 0], sm_pI S0_ 13 0 0 1)) rfl ?_
    refine sm_T_ri rfl ⟨_, _, rfl, _, rfl, hIx14_, hFx15_, ?_⟩
    refine ⟨⟨by omega, by omega⟩, hJ_, ⟨⟨hrd0_.1, by (show S0_.1 13 0 127 ≤ S0_.1 13 0 127 + 65000; omega)⟩, hmb0_⟩, ?_⟩
    first | exact Or.inl ⟨rf_eq, rfl, by (unfold ora_map; omega)⟩ | exact Or.inr (Or.inl ⟨rf_eq, rfl, by (unfold ora_map; omega), fun ⟨c9_, k1_, k2_, k3_, k4_⟩ => by (rcases d5f with y9_ | ⟨u9_, y1_, y2_, y3_, y4_⟩; (have z9_ := y9_.2 c9_.toNat (by omega); omega); omega)⟩)
  · have cx13_ : ¬ (vx12_ = 0) := of_decide_eq_false cx13_
    refine sm_T_go 2 (c1 := (20, [some (.inr (.inr (some (13, 0)))), some (.inl a1_), some (.inl a2_), some (.inl vx6_), none, none], [.inl a2_, .inr (.inr (some (13, 0))), .inr (.inr (some (13, 0)))], S0_)) rfl ?_
    refine sm_T_cal (d1 := 0) (Q1 := vq_370 a2_ S0_) rfl rfl (by decide) (vc_370 a2_ S0_ hI_ (by omega)) (fun u_ Sx16_ px19_ => ?_)
    obtain ⟨rfl, vx21_, rfl, px19_⟩ := px19_
    have d20_ := px19_
    refine sm_T_b0 (a := 1) (z := 7) rfl (fun cx22_ => ?_) (fun cx22_ => ?_)
    · have cx22_ : vx21_ ≠ 0 := of_decide_eq_true cx22_
      refine sm_T_go 2 (c1 := (32, [some (.inr (.inr (some (13, 0)))), some (.inl a1_), some (.inl a2_), some (.inl vx6_), none, none], [.inl (-1), .inl vx6_, .inr (.inr (some (13, 0)))], S0_)) rfl ?_
      refine sm_T_br (a := 1) (z := 7) rfl (fun cx23_ => ?_) (fun cx23_ => ?_)
      · have cx23_ : vx6_ ≠ (-1) := of_decide_eq_true cx23_
        have hIx24_ : gi (sm_pI S0_ 13 0 0 0) := gi_pI hI_ (show 0 ≤ 0 ∧ 0 ≤ 4 from ⟨by omega, by omega⟩)
        have hFx25_ : ai_fr (sx_W vw_419n) S0_ (sm_pI S0_ 13 0 0 0) := ai_fr_tr hF_ (ai_fr_pI rfl)
        have hIx26_ : gi (sm_pI (sm_pI S0_ 13 0 0 0) 13 0 105 a1_) := gi_pI hIx24_ (show 0 ≤ a1_ ∧ a1_ ≤ 5 from ⟨by omega, by omega⟩)
        have hFx27_ : ai_fr (sx_W vw_419n) S0_ (sm_pI (sm_pI S0_ 13 0 0 0) 13 0 105 a1_) := ai_fr_tr hFx25_ (ai_fr_pI rfl)
        have hIx28_ : gi (sm_pI (sm_pI (sm_pI S0_ 13 0 0 0) 13 0 105 a1_) 13 0 106 a2_) := gi_pI hIx26_ (show 0 ≤ a2_ ∧ a2_ ≤ 2 from ⟨by omega, by omega⟩)
        have hFx29_ : ai_fr (sx_W vw_419n) S0_ (sm_pI (sm_pI (sm_pI S0_ 13 0 0 0) 13 0 105 a1_) 13 0 106 a2_) := ai_fr_tr hFx27_ (ai_fr_pI rfl)
        refine sm_T_go 14 (c1 := (65, [some (.inr (.inr (some (13, 0)))), some (.inl a1_), some (.inl a2_), some (.inl vx6_), none, none], [.inl a2_, .inr (.inr (some (13, 0))), .inr (.inr (some (13, 0)))], sm_pI (sm_pI (sm_pI S0_ 13 0 0 0) 13 0 105 a1_) 13 0 106 a2_)) rfl ?_
        refine sm_T_cal (d1 := 0) (Q1 := vq_379v a2_ (sm_pI (sm_pI (sm_pI S0_ 13 0 0 0) 13 0 105 a1_) 13 0 106 a2_)) rfl rfl (by decide) (vc_379v a2_ (sm_pI (sm_pI (sm_pI S0_ 13 0 0 0) 13 0 105 a1_) 13 0 106 a2_) hIx28_ (by omega)) (fun u_ Sx30_ px33_ => ?_)
        obtain ⟨rfl, vx35_, rfl, px33_⟩ := px33_
        have p65_ := px33_
        obtain ⟨w65_, hw65_⟩ : ∃ w9_ : Int, w9_ = vx35_ := ⟨_, rfl⟩
        have e65_ : (-1 ≤ vx35_ ∧ vx35_ ≤ 11) ∧ (vx35_ = -1 ∨ (0 ≤ vx35_ ∧ vx35_ ≤ 11 ∧ S0_.2.2.1 185 0 (12 * a2_ + vx35_).toNat = 1)) := ⟨p65_.2, by (have z9_ := rfv_b (A_ := S0_.2.2.1) (a_ := a2_) (S0_.2.2.1 184 0 a2_.toNat).toNat; have y9_ := p65_.1; rw [← (show vx35_ = rfv S0_.2.2.1 a2_ (S0_.2.2.1 184 0 a2_.toNat).toNat from y9_)] at z9_; rcases z9_ with z9_ | z9_; exact Or.inl z9_; exact Or.inr ⟨z9_.1, p65_.2.2, z9_.2.2⟩)⟩
        have D9_ : dRk a1_.toNat S0_ := hJ_.1 a1_.toNat (by omega) (by omega)
        have B9_ : 1 ≤ F_ ∧ F_ ≤ 13 ∧ F_ ≤ N_ ∧ N_ ≤ 1013 := by (obtain ⟨F1_, I9_, R9_, N1_, k1_, -⟩ := D9_; omega)
        have C9_ := d5_.resolve_left (by omega)
        have hIx36_ : gi (sm_pI (sm_pI (sm_pI (sm_pI S0_ 13 0 0 0) 13 0 105 a1_) 13 0 106 a2_) 13 0 107 vx35_) := gi_pI hIx28_ (show (-1) ≤ vx35_ ∧ vx35_ ≤ 11 from ⟨by omega, by omega⟩)
        have hFx37_ : ai_fr (sx_W vw_419n) S0_ (sm_pI (sm_pI (sm_pI (sm_pI S0_ 13 0 0 0) 13 0 105 a1_) 13 0 106 a2_) 13 0 107 vx35_) := ai_fr_tr hFx29_ (ai_fr_pI rfl)
        refine sm_T_go 5 (c1 := (77, [some (.inr (.inr (some (13, 0)))), some (.inl a1_), some (.inl a2_), some (.inl vx6_), none, none], [.inl (-1), .inl vx35_, .inr (.inr (some (13, 0)))], sm_pI (sm_pI (sm_pI (sm_pI S0_ 13 0 0 0) 13 0 105 a1_) 13 0 106 a2_) 13 0 107 vx35_)) rfl ?_
        refine sm_T_br (a := 1) (z := 9) rfl (fun cx38_ => ?_) (fun cx38_ => ?_)
        · have cx38_ : vx35_ ≠ (-1) := of_decide_eq_true cx38_
          refine sm_T_go 4 (c1 := (93, [some (.inr (.inr (some (13, 0)))), some (.inl a1_), some (.inl a2_), some (.inl vx6_), none, none], [.inl a2_, .inl 12, .inr (.inr (some (187, 0))), .inr (.inr (some (13, 0)))], sm_pI (sm_pI (sm_pI (sm_pI S0_ 13 0 0 0) 13 0 105 a1_) 13 0 106 a2_) 13 0 107 vx35_)) rfl ?_
          refine sm_T_bin (w := 12 * a2_) rfl (bi_mul (by omega) (by omega) (by omega)) ?_ -- pc_ 93
          refine sm_T_go 2 (c1 := (98, [some (.inr (.inr (some (13, 0)))), some (.inl a1_), some (.inl a2_), some (.inl vx6_), none, none], [.inl vx35_, .inl (12 * a2_), .inr (.inr (some (187, 0))), .inr (.inr (some (13, 0)))], sm_pI (sm_pI (sm_pI (sm_pI S0_ 13 0 0 0) 13 0 105 a1_) 13 0 106 a2_) 13 0 107 vx35_)) rfl ?_
          refine sm_T_bin (w := 12 * a2_ + vx35_) rfl (bi_add (by omega) (by omega) (by omega)) ?_ -- pc_ 98
          refine sm_T_iald (n := 36) rfl rfl (by omega) (by omega) ?_
          have bx39_ : 0 ≤ S0_.2.2.1 187 0 (12 * a2_ + vx35_).toNat ∧ S0_.2.2.1 187 0 (12 * a2_ + vx35_).toNat ≤ 1000 := hI_.2 187 0 _
          have hIx40_ : gi (sm_pI (sm_pI (sm_pI (sm_pI (sm_pI S0_ 13 0 0 0) 13 0 105 a1_) 13 0 106 a2_) 13 0 107 vx35_) 13 0 108 (S0_.2.2.1 187 0 (12 * a2_ + vx35_).toNat)) := gi_pI hIx36_ (show 0 ≤ (S0_.2.2.1 187 0 (12 * a2_ + vx35_).toNat) ∧ (S0_.2.2.1 187 0 (12 * a2_ + vx35_).toNat) ≤ 1000000000 from ⟨by omega, by omega⟩)
          have hFx41_ : ai_fr (sx_W vw_419n) S0_ (sm_pI (sm_pI (sm_pI (sm_pI (sm_pI S0_ 13 0 0 0) 13 0 105 a1_) 13 0 106 a2_) 13 0 107 vx35_) 13 0 108 (S0_.2.2.1 187 0 (12 * a2_ + vx35_).toNat)) := ai_fr_tr hFx37_ (ai_fr_pI rfl)
          refine sm_T_go 2 (c1 := (104, [some (.inr (.inr (some (13, 0)))), some (.inl a1_), some (.inl a2_), some (.inl vx6_), none, none], [.inr (.inr (some (13, 0)))], sm_pI (sm_pI (sm_pI (sm_pI (sm_pI S0_ 13 0 0 0) 13 0 105 a1_) 13 0 106 a2_) 13 0 107 vx35_) 13 0 108 (S0_.2.2.1 187 0 (12 * a2_ + vx35_).toNat))) rfl ?_
          refine sm_T_cal (d1 := 2) (Q1 := vq_394n F_ N_ a1_ (sm_pI (sm_pI (sm_pI (sm_pI (sm_pI S0_ 13 0 0 0) 13 0 105 a1_) 13 0 106 a2_) 13 0 107 vx35_) 13 0 108 (S0_.2.2.1 187 0 (12 * a2_ + vx35_).toNat))) rfl rfl (by decide) (vc_394n F_ N_ a1_ (sm_pI (sm_pI (sm_pI (sm_pI (sm_pI S0_ 13 0 0 0) 13 0 105 a1_) 13 0 106 a2_) 13 0 107 vx35_) 13 0 108 (S0_.2.2.1 187 0 (12 * a2_ + vx35_).toNat)) hIx40_ (by exact ⟨⟨by omega, by omega, by (try simp only [rd_eq, rd_ne, rf_eq, rf_nk, rf_nt, rd_fa, rd_af, rd_fl, rd_al, rd_lf, rd_la, rd_leq, rd_lne, rd_fr, rd_ar, ne_eq, Nat.reduceEqDiff, not_false_eq_true]), by (show S0_.2.2.1 160 0 a1_.toNat = F_; omega), by (show S0_.2.2.1 159 0 a1_.toNat = N_; omega), by omega, by omega, by omega, by omega⟩, D9_⟩)) (fun u_ Sx42_ px45_ => ?_)
          obtain ⟨rfl, hIx43_, hFx44_, px45_⟩ := px45_
          have hFx46_ : ai_fr (sx_W vw_419n) S0_ Sx42_ := ai_fr_tr hFx41_ (fr_le hFx44_ rfl)
          have e104_ := (px45_).1
          have k104_ : ∀ c9_ : Nat, rcf c9_ ((sm_pI (sm_pI (sm_pI (sm_pI (sm_pI S0_ 13 0 0 0) 13 0 105 a1_) 13 0 106 a2_) 13 0 107 vx35_) 13 0 108 (S0_.2.2.1 187 0 (12 * a2_ + vx35_).toNat))) Sx42_ := fun c9_ => rcf_fr hFx44_ rfl
          have f104_ := hFx44_
          have M4_ : dmp F_ N_ a1_ (sm_pI (sm_pI (sm_pI (sm_pI (sm_pI S0_ 13 0 0 0) 13 0 105 a1_) 13 0 106 a2_) 13 0 107 vx35_) 13 0 108 (S0_.2.2.1 187 0 (12 * a2_ + vx35_).toNat)) := ⟨⟨by omega, by omega, by (try simp only [rd_eq, rd_ne, rf_eq, rf_nk, rf_nt, rd_fa, rd_af, rd_fl, rd_al, rd_lf, rd_la, rd_leq, rd_lne, rd_fr, rd_ar, ne_eq, Nat.reduceEqDiff, not_false_eq_true]), by (show S0_.2.2.1 160 0 a1_.toNat = F_; omega), by (show S0_.2.2.1 159 0 a1_.toNat = N_; omega), by omega, by omega, by omega, by omega⟩, D9_⟩
          have RC104_ : rcm F_ N_ a1_ Sx42_ := rcm_n M4_ (hsw (by omega)) (dmp_fr M4_ hFx44_) (mq_fr hFx44_) (px45_).2.2.1 (px45_).2.1 (px45_).2.2.2
          have x127_ : Sx42_.1 13 0 127 = S0_.1 13 0 127 := (hFx44_.1 13 0 127 rfl).trans (by (try simp only [rd_eq, rd_ne, rf_eq, rf_nk, rf_nt, rd_fa, rd_af, rd_fl, rd_al, rd_lf, rd_la, rd_leq, rd_lne, rd_fr, rd_ar, ne_eq, Nat.reduceEqDiff, not_false_eq_true]))
          have x000_ : Sx42_.1 13 0 0 = 0 := (hFx44_.1 13 0 0 rfl).trans (by (try simp only [rd_eq, rd_ne, rf_eq, rf_nk, rf_nt, rd_fa, rd_af, rd_fl, rd_al, rd_lf, rd_la, rd_leq, rd_lne, rd_fr, rd_ar, ne_eq, Nat.reduceEqDiff, not_false_eq_true]))
          have x213_ : Sx42_.2.2.1 213 0 = ((sm_pI (sm_pI (sm_pI (sm_pI (sm_pI S0_ 13 0 0 0) 13 0 105 a1_) 13 0 106 a2_) 13 0 107 vx35_) 13 0 108 (S0_.2.2.1 187 0 (12 * a2_ + vx35_).toNat))).2.2.1 213 0 := fr_arr (t := 213) (i := 0) hFx44_ rfl
          have x184_ : Sx42_.2.2.1 184 0 = ((sm_pI (sm_pI (sm_pI (sm_pI (sm_pI S0_ 13 0 0 0) 13 0 105 a1_) 13 0 106 a2_) 13 0 107 vx35_) 13 0 108 (S0_.2.2.1 187 0 (12 * a2_ + vx35_).toNat))).2.2.1 184 0 := fr_arr (t := 184) (i := 0) hFx44_ rfl
          have x185_ : Sx42_.2.2.1 185 0 = ((sm_pI (sm_pI (sm_pI (sm_pI (sm_pI S0_ 13 0 0 0) 13 0 105 a1_) 13 0 106 a2_) 13 0 107 vx35_) 13 0 108 (S0_.2.2.1 187 0 (12 * a2_ + vx35_).toNat))).2.2.1 185 0 := fr_arr (t := 185) (i := 0) hFx44_ rfl
          have x186_ : Sx42_.2.2.1 186 0 = ((sm_pI (sm_pI (sm_pI (sm_pI (sm_pI S0_ 13 0 0 0) 13 0 105 a1_) 13 0 106 a2_) 13 0 107 vx35_) 13 0 108 (S0_.2.2.1 187 0 (12 * a2_ + vx35_).toNat))).2.2.1 186 0 := fr_arr (t := 186) (i := 0) hFx44_ rfl
          have x187_ : Sx42_.2.2.1 187 0 = ((sm_pI (sm_pI (sm_pI (sm_pI (sm_pI S0_ 13 0 0 0) 13 0 105 a1_) 13 0 106 a2_) 13 0 107 vx35_) 13 0 108 (S0_.2.2.1 187 0 (12 * a2_ + vx35_).toNat))).2.2.1 187 0 := fr_arr (t := 187) (i := 0) hFx44_ rfl
          have x107_ : Sx42_.1 13 0 107 = w65_ := (hFx44_.1 13 0 107 rfl).trans (by (rw [hw65_]; (try simp only [rd_eq, rd_ne, rf_eq, rf_nk, rf_nt, rd_fa, rd_af, rd_fl, rd_al, rd_lf, rd_la, rd_leq, rd_lne, rd_fr, rd_ar, ne_eq, Nat.reduceEqDiff, not_false_eq_true])))
          have x108_ : Sx42_.1 13 0 108 = if w65_ = -1 then 1000000000 else S0_.2.2.1 187 0 (12 * a2_ + w65_).toNat := (hFx44_.1 13 0 108 rfl).trans (by (rw [hw65_]; (try simp only [rd_eq, rd_ne, rf_eq, rf_nk, rf_nt, rd_fa, rd_af, rd_fl, rd_al, rd_lf, rd_la, rd_leq, rd_lne, rd_fr, rd_ar, ne_eq, Nat.reduceEqDiff, not_false_eq_true]); first | (rw [if_pos (by omega)]) | (rw [if_neg (by omega)])))
          have x160_ : Sx42_.2.2.1 160 0 a1_.toNat = F_ := (dmp_fr M4_ hFx44_).1.2.2.2.1
          have x106_ : Sx42_.1 13 0 106 = a2_ := (hFx44_.1 13 0 106 rfl).trans (by (try simp only [rd_eq, rd_ne, rf_eq, rf_nk, rf_nt, rd_fa, rd_af, rd_fl, rd_al, rd_lf, rd_la, rd_leq, rd_lne, rd_fr, rd_ar, ne_eq, Nat.reduceEqDiff, not_false_eq_true]))
          have y156_ : Sx42_.2.2.1 156 0 = ((sm_pI (sm_pI (sm_pI (sm_pI (sm_pI S0_ 13 0 0 0) 13 0 105 a1_) 13 0 106 a2_) 13 0 107 vx35_) 13 0 108 (S0_.2.2.1 187 0 (12 * a2_ + vx35_).toNat))).2.2.1 156 0 := fr_arr (t := 156) (i := 0) hFx44_ rfl
          have y155_ : Sx42_.2.2.1 155 0 = ((sm_pI (sm_pI (sm_pI (sm_pI (sm_pI S0_ 13 0 0 0) 13 0 105 a1_) 13 0 106 a2_) 13 0 107 vx35_) 13 0 108 (S0_.2.2.1 187 0 (12 * a2_ + vx35_).toNat))).2.2.1 155 0 := fr_arr (t := 155) (i := 0) hFx44_ rfl
          have v104_ : Sx42_.1 13 0 107 = -1 ∨ Sx42_.2.2.1 185 0 (12 * Sx42_.1 13 0 106 + Sx42_.1 13 0 107).toNat = 1 := by (rw [hFx44_.1 13 0 107 rfl, x106_, fr_arr (t := 185) (i := 0) hFx44_ rfl]; (try simp only [rd_eq, rd_ne, rf_eq, rf_nk, rf_nt, rd_fa, rd_af, rd_fl, rd_al, rd_lf, rd_la, rd_leq, rd_lne, rd_fr, rd_ar, ne_eq, Nat.reduceEqDiff, not_false_eq_true]); rcases e65_.2 with y9_ | y9_; exact Or.inl y9_; exact Or.inr y9_.2.2)
          refine sm_T_go 5 (c1 := (115, [some (.inr (.inr (some (13, 0)))), some (.inl a1_), some (.inl a2_), some (.inl vx6_), some (.inl 1), none], [.inl a1_, .inr (.inr (some (160, 0)))], Sx42_)) rfl ?_
          refine sm_T_iald (n := 6) rfl rfl (by omega) (by omega) ?_
          have bx47_ : 0 ≤ Sx42_.2.2.1 160 0 a1_.toNat ∧ Sx42_.2.2.1 160 0 a1_.toNat ≤ 19 := hIx43_.2 160 0 _
          refine sm_T_go 1 (c1 := (118, [some (.inr (.inr (some (13, 0)))), some (.inl a1_), some (.inl a2_), some (.inl vx6_), some (.inl 1), some (.inl (Sx42_.2.2.1 160 0 a1_.toNat))], [], Sx42_)) rfl ?_
          refine (vl_419n a1_ a2_ F_ N_ S0_ ha1_ ha2_ hJ_ hF0_ hN0_ hsw hrd0_ hmb0_ _).1 vx6_ 1 (Sx42_.2.2.1 160 0 a1_.toNat) Sx42_ hIx43_ hFx46_ ⟨?_, ?_, ?_, ?_, ?_, ?_, ?_, ?_, ?_, ?_, ?_, ?_, ?_, ?_, ?_, ?_, ?_, ?_, trivial⟩ (Nat.lt_succ_self _)
          · omega
          · exact dmp_fr M4_ f104_
          · exact x106_
          · (rw [y156_, y155_]; exact e104_.2)
          · exact v104_
          · exact k104_ _
          · exact (congrFun (fr_arr (t := 222) (i := 0) f104_ rfl) _).trans C9_.2.2
          · exact RC104_
          · exact x000_
          · rw [x107_, x108_, rfv_cg (B_ := S0_.2.2.1) x185_ x186_ x187_, x184_, x187_]
            exact ⟨hw65_.trans p65_.1, rfl⟩
          · exact ⟨by (unfold ora_map; omega), FR5_ (by omega)⟩
          · exact e104_.1
          · (intro n9_ u0_ u1_; exfalso; omega)
          · (intro G9_ n9_ u0_ u1_; exfalso; omega)
          · (intro j9_ u0_ u1_; exfalso; omega)
          · (intro x_ hx_ u1_; exfalso; have z9_ := hx_.1; omega)
          · (refine fun z9_ => ?_; exfalso; omega)
          · rw [x127_, x213_]
            exact ⟨⟨hrd0_.1, by omega⟩, hmb0_⟩
        · have cx38_ : ¬ (vx35_ ≠ (-1)) := of_decide_eq_false cx38_
          refine sm_T_nt (u := some (.inl 1000000000)) (S1 := sm_pI (sm_pI (sm_pI (sm_pI S0_ 13 0 0 0) 13 0 105 a1_) 13 0 106 a2_) 13 0 107 vx35_) rfl rfl rfl ?_
          have hIx48_ : gi (sm_pI (sm_pI (sm_pI (sm_pI (sm_pI S0_ 13 0 0 0) 13 0 105 a1_) 13 0 106 a2_) 13 0 107 vx35_) 13 0 108 1000000000) := gi_pI hIx36_ (show 0 ≤ 1000000000 ∧ 1000000000 ≤ 1000000000 from ⟨by omega, by omega⟩)
          have hFx49_ : ai_fr (sx_W vw_419n) S0_ (sm_pI (sm_pI (sm_pI (sm_pI (sm_pI S0_ 13 0 0 0) 13 0 105 a1_) 13 0 106 a2_) 13 0 107 vx35_) 13 0 108 1000000000) := ai_fr_tr hFx37_ (ai_fr_pI rfl)
          refine sm_T_go 3 (c1 := (104, [some (.inr (.inr (some (13, 0)))), some (.inl a1_), some (.inl a2_), some (.inl vx6_), none, none], [.inr (.inr (some (13, 0)))], sm_pI (sm_pI (sm_pI (sm_pI (sm_pI S0_ 13 0 0 0) 13 0 105 a1_) 13 0 106 a2_) 13 0 107 vx35_) 13 0 108 1000000000)) rfl ?_
          refine sm_T_cal (d1 := 2) (Q1 := vq_394n F_ N_ a1_ (sm_pI (sm_pI (sm_pI (sm_pI (sm_pI S0_ 13 0 0 0) 13 0 105 a1_) 13 0 106 a2_) 13 0 107 vx35_) 13 0 108 1000000000)) rfl rfl (by decide) (vc_394n F_ N_ a1_ (sm_pI (sm_pI (sm_pI (sm_pI (sm_pI S0_ 13 0 0 0) 13 0 105 a1_) 13 0 106 a2_) 13 0 107 vx35_) 13 0 108 1000000000) hIx48_ (by exact ⟨⟨by omega, by omega, by (try simp only [rd_eq, rd_ne, rf_eq, rf_nk, rf_nt, rd_fa, rd_af, rd_fl, rd_al, rd_lf, rd_la, rd_leq, rd_lne, rd_fr, rd_ar, ne_eq, Nat.reduceEqDiff, not_false_eq_true]), by (show S0_.2.2.1 160 0 a1_.toNat = F_; omega), by (show S0_.2.2.1 159 0 a1_.toNat = N_; omega), by omega, by omega, by omega, by omega⟩, D9_⟩)) (fun u_ Sx50_ px53_ => ?_)
          obtain ⟨rfl, hIx51_, hFx52_, px53_⟩ := px53_
          have hFx54_ : ai_fr (sx_W vw_419n) S0_ Sx50_ := ai_fr_tr hFx49_ (fr_le hFx52_ rfl)
          have e104_ := (px53_).1
          have k104_ : ∀ c9_ : Nat, rcf c9_ ((sm_pI (sm_pI (sm_pI (sm_pI (sm_pI S0_ 13 0 0 0) 13 0 105 a1_) 13 0 106 a2_) 13 0 107 vx35_) 13 0 108 1000000000)) Sx50_ := fun c9_ => rcf_fr hFx52_ rfl
          have f104_ := hFx52_
          have M4_ : dmp F_ N_ a1_ (sm_pI (sm_pI (sm_pI (sm_pI (sm_pI S0_ 13 0 0 0) 13 0 105 a1_) 13 0 106 a2_) 13 0 107 vx35_) 13 0 108 1000000000) := ⟨⟨by omega, by omega, by (try simp only [rd_eq, rd_ne, rf_eq, rf_nk, rf_nt, rd_fa, rd_af, rd_fl, rd_al, rd_lf, rd_la, rd_leq, rd_lne, rd_fr, rd_ar, ne_eq, Nat.reduceEqDiff, not_false_eq_true]), by (show S0_.2.2.1 160 0 a1_.toNat = F_; omega), by (show S0_.2.2.1 159 0 a1_.toNat = N_; omega), by omega, by omega, by omega, by omega⟩, D9_⟩
          have RC104_ : rcm F_ N_ a1_ Sx50_ := rcm_n M4_ (hsw (by omega)) (dmp_fr M4_ hFx52_) (mq_fr hFx52_) (px53_).2.2.1 (px53_).2.1 (px53_).2.2.2
          have x127_ : Sx50_.1 13 0 127 = S0_.1 13 0 127 := (hFx52_.1 13 0 127 rfl).trans (by (try simp only [rd_eq, rd_ne, rf_eq, rf_nk, rf_nt, rd_fa, rd_af, rd_fl, rd_al, rd_lf, rd_la, rd_leq, rd_lne, rd_fr, rd_ar, ne_eq, Nat.reduceEqDiff, not_false_eq_true]))
          have x000_ : Sx50_.1 13 0 0 = 0 := (hFx52_.1 13 0 0 rfl).trans (by (try simp only [rd_eq, rd_ne, rf_eq, rf_nk, rf_nt, rd_fa, rd_af, rd_fl, rd_al, rd_lf, rd_la, rd_leq, rd_lne, rd_fr, rd_ar, ne_eq, Nat.reduceEqDiff, not_false_eq_true]))
          have x213_ : Sx50_.2.2.1 213 0 = ((sm_pI (sm_pI (sm_pI (sm_pI (sm_pI S0_ 13 0 0 0) 13 0 105 a1_) 13 0 106 a2_) 13 0 107 vx35_) 13 0 108 1000000000)).2.2.1 213 0 := fr_arr (t := 213) (i := 0) hFx52_ rfl
          have x184_ : Sx50_.2.2.1 184 0 = ((sm_pI (sm_pI (sm_pI (sm_pI (sm_pI S0_ 13 0 0 0) 13 0 105 a1_) 13 0 106 a2_) 13 0 107 vx35_) 13 0 108 1000000000)).2.2.1 184 0 := fr_arr (t := 184) (i := 0) hFx52_ rfl
          have x185_ : Sx50_.2.2.1 185 0 = ((sm_pI (sm_pI (sm_pI (sm_pI (sm_pI S0_ 13 0 0 0) 13 0 105 a1_) 13 0 106 a2_) 13 0 107 vx35_) 13 0 108 1000000000)).2.2.1 185 0 := fr_arr (t := 185) (i := 0) hFx52_ rfl
          have x186_ : Sx50_.2.2.1 186 0 = ((sm_pI (sm_pI (sm_pI (sm_pI (sm_pI S0_ 13 0 0 0) 13 0 105 a1_) 13 0 106 a2_) 13 0 107 vx35_) 13 0 108 1000000000)).2.2.1 186 0 := fr_arr (t := 186) (i := 0) hFx52_ rfl
          have x187_ : Sx50_.2.2.1 187 0 = ((sm_pI (sm_pI (sm_pI (sm_pI (sm_pI S0_ 13 0 0 0) 13 0 105 a1_) 13 0 106 a2_) 13 0 107 vx35_) 13 0 108 1000000000)).2.2.1 187 0 := fr_arr (t := 187) (i := 0) hFx52_ rfl
          have x107_ : Sx50_.1 13 0 107 = w65_ := (hFx52_.1 13 0 107 rfl).trans (by (rw [hw65_]; (try simp only [rd_eq, rd_ne, rf_eq, rf_nk, rf_nt, rd_fa, rd_af, rd_fl, rd_al, rd_lf, rd_la, rd_leq, rd_lne, rd_fr, rd_ar, ne_eq, Nat.reduceEqDiff, not_false_eq_true])))
          have x108_ : Sx50_.1 13 0 108 = if w65_ = -1 then 1000000000 else S0_.2.2.1 187 0 (12 * a2_ + w65_).toNat := (hFx52_.1 13 0 108 rfl).trans (by (rw [hw65_]; (try simp only [rd_eq, rd_ne, rf_eq, rf_nk, rf_nt, rd_fa, rd_af, rd_fl, rd_al, rd_lf, rd_la, rd_leq, rd_lne, rd_fr, rd_ar, ne_eq, Nat.reduceEqDiff, not_false_eq_true]); first | (rw [if_pos (by omega)]) | (rw [if_neg (by omega)])))
          have x160_ : Sx50_.2.2.1 160 0 a1_.toNat = F_ := (dmp_fr M4_ hFx52_).1.2.2.2.1
          have x106_ : Sx50_.1 13 0 106 = a2_ := (hFx52_.1 13 0 106 rfl).trans (by (try simp only [rd_eq, rd_ne, rf_eq, rf_nk, rf_nt, rd_fa, rd_af, rd_fl, rd_al, rd_lf, rd_la, rd_leq, rd_lne, rd_fr, rd_ar, ne_eq, Nat.reduceEqDiff, not_false_eq_true]))
          have y156_ : Sx50_.2.2.1 156 0 = ((sm_pI (sm_pI (sm_pI (sm_pI (sm_pI S0_ 13 0 0 0) 13 0 105 a1_) 13 0 106 a2_) 13 0 107 vx35_) 13 0 108 1000000000)).2.2.1 156 0 := fr_arr (t := 156) (i := 0) hFx52_ rfl
          have y155_ : Sx50_.2.2.1 155 0 = ((sm_pI (sm_pI (sm_pI (sm_pI (sm_pI S0_ 13 0 0 0) 13 0 105 a1_) 13 0 106 a2_) 13 0 107 vx35_) 13 0 108 1000000000)).2.2.1 155 0 := fr_arr (t := 155) (i := 0) hFx52_ rfl
          have v104_ : Sx50_.1 13 0 107 = -1 ∨ Sx50_.2.2.1 185 0 (12 * Sx50_.1 13 0 106 + Sx50_.1 13 0 107).toNat = 1 := by (rw [hFx52_.1 13 0 107 rfl, x106_, fr_arr (t := 185) (i := 0) hFx52_ rfl]; (try simp only [rd_eq, rd_ne, rf_eq, rf_nk, rf_nt, rd_fa, rd_af, rd_fl, rd_al, rd_lf, rd_la, rd_leq, rd_lne, rd_fr, rd_ar, ne_eq, Nat.reduceEqDiff, not_false_eq_true]); rcases e65_.2 with y9_ | y9_; exact Or.inl y9_; exact Or.inr y9_.2.2)
          refine sm_T_go 5 (c1 := (115, [some (.inr (.inr (some (13, 0)))), some (.inl a1_), some (.inl a2_), some (.inl vx6_), some (.inl 1), none], [.inl a1_, .inr (.inr (some (160, 0)))], Sx50_)) rfl ?_
          refine sm_T_iald (n := 6) rfl rfl (by omega) (by omega) ?_
          have bx55_ : 0 ≤ Sx50_.2.2.1 160 0 a1_.toNat ∧ Sx50_.2.2.1 160 0 a1_.toNat ≤ 19 := hIx51_.2 160 0 _
          refine sm_T_go 1 (c1 := (118, [some (.inr (.inr (some (13, 0)))), some (.inl a1_), some (.inl a2_), some (.inl vx6_), some (.inl 1), some (.inl (Sx50_.2.2.1 160 0 a1_.toNat))], [], Sx50_)) rfl ?_
          refine (vl_419n a1_ a2_ F_ N_ S0_ ha1_ ha2_ hJ_ hF0_ hN0_ hsw hrd0_ hmb0_ _).1 vx6_ 1 (Sx50_.2.2.1 160 0 a1_.toNat) Sx50_ hIx51_ hFx54_ ⟨?_, ?_, ?_, ?_, ?_, ?_, ?_, ?_, ?_, ?_, ?_, ?_, ?_, ?_, ?_, ?_, ?_, ?_, trivial⟩ (Nat.lt_succ_self _)
          · omega
          · exact dmp_fr M4_ f104_
          · exact x106_
          · (rw [y156_, y155_]; exact e104_.2)
          · exact v104_
          · exact k104_ _
          · exact (congrFun (fr_arr (t := 222) (i := 0) f104_ rfl) _).trans C9_.2.2
          · exact RC104_
          · exact x000_
          · rw [x107_, x108_, rfv_cg (B_ := S0_.2.2.1) x185_ x186_ x187_, x184_, x187_]
            exact ⟨hw65_.trans p65_.1, rfl⟩
          · exact ⟨by (unfold ora_map; omega), FR5_ (by omega)⟩
          · exact e104_.1
          · (intro n9_ u0_ u1_; exfalso; omega)
          · (intro G9_ n9_ u0_ u1_; exfalso; omega)
          · (intro j9_ u0_ u1_; exfalso; omega)
          · (intro x_ hx_ u1_; exfalso; have z9_ := hx_.1; omega)
          · (refine fun z9_ => ?_; exfalso; omega)
          · rw [x127_, x213_]
            exact ⟨⟨hrd0_.1, by omega⟩, hmb0_⟩
      · have cx23_ : ¬ (vx6_ ≠ (-1)) := of_decide_eq_false cx23_
        have hIx56_ : gi (sm_pI S0_ 13 0 0 2) := gi_pI hI_ (show 0 ≤ 2 ∧ 2 ≤ 4 from ⟨by omega, by omega⟩)
        have hFx57_ : ai_fr (sx_W vw_419n) S0_ (sm_pI S0_ 13 0 0 2) := ai_fr_tr hF_ (ai_fr_pI rfl)
        refine sm_T_go 7 (c1 := (51, [some (.inr (.inr (some (13, 0)))), some (.inl a1_), some (.inl a2_), some (.inl vx6_), none, none], [.inl 0], sm_pI S0_ 13 0 0 2)) rfl ?_
        refine sm_T_ri rfl ⟨_, _, rfl, _, rfl, hIx56_, hFx57_, ?_⟩
        refine ⟨⟨by omega, by omega⟩, hJ_, ⟨⟨hrd0_.1, by (show S0_.1 13 0 127 ≤ S0_.1 13 0 127 + 65000; omega)⟩, hmb0_⟩, ?_⟩
        first | exact Or.inl ⟨rf_eq, rfl, by (unfold ora_map; omega)⟩ | exact Or.inr (Or.inl ⟨rf_eq, rfl, by (unfold ora_map; omega), fun ⟨c9_, k1_, k2_, k3_, k4_⟩ => by (rcases d5f with y9_ | ⟨u9_, y1_, y2_, y3_, y4_⟩; (have z9_ := y9_.2 c9_.toNat (by omega); omega); omega)⟩)
    · have cx22_ : ¬ (vx21_ ≠ 0) := of_decide_eq_false cx22_
      have hIx58_ : gi (sm_pI S0_ 13 0 0 1) := gi_pI hI_ (show 0 ≤ 1 ∧ 1 ≤ 4 from ⟨by omega, by omega⟩)
      have hFx59_ : ai_fr (sx_W vw_419n) S0_ (sm_pI S0_ 13 0 0 1) := ai_fr_tr hF_ (ai_fr_pI rfl)
      refine sm_T_go 7 (c1 := (51, [some (.inr (.inr (some (13, 0)))), some (.inl a1_), some (.inl a2_), some (.inl vx6_), none, none], [.inl 0], sm_pI S0_ 13 0 0 1)) rfl ?_
      refine sm_T_ri rfl ⟨_, _, rfl, _, rfl, hIx58_, hFx59_, ?_⟩
      refine ⟨⟨by omega, by omega⟩, hJ_, ⟨⟨hrd0_.1, by (show S0_.1 13 0 127 ≤ S0_.1 13 0 127 + 65000; omega)⟩, hmb0_⟩, ?_⟩
      first | exact Or.inl ⟨rf_eq, rfl, by (unfold ora_map; omega)⟩ | exact Or.inr (Or.inl ⟨rf_eq, rfl, by (unfold ora_map; omega), fun ⟨c9_, k1_, k2_, k3_, k4_⟩ => by (rcases d5f with y9_ | ⟨u9_, y1_, y2_, y3_, y4_⟩; (have z9_ := y9_.2 c9_.toNat (by omega); omega); omega)⟩)
