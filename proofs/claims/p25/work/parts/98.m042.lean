/-! 99.zs5 -/
section
/-! the reference: a graph laid; written by wip/p55/gen/vg -/

/-! the_ reference: a_ graph laid for_ mapping -/
/-- the_ node that stands for_ a_ literal -/
def nod (d_ : Int) (S_ : sm_S) (l_ : Int) : Int := S_.2.2.1 166 0 (2048 * d_ + l_ / 2).toNat / 2
/-- what is_ known of_ the_ design that is_ mapped -/
def dmp (F_ N_ d_ : Int) (S_ : sm_S) : Prop := (0 ≤ d_ ∧ d_ ≤ 5 ∧ S_.1 13 0 105 = d_ ∧ S_.2.2.1 160 0 d_.toNat = F_ ∧ S_.2.2.1 159 0 d_.toNat = N_ ∧ 1 ≤ F_ ∧ F_ ≤ 13 ∧ F_ ≤ N_ ∧ N_ ≤ 1013) ∧ dRk d_.toNat S_
theorem nod_b {F_ N_ d_ l_ : Int} {S_ : sm_S} (h_ : dmp F_ N_ d_ S_) (h0_ : 0 ≤ l_) (h1_ : l_ < 2 * N_) : 0 ≤ nod d_ S_ l_ ∧ nod d_ S_ l_ ≤ l_ / 2 ∧ S_.2.2.1 166 0 (2048 * d_ + nod d_ S_ l_).toNat = 2 * nod d_ S_ l_ ∧ ∀ b_ : Int, 0 ≤ b_ ∧ b_ ≤ 1 → i_xor (S_.2.2.1 166 0 (2048 * d_ + l_ / 2).toNat) b_ / 2 = nod d_ S_ l_ := by
  obtain ⟨⟨a1_, a2_, a3_, a4_, a5_, a6_, a7_, a8_, a9_⟩, F1_, I_, R_, N1_, k1_, k2_, k3_, k4_⟩ := h_
  have q_ := k3_.2 (l_ / 2).toNat (by omega)
  obtain ⟨q1_, q2_, -⟩ := q_
  have e_ : 2048 * d_.toNat + (l_ / 2).toNat = (2048 * d_ + l_ / 2).toNat := by omega
  simp only [e_] at q1_ q2_
  unfold nod
  have x_ := q2_
  rw [show 2048 * d_.toNat + (S_.2.2.1 166 0 (2048 * d_ + l_ / 2).toNat / 2).toNat = (2048 * d_ + S_.2.2.1 166 0 (2048 * d_ + l_ / 2).toNat / 2).toNat by omega] at x_
  refine ⟨by omega, by omega, x_, fun b_ hb_ => ?_⟩
  have y_ := i_xb (x_ := S_.2.2.1 166 0 (2048 * d_ + l_ / 2).toNat) (b_ := b_) (by omega) hb_
  omega
theorem nod_p {F_ N_ d_ k_ : Int} {S_ : sm_S} (h_ : dmp F_ N_ d_ S_) (h0_ : F_ ≤ k_) (h1_ : k_ < N_) (hs_ : S_.2.2.1 166 0 (2048 * d_ + k_).toNat = 2 * k_) : (2 ≤ S_.2.2.1 164 0 (2048 * d_ + k_).toNat ∧ S_.2.2.1 164 0 (2048 * d_ + k_).toNat < 2 * k_ ∧ 1 ≤ nod d_ S_ (S_.2.2.1 164 0 (2048 * d_ + k_).toNat) ∧ nod d_ S_ (S_.2.2.1 164 0 (2048 * d_ + k_).toNat) < k_) ∧ (2 ≤ S_.2.2.1 165 0 (2048 * d_ + k_).toNat ∧ S_.2.2.1 165 0 (2048 * d_ + k_).toNat < 2 * k_ ∧ 1 ≤ nod d_ S_ (S_.2.2.1 165 0 (2048 * d_ + k_).toNat) ∧ nod d_ S_ (S_.2.2.1 165 0 (2048 * d_ + k_).toNat) < k_) := by
  have hh_ := h_
  obtain ⟨⟨a1_, a2_, a3_, a4_, a5_, a6_, a7_, a8_, a9_⟩, F1_, I_, R_, N1_, k1_, k2_, k3_, k4_⟩ := h_
  have g_ := k2_ k_.toNat (by omega) (by omega)
  have q_ := (k3_.2 k_.toNat (by omega)).2.2 (by omega)
  have e_ : 2048 * d_.toNat + k_.toNat = (2048 * d_ + k_).toNat := by omega
  simp only [e_] at g_ q_
  have m_ := q_ (by omega)
  unfold m3 at m_
  simp only [e_] at m_
  rw [show 2048 * d_.toNat + (S_.2.2.1 164 0 (2048 * d_ + k_).toNat / 2).toNat = (2048 * d_ + S_.2.2.1 164 0 (2048 * d_ + k_).toNat / 2).toNat by omega, show 2048 * d_.toNat + (S_.2.2.1 165 0 (2048 * d_ + k_).toNat / 2).toNat = (2048 * d_ + S_.2.2.1 165 0 (2048 * d_ + k_).toNat / 2).toNat by omega] at m_
  have b1_ := nod_b hh_ (l_ := S_.2.2.1 164 0 (2048 * d_ + k_).toNat) (by omega) (by omega)
  have b2_ := nod_b hh_ (l_ := S_.2.2.1 165 0 (2048 * d_ + k_).toNat) (by omega) (by omega)
  have c1_ : 1 ≤ nod d_ S_ (S_.2.2.1 164 0 (2048 * d_ + k_).toNat) := m_.1
  have c2_ : 1 ≤ nod d_ S_ (S_.2.2.1 165 0 (2048 * d_ + k_).toNat) := m_.2.1
  omega
theorem dmp_fr {w_ : sx_Wl} {F_ N_ d_ : Int} {S_ S'_ : sm_S} (h_ : dmp F_ N_ d_ S_) (g_ : ai_fr (sx_W w_) S_ S'_) (h1_ : (sx_W w_).1 13 105 = false := by rfl) (q_ : dwf w_ = true := by rfl) : dmp F_ N_ d_ S'_ := by
  refine ⟨?_, dRk_fr h_.2 g_ (fun t_ a_ b_ => dwf_0 q_ (by omega) a_)⟩
  rw [g_.1 13 0 105 h1_, fr_arr (t := 160) g_ (dwf_0 q_ (by decide) (by decide)), fr_arr (t := 159) g_ (dwf_0 q_ (by decide) (by decide))]
  exact h_.1
theorem nod_fr {w_ : sx_Wl} {d_ : Int} {S_ S'_ : sm_S} (g_ : ai_fr (sx_W w_) S_ S'_) (q_ : dwf w_ = true := by rfl) : nod d_ S'_ = nod d_ S_ := by
  funext l_
  unfold nod
  rw [fr_arr (t := 166) g_ (dwf_0 q_ (by decide) (by decide))]
theorem dmp_l {F_ N_ d_ k_ : Int} {S_ : sm_S} (h_ : dmp F_ N_ d_ S_) : (0 ≤ k_ → k_ < S_.2.2.1 156 0 d_.toNat → 0 ≤ S_.2.2.1 167 0 (16 * d_ + k_).toNat ∧ S_.2.2.1 167 0 (16 * d_ + k_).toNat < 2 * N_) ∧ (0 ≤ k_ → k_ < S_.2.2.1 155 0 d_.toNat → 0 ≤ S_.2.2.1 168 0 (6 * d_ + k_).toNat ∧ S_.2.2.1 168 0 (6 * d_ + k_).toNat < 2 * N_) := by
  obtain ⟨⟨a1_, a2_, a3_, a4_, a5_, a6_, a7_, a8_, a9_⟩, F1_, I_, R_, N1_, k1_, k2_, k3_, k4_, k5_, -⟩ := h_
  refine ⟨fun h0_ h1_ => ?_, fun h0_ h1_ => ?_⟩
  · have q_ := k4_ k_.toNat (by omega)
    rw [show 16 * d_.toNat + k_.toNat = (16 * d_ + k_).toNat by omega] at q_
    omega
  · have q_ := k5_ k_.toNat (by omega)
    rw [show 6 * d_.toNat + k_.toNat = (6 * d_ + k_).toNat by omega] at q_
    omega
/-- nodes that are_ wanted stand for_ themselves -/
def gwn (N_ d_ : Int) (S_ : sm_S) : Prop := ∀ k_ : Int, 0 ≤ k_ → k_ < N_ → S_.2.2.1 202 0 k_.toNat = 1 → S_.2.2.1 166 0 (2048 * d_ + k_).toNat = 2 * k_
/-- the_ parts of_ wanted nodes are_ wanted -/
def lgp (S_ : sm_S) (k_ : Int) : Prop := (1 ≤ S_.2.2.1 199 0 k_.toNat / 2 ∧ S_.2.2.1 199 0 k_.toNat / 2 < k_ ∧ S_.2.2.1 202 0 (S_.2.2.1 199 0 k_.toNat / 2).toNat = 1) ∧ (1 ≤ S_.2.2.1 200 0 k_.toNat / 2 ∧ S_.2.2.1 200 0 k_.toNat / 2 < k_ ∧ S_.2.2.1 202 0 (S_.2.2.1 200 0 k_.toNat / 2).toNat = 1)
def lgn (F_ N_ : Int) (S_ : sm_S) : Prop := ∀ k_ : Int, F_ ≤ k_ → k_ < N_ → S_.2.2.1 202 0 k_.toNat = 1 → lgp S_ k_
/-- roots are_ marked -/
def mrk (F_ : Int) (S_ : sm_S) (q_ : Int) : Prop := S_.2.2.1 202 0 q_.toNat = 1 ∧ (q_ < F_ ∨ S_.2.2.1 203 0 q_.toNat = 1)
def rtd (F_ d_ o_ n_ : Int) (S_ : sm_S) : Prop := (∀ k_ : Int, 0 ≤ k_ → k_ < o_ → mrk F_ S_ (nod d_ S_ (S_.2.2.1 167 0 (16 * d_ + k_).toNat))) ∧ ∀ k_ : Int, 0 ≤ k_ → k_ < n_ → mrk F_ S_ (nod d_ S_ (S_.2.2.1 168 0 (6 * d_ + k_).toNat))
theorem mrk_up {F_ q_ x_ : Int} {S_ S'_ : sm_S} (h_ : mrk F_ S_ q_) (hx_ : 0 ≤ x_) (hq_ : 0 ≤ q_) (e1_ : ∀ j_, S'_.2.2.1 202 0 j_ = if j_ = x_.toNat then 1 else S_.2.2.1 202 0 j_) (e2_ : ∀ j_, S'_.2.2.1 203 0 j_ = if j_ = x_.toNat then (if x_ < F_ then 0 else 1) else S_.2.2.1 203 0 j_) : mrk F_ S'_ q_ := by
  unfold mrk at *
  rw [e1_, e2_]
  by_cases c_ : q_.toNat = x_.toNat
  · rw [if_pos c_, if_pos c_]
    refine ⟨rfl, ?_⟩
    by_cases y_ : q_ < F_
    · exact Or.inl y_
    · right
      rw [if_neg (by omega)]
  · rw [if_neg c_, if_neg c_]
    exact h_
theorem mrk_mo {F_ q_ : Int} {S_ S'_ : sm_S} (h_ : mrk F_ S_ q_) (e1_ : ∀ j_, S_.2.2.1 202 0 j_ = 1 → S'_.2.2.1 202 0 j_ = 1) (e2_ : ∀ j_, S_.2.2.1 203 0 j_ = 1 → S'_.2.2.1 203 0 j_ = 1) : mrk F_ S'_ q_ := by
  refine ⟨e1_ _ h_.1, ?_⟩
  rcases h_.2 with y_ | y_
  · exact Or.inl y_
  · exact Or.inr (e2_ _ y_)
theorem rtd_mo {F_ d_ o_ n_ : Int} {S_ S'_ : sm_S} (h_ : rtd F_ d_ o_ n_ S_) (a1_ : S'_.2.2.1 166 0 = S_.2.2.1 166 0) (a2_ : S'_.2.2.1 167 0 = S_.2.2.1 167 0) (a3_ : S'_.2.2.1 168 0 = S_.2.2.1 168 0) (e1_ : ∀ j_, S_.2.2.1 202 0 j_ = 1 → S'_.2.2.1 202 0 j_ = 1) (e2_ : ∀ j_, S_.2.2.1 203 0 j_ = 1 → S'_.2.2.1 203 0 j_ = 1) : rtd F_ d_ o_ n_ S'_ := by
  have nn9_ : nod d_ S'_ = nod d_ S_ := by
    funext l_
    unfold nod
    rw [a1_]
  unfold rtd
  rw [a2_, a3_, nn9_]
  exact ⟨fun k_ u0_ u1_ => mrk_mo (h_.1 k_ u0_ u1_) e1_ e2_, fun k_ u0_ u1_ => mrk_mo (h_.2 k_ u0_ u1_) e1_ e2_⟩
theorem lgp_mo {k_ : Int} {S_ S'_ : sm_S} (h_ : lgp S_ k_) (a_ : S'_.2.2.1 199 0 k_.toNat = S_.2.2.1 199 0 k_.toNat) (b_ : S'_.2.2.1 200 0 k_.toNat = S_.2.2.1 200 0 k_.toNat) (e1_ : ∀ j_, S_.2.2.1 202 0 j_ = 1 → S'_.2.2.1 202 0 j_ = 1) : lgp S'_ k_ := by
  unfold lgp
  rw [a_, b_]
  exact ⟨⟨h_.1.1, h_.1.2.1, e1_ _ h_.1.2.2⟩, h_.2.1, h_.2.2.1, e1_ _ h_.2.2.2⟩
theorem mrk_nw {F_ x_ : Int} {S_ S'_ : sm_S} (e1_ : ∀ j_, S'_.2.2.1 202 0 j_ = if j_ = x_.toNat then 1 else S_.2.2.1 202 0 j_) (e2_ : ∀ j_, S'_.2.2.1 203 0 j_ = if j_ = x_.toNat then (if x_ < F_ then 0 else 1) else S_.2.2.1 203 0 j_) : mrk F_ S'_ x_ := by
  unfold mrk
  rw [e1_, e2_, if_pos rfl, if_pos rfl]
  refine ⟨rfl, ?_⟩
  by_cases y_ : x_ < F_
  · exact Or.inl y_
  · right
    rw [if_neg y_]
/-! M_.keptLiteral -/
def vw_392 : sx_Wl := ([], [], [])
def vq_392 (l_ : Int) (F_ : Int) (N_ : Int) (d_ : Int) (S0_ : sm_S) (u_ : Option sm_V) (S1_ : sm_S) : Prop := S0_ = S1_ ∧ ∃ v_ : Int, u_ = some (.inl v_) ∧ (v_ / 2 = nod d_ S0_ l_ ∧ 0 ≤ v_ ∧ v_ ≤ 2025 ∧ (v_ = i_xor (S0_.2.2.1 166 0 (2048 * d_ + l_ / 2).toNat) (l_ % 2)))
set_option maxHeartbeats 400000 in
set_option maxRecDepth 20000 in
theorem vc_392 {sc_ : Nat × (Nat → Int)} (l_ : Int) (F_ : Int) (N_ : Int) (d_ : Int) (S0_ : sm_S) (hI_ : gi S0_) (hd_ : dmp F_ N_ d_ S0_) (hl_ : 0 ≤ l_ ∧ l_ < 2 * N_) : sm_T (mt_P sc_) 0 392 (0, [some (.inr (.inr (some (13, 0)))), some (.inl l_)], [], S0_) (fun ro9_ => ∃ u_ S1_, ro9_ = (.inl u_, S1_, 0) ∧ vq_392 l_ F_ N_ d_ S0_ u_ S1_) := by
  have hF_ : ai_fr (sx_W vw_392) S0_ S0_ := ai_fr_rf
  have d1_ := hd_.1
  have bx1_ : 0 ≤ S0_.1 13 0 105 ∧ S0_.1 13 0 105 ≤ 5 := hI_.1 13 0 105 rfl
  refine sm_T_go 5 (c1 := (11, [some (.inr (.inr (some (13, 0)))), some (.inl l_)], [.inl (S0_.1 13 0 105), .inl 2048, .inr (.inr (some (166, 0)))], S0_)) rfl ?_
  refine sm_T_bin (w := 2048 * (S0_.1 13 0 105)) rfl (bi_mul (by omega) (by omega) (by omega)) ?_ -- pc_ 11
  refine sm_T_go 2 (c1 := (14, [some (.inr (.inr (some (13, 0)))), some (.inl l_)], [.inl 1, .inl l_, .inl (2048 * (S0_.1 13 0 105)), .inr (.inr (some (166, 0)))], S0_)) rfl ?_
  refine sm_T_bin (w := (l_ / 2)) rfl (bi_shr (k := 1) (by decide) (by omega) (by omega)) ?_ -- pc_ 14
  refine sm_T_bin (w := 2048 * (S0_.1 13 0 105) + (l_ / 2)) rfl (bi_add (by omega) (by omega) (by omega)) ?_ -- pc_ 15
  refine sm_T_iald (n := 12288) rfl rfl (by omega) (by omega) ?_
  have bx2_ : 0 ≤ S0_.2.2.1 166 0 (2048 * (S0_.1 13 0 105) + (l_ / 2)).toNat ∧ S0_.2.2.1 166 0 (2048 * (S0_.1 13 0 105) + (l_ / 2)).toNat ≤ 2025 := hI_.2 166 0 _
  refine sm_T_go 2 (c1 := (19, [some (.inr (.inr (some (13, 0)))), some (.inl l_)], [.inl 1, .inl l_, .inl (S0_.2.2.1 166 0 (2048 * (S0_.1 13 0 105) + (l_ / 2)).toNat)], S0_)) rfl ?_
  refine sm_T_bin (w := (l_ % 2)) rfl (bi_msk (k := 1) (by decide)) ?_ -- pc_ 19
  refine sm_T_bin (w := (i_xor (S0_.2.2.1 166 0 (2048 * (S0_.1 13 0 105) + (l_ / 2)).toNat) (l_ % 2))) rfl rfl ?_ -- pc_ 20
  have bx3_ := swx (x_ := (S0_.2.2.1 166 0 (2048 * (S0_.1 13 0 105) + (l_ / 2)).toNat)) (b_ := (l_ % 2)) (by omega) (by omega)
  refine sm_T_ri rfl ⟨_, _, rfl, rfl, _, rfl, ?_⟩
  have q9_ := (nod_b hd_ hl_.1 hl_.2).2.2.2 (l_ % 2) (by omega)
  have e9_ : (2048 * S0_.1 13 0 105 + l_ / 2).toNat = (2048 * d_ + l_ / 2).toNat := by (rw [hd_.1.2.2.1])
  rw [← e9_] at q9_ ⊢
  exact ⟨q9_, by omega, by omega, rfl⟩
/-! M_.want -/
/-! M_.layGraph -/
end
