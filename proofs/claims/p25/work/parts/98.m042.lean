/-! 99.zs5 -/
section
/-! the reference: a graph laid; written by wip/p55/gen/vg -/

/-! the_ reference: a_ graph laid for_ mapping -/
/-- the_ node that stands for_ a_ literal -/
def nod (d_ : Int) (S_ : sm_S) (l_ : Int) : Int := S_.2.2.1 166 0 (2048 * d_ + l_ / 2).toNat / 2
/-- what is_ known of_ the_ design that is_ mapped -/
def dmp (F_ N_ d_ : Int) (S_ : sm_S) : Prop := (0 ≤ d_ ∧ d_ ≤ 5 ∧ S_.1 13 0 105 = d_ ∧ S_.2.2.1 160 0 d_.toNat = F_ ∧ S_.2.2.1 159 0 d_.toNat = N_ ∧ 1 ≤ F_ ∧ F_ ≤ 13 ∧ F_ ≤ N_ ∧ N_ ≤ 1013) ∧ dRk d_.toNat S_
theorem nod_b {F_ N_ d_ l_ : Int} {S_ : sm_S} (h_ : dmp F_ N_ d_ S_) (h0_ : 0 ≤ l_) (h1_ : l_ < 2 * N_) : 0 ≤ nod d_ S_ l_ ∧ nod d_ S_ l_ ≤ l_ / 2 ∧ S_.2.2.1 166 0 (2048 * d_ + nod d_ S_ l_).toNat = 2 * nod d_ S_ l_ ∧ ∀ b_ : Int, 0 ≤ b_ ∧ b_ ≤ 1 → i_xor (S_.2.2.1 166 0 (2048 * d_ + l_ / 2).toNat) b_ / 2 = nod d_ S_ l_ := by
  obtain ⟨⟨a1_, a2_, a3_, a4_, a5_, a6_, a7_, a8_, a9_⟩, F1_, I_, R_, N1_, k1_, k2_, k3_, k4_⟩ := h_
  have q_ := k3_.2 (l_ / 2).toNat (by omega)
  obtain ⟨q1_, q2_, -⟩ := q_
  have e_ : 2048 * d_.toNat + (l_ / 2).toNat = (2048 * d_ + l_ / 2).toNat := by omega
  simp only [e_] at q1_ q2_
  unfold nod
  have x_ := q2_
  rw [show 2048 * d_.toNat + (S_.2.2.1 166 0 (2048 * d_ + l_ / 2).toNat / 2).toNat = (2048 * d_ + S_.2.2.1 166 0 (2048 * d_ + l_ / 2).toNat / 2).toNat by omega] at x_
  refine ⟨by omega, by omega, x_, fun b_ hb_ => ?_⟩
  have y_ := i_xb (x_ := S_.2.2.1 166 0 (2048 * d_ + l_ / 2).toNat) (b_ := b_) (by omega) hb_
  omega
theorem nod_p {F_ N_ d_ k_ : Int} {S_ : sm_S} (h_ : dmp F_ N_ d_ S_) (h0_ : F_ ≤ k_) (h1_ : k_ < N_) (hs_ : S_.2.2.1 166 0 (2048 * d_ + k_).toNat = 2 * k_) : (2 ≤ S_.2.2.1 164 0 (2048 * d_ + k_).toNat ∧ S_.2.2.1 164 0 (2048 * d_ + k_).toNat < 2 * k_ ∧ 1 ≤ nod d_ S_ (S_.2.2.1 164 0 (2048 * d_ + k_).toNat) ∧ nod d_ S_ (S_.2.2.1 164 0 (2048 * d_ + k_).toNat) < k_) ∧ (2 ≤ S_.2.2.1 165 0 (2048 * d_ + k_).toNat ∧ S_.2.2.1 165 0 (2048 * d_ + k_).toNat < 2 * k_ ∧ 1 ≤ nod d_ S_ (S_.2.2.1 165 0 (2048 * d_ + k_).toNat) ∧ nod d_ S_ (S_.2.2.1 165 0 (2048 * d_ + k_).toNat) < k_) := by
  have hh_ := h_
  obtain ⟨⟨a1_, a2_, a3_, a4_, a5_, a6_, a7_, a8_, a9_⟩, F1_, I_, R_, N1_, k1_, k2_, k3_, k4_⟩ := h_
  have g_ := k2_ k_.toNat (by omega) (by omega)
  have q_ := (k3_.2 k_.toNat (by omega)).2.2 (by omega)
  have e_ : 2048 * d_.toNat + k_.toNat = (2048 * d_ + k_).toNat := by omega
  simp only [e_] at g_ q_
  have m_ := q_ (by omega)
  unfold m3 at m_
  simp only [e_] at m_
  rw [show 2048 * d_.toNat + (S_.2.2.1 164 0 (2048 * d_ + k_).toNat / 2).toNat = (2048 * d_ + S_.2.2.1 164 0 (2048 * d_ + k_).toNat / 2).toNat by omega, show 2048 * d_.toNat + (S_.2.2.1 165 0 (2048 * d_ + k_).toNat / 2).toNat = (2048 * d_ + S_.2.2.1 165 0 (2048 * d_ + k_).toNat / 2).toNat by omega] at m_
  have b1_ := nod_b hh_ (l_ := S_.2.2.1 164 0 (2048 * d_ + k_).toNat) (by omega) (by omega)
  have b2_ := nod_b hh_ (l_ := S_.2.2.1 165 0 (2048 * d_ + k_).toNat) (by omega) (by omega)
  have c1_ : 1 ≤ nod d_ S_ (S_.2.2.1 164 0 (2048 * d_ + k_).toNat) := m_.1
  have c2_ : 1 ≤ nod d_ S_ (S_.2.2.1 165 0 (2048 * d_ + k_).toNat) := m_.2.1
  omega
theorem dmp_fr {w_ : sx_Wl} {F_ N_ d_ : Int} {S_ S'_ : sm_S} (h_ : dmp F_ N_ d_ S_) (g_ : ai_fr (sx_W w_) S_ S'_) (h1_ : (sx_W w_).1 13 105 = false := by rfl) (q_ : dwf w_ = true := by rfl) : dmp F_ N_ d_ S'_ := by
  refine ⟨?_, dRk_fr h_.2 g_ (fun t_ a_ b_ => dwf_0 q_ (by omega) a_)⟩
  rw [g_.1 13 0 105 h1_, fr_arr (t := 160) g_ (dwf_0 q_ (by decide) (by decide)), fr_arr (t := 159) g_ (dwf_0 q_ (by decide) (by decide))]
  exact h_.1
theorem nod_fr {w_ : sx_Wl} {d_ : Int} {S_ S'_ : sm_S} (g_ : ai_fr (sx_W w_) S_ S'_) (q_ : dwf w_ = true := by rfl) : nod d_ S'_ = nod d_ S_ := by
  funext l_
  unfold nod
  rw [fr_arr (t := 166) g_ (dwf_0 q_ (by decide) (by decide))]
theorem dmp_l {F_ N_ d_ k_ : Int} {S_ : sm_S} (h_ : dmp F_ N_ d_ S_) : (0 ≤ k_ → k_ < S_.2.2.1 156 0 d_.toNat → 0 ≤ S_.2.2.1 167 0 (16 * d_ + k_).toNat ∧ S_.2.2.1 167 0 (16 * d_ + k_).toNat < 2 * N_) ∧ (0 ≤ k_ → k_ < S_.2.2.1 155 0 d_.toNat → 0 ≤ S_.2.2.1 168 0 (6 * d_ + k_).toNat ∧ S_.2.2.1 168 0 (6 * d_ + k_).toNat < 2 * N_) := by
  obtain ⟨⟨a1_, a2_, a3_, a4_, a5_, a6_, a7_, a8_, a9_⟩, F1_, I_, R_, N1_, k1_, k2_, k3_, k4_, k5_, -⟩ := h_
  refine ⟨fun h0_ h1_ => ?_, fun h0_ h1_ => ?_⟩
  · have q_ := k4_ k_.toNat (by omega)
    rw [show 16 * d_.toNat + k_.toNat = (16 * d_ + k_).toNat by omega] at q_
    omega
  · have q_ := k5_ k_.toNat (by omega)
    rw [show 6 * d_.toNat + k_.toNat = (6 * d_ + k_).toNat by omega] at q_
    omega
/-- nodes that are_ wanted stand for_ themselves -/
def gwn (N_ d_ : Int) (S_ : sm_S) : Prop := ∀ k_ : Int, 0 ≤ k_ → k_ < N_ → S_.2.2.1 202 0 k_.toNat = 1 → S_.2.2.1 166 0 (2048 * d_ + k_).toNat = 2 * k_
/-- the_ parts of_ wanted nodes are_ wanted -/
def lgp (S_ : sm_S) (k_ : Int) : Prop := (1 ≤ S_.2.2.1 199 0 k_.toNat / 2 ∧ S_.2.2.1 199 0 k_.toNat / 2 < k_ ∧ S_.2.2.1 202 0 (S_.2.2.1 199 0 k_.toNat / 2).toNat = 1) ∧ (1 ≤ S_.2.2.1 200 0 k_.toNat / 2 ∧ S_.2.2.1 200 0 k_.toNat / 2 < k_ ∧ S_.2.2.1 202 0 (S_.2.2.1 200 0 k_.toNat / 2).toNat = 1)
def lgn (F_ N_ : Int) (S_ : sm_S) : Prop := ∀ k_ : Int, F_ ≤ k_ → k_ < N_ → S_.2.2.1 202 0 k_.toNat = 1 → lgp S_ k_
/-- roots are_ marked -/
def mrk (F_ : Int) (S_ : sm_S) (q_ : Int) : Prop := S_.2.2.1 202 0 q_.toNat = 1 ∧ (q_ < F_ ∨ S_.2.2.1 203 0 q_.toNat = 1)
def rtd (F_ d_ o_ n_ : Int) (S_ : sm_S) : Prop := (∀ k_ : Int, 0 ≤ k_ → k_ < o_ → mrk F_ S_ (nod d_ S_ (S_.2.2.1 167 0 (16 * d_ + k_).toNat))) ∧ ∀ k_ : Int, 0 ≤ k_ → k_ < n_ → mrk F_ S_ (nod d_ S_ (S_.2.2.1 168 0 (6 * d_ + k_).toNat))
theorem mrk_up {F_ q_ x_ : Int} {S_ S'_ : sm_S} (h_ : mrk F_ S_ q_) (hx_ : 0 ≤ x_) (hq_ : 0 ≤ q_) (e1_ : ∀ j_, S'_.2.2.1 202 0 j_ = if j_ = x_.toNat then 1 else S_.2.2.1 202 0 j_) (e2_ : ∀ j_, S'_.2.2.1 203 0 j_ = if j_ = x_.toNat then (if x_ < F_ then 0 else 1) else S_.2.2.1 203 0 j_) : mrk F_ S'_ q_ := by
  unfold mrk at *
  rw [e1_, e2_]
  by_cases c_ : q_.toNat = x_.toNat
  · rw [if_pos c_, if_pos c_]
    refine ⟨rfl, ?_⟩
    by_cases y_ : q_ < F_
    · exact Or.inl y_
    · right
      rw [if_neg (by omega)]
  · rw [if_neg c_, if_neg c_]
    exact h_
theorem mrk_mo {F_ q_ : Int} {S_ S'_ : sm_S} (h_ : mrk F_ S_ q_) (e1_ : ∀ j_, S_.2.2.1 202 0 j_ = 1 → S'_.2.2.1 202 0 j_ = 1) (e2_ : ∀ j_, S_.2.2.1 203 0 j_ = 1 → S'_.2.2.1 203 0 j_ = 1) : mrk F_ S'_ q_ := by
  refine ⟨e1_ _ h_.1, ?_⟩
  rcases h_.2 with y_ | y_
  · exact Or.inl y_
  · exact Or.inr (e2_ _ y_)
theorem rtd_mo {F_ d_ o_ n_ : Int} {S_ S'_ : sm_S} (h_ : rtd F_ d_ o_ n_ S_) (a1_ : S'_.2.2.1 166 0 = S_.2.2.1 166 0) (a2_ : S'_.2.2.1 167 0 = S_.2.2.1 167 0) (a3_ : S'_.2.2.1 168 0 = S_.2.2.1 168 0) (e1_ : ∀ j_, S_.2.2.1 202 0 j_ = 1 → S'_.2.2.1 202 0 j_ = 1) (e2_ : ∀ j_, S_.2.2.1 203 0 j_ = 1 → S'_.2.2.1 203 0 j_ = 1) : rtd F_ d_ o_ n_ S'_ := by
  have nn9_ : nod d_ S'_ = nod d_ S_ := by
    funext l_
    unfold nod
    rw [a1_]
  unfold rtd
  rw [a2_, a3_, nn9_]
  exact ⟨fun k_ u0_ u1_ => mrk_mo (h_.1 k_ u0_ u1_) e1_ e2_, fun k_ u0_ u1_ => mrk_mo (h_.2 k_ u0_ u1_) e1_ e2_⟩
theorem lgp_mo {k_ : Int} {S_ S'_ : sm_S} (h_ : lgp S_ k_) (a_ : S'_.2.2.1 199 0 k_.toNat = S_.2.2.1 199 0 k_.toNat) (b_ : S'_.2.2.1 200 0 k_.toNat = S_.2.2.1 200 0 k_.toNat) (e1_ : ∀ j_, S_.2.2.1 202 0 j_ = 1 → S'_.2.2.1 202 0 j_ = 1) : lgp S'_ k_ := by
  unfold lgp
  rw [a_, b_]
  exact ⟨⟨h_.1.1, h_.1.2.1, e1_ _ h_.1.2.2⟩, h_.2.1, h_.2.2.1, e1_ _ h_.2.2.2⟩
theorem mrk_nw {F_ x_ : Int} {S_ S'_ : sm_S} (e1_ : ∀ j_, S'_.2.2.1 202 0 j_ = if j_ = x_.toNat then 1 else S_.2.2.1 202 0 j_) (e2_ : ∀ j_, S'_.2.2.1 203 0 j_ = if j_ = x_.toNat then (if x_ < F_ then 0 else 1) else S_.2.2.1 203 0 j_) : mrk F_ S'_ x_ := by
  unfold mrk
  rw [e1_, e2_, if_pos rfl, if_pos rfl]
  refine ⟨rfl, ?_⟩
  by_cases y_ : x_ < F_
  · exact Or.inl y_
  · right
    rw [if_neg y_]
/-! M_.keptLiteral -/
def vw_392 : sx_Wl := ([], [], [])
def vq_392 (l_ : Int) (F_ : Int) (N_ : Int) (d_ : Int) (S0_ : sm_S) (u_ : Option sm_V) (S1_ : sm_S) : Prop := S0_ = S1_ ∧ ∃ v_ : Int, u_ = some (.inl v_) ∧ (v_ / 2 = nod d_ S0_ l_ ∧ 0 ≤ v_ ∧ v_ ≤ 2025 ∧ (v_ = i_xor (S0_.2.2.1 166 0 (2048 * d_ + l_ / 2).toNat) (l_ % 2)))
set_option maxHeartbeats 400000 in
set_option maxRecDepth 20000 in
theorem vc_392 {sc_ : Nat × (Nat → Int)} (l_ : Int) (F_ : Int) (N_ : Int) (d_ : Int) (S0_ : sm_S) (hI_ : gi S0_) (hd_ : dmp F_ N_ d_ S0_) (hl_ : 0 ≤ l_ ∧ l_ < 2 * N_) : sm_T (mt_P sc_) 0 392 (0, [some (.inr (.inr (some (13, 0)))), some (.inl l_)], [], S0_) (fun ro9_ => ∃ u_ S1_, ro9_ = (.inl u_, S1_, 0) ∧ vq_392 l_ F_ N_ d_ S0_ u_ S1_) := by
  have hF_ : ai_fr (sx_W vw_392) S0_ S0_ := ai_fr_rf
  have d1_ := hd_.1
  have bx1_ : 0 ≤ S0_.1 13 0 105 ∧ S0_.1 13 0 105 ≤ 5 := hI_.1 13 0 105 rfl
  refine sm_T_go 5 (c1 := (11, [some (.inr (.inr (some (13, 0)))), some (.inl l_)], [.inl (S0_.1 13 0 105), .inl 2048, .inr (.inr (some (166, 0)))], S0_)) rfl ?_
  refine sm_T_bin (w := 2048 * (S0_.1 13 0 105)) rfl (bi_mul (by omega) (by omega) (by omega)) ?_ -- pc_ 11
  refine sm_T_go 2 (c1 := (14, [some (.inr (.inr (some (13, 0)))), some (.inl l_)], [.inl 1, .inl l_, .inl (2048 * (S0_.1 13 0 105)), .inr (.inr (some (166, 0)))], S0_)) rfl ?_
  refine sm_T_bin (w := (l_ / 2)) rfl (bi_shr (k := 1) (by decide) (by omega) (by omega)) ?_ -- pc_ 14
  refine sm_T_bin (w := 2048 * (S0_.1 13 0 105) + (l_ / 2)) rfl (bi_add (by omega) (by omega) (by omega)) ?_ -- pc_ 15
  refine sm_T_iald (n := 12288) rfl rfl (by omega) (by omega) ?_
  have bx2_ : 0 ≤ S0_.2.2.1 166 0 (2048 * (S0_.1 13 0 105) + (l_ / 2)).toNat ∧ S0_.2.2.1 166 0 (2048 * (S0_.1 13 0 105) + (l_ / 2)).toNat ≤ 2025 := hI_.2 166 0 _
  refine sm_T_go 2 (c1 := (19, [some (.inr (.inr (some (13, 0)))), some (.inl l_)], [.inl 1, .inl l_, .inl (S0_.2.2.1 166 0 (2048 * (S0_.1 13 0 105) + (l_ / 2)).toNat)], S0_)) rfl ?_
  refine sm_T_bin (w := (l_ % 2)) rfl (bi_msk (k := 1) (by decide)) ?_ -- pc_ 19
  refine sm_T_bin (w := (i_xor (S0_.2.2.1 166 0 (2048 * (S0_.1 13 0 105) + (l_ / 2)).toNat) (l_ % 2))) rfl rfl ?_ -- pc_ 20
  have bx3_ := swx (x_ := (S0_.2.2.1 166 0 (2048 * (S0_.1 13 0 105) + (l_ / 2)).toNat)) (b_ := (l_ % 2)) (by omega) (by omega)
  refine sm_T_ri rfl ⟨_, _, rfl, rfl, _, rfl, ?_⟩
  have q9_ := (nod_b hd_ hl_.1 hl_.2).2.2.2 (l_ % 2) (by omega)
  have e9_ : (2048 * S0_.1 13 0 105 + l_ / 2).toNat = (2048 * d_ + l_ / 2).toNat := by (rw [hd_.1.2.2.1])
  rw [← e9_] at q9_ ⊢
  exact ⟨q9_, by omega, by omega, rfl⟩
/-! M_.want -/
def vw_393 : sx_Wl := ([], [201, 202, 203], [])
def vq_393 (l_ : Int) (F_ : Int) (N_ : Int) (d_ : Int) (S0_ : sm_S) (u_ : Option sm_V) (S1_ : sm_S) : Prop := u_ = none ∧ gi S1_ ∧ ai_fr (sx_W vw_393) S0_ S1_ ∧ ((∀ j9_, S1_.2.2.1 202 0 j9_ = if j9_ = (nod d_ S0_ l_).toNat then 1 else S0_.2.2.1 202 0 j9_) ∧ ∀ j9_, S1_.2.2.1 203 0 j9_ = if j9_ = (nod d_ S0_ l_).toNat then (if nod d_ S0_ l_ < F_ then 0 else 1) else S0_.2.2.1 203 0 j9_)
set_option maxHeartbeats 400000 in
set_option maxRecDepth 20000 in
theorem vc_393 {sc_ : Nat × (Nat → Int)} (l_ : Int) (F_ : Int) (N_ : Int) (d_ : Int) (S0_ : sm_S) (hI_ : gi S0_) (hd_ : dmp F_ N_ d_ S0_) (hl_ : 0 ≤ l_ ∧ l_ < 2 * N_) : sm_T (mt_P sc_) 1 393 (0, [some (.inr (.inr (some (13, 0)))), some (.inl l_), none], [], S0_) (fun ro9_ => ∃ u_ S1_, ro9_ = (.inl u_, S1_, 0) ∧ vq_393 l_ F_ N_ d_ S0_ u_ S1_) := by
  have hF_ : ai_fr (sx_W vw_393) S0_ S0_ := ai_fr_rf
  have d1_ := hd_.1
  have n9_ := nod_b hd_ hl_.1 hl_.2
  have f9_ : S0_.2.2.1 160 0 (S0_.1 13 0 105).toNat = F_ := by (rw [d1_.2.2.1]; exact d1_.2.2.2.1)
  refine sm_T_go 2 (c1 := (2, [some (.inr (.inr (some (13, 0)))), some (.inl l_), none], [.inl l_, .inr (.inr (some (13, 0)))], S0_)) rfl ?_
  refine sm_T_cal (d1 := 0) (Q1 := vq_392 l_ F_ N_ d_ S0_) rfl rfl (by decide) (vc_392 l_ F_ N_ d_ S0_ hI_ (by exact hd_) (by exact hl_)) (fun u_ Sx1_ px4_ => ?_)
  obtain ⟨rfl, vx6_, rfl, px4_⟩ := px4_
  have e2_ := px4_
  refine sm_T_go 5 (c1 := (12, [some (.inr (.inr (some (13, 0)))), some (.inl l_), some (.inl vx6_)], [.inl 1, .inl vx6_, .inr (.inr (some (202, 0)))], S0_)) rfl ?_
  refine sm_T_bin (w := (vx6_ / 2)) rfl (bi_shr (k := 1) (by decide) (by omega) (by omega)) ?_ -- pc_ 12
  refine sm_T_go 1 (c1 := (14, [some (.inr (.inr (some (13, 0)))), some (.inl l_), some (.inl vx6_)], [.inl 1, .inl (vx6_ / 2), .inr (.inr (some (202, 0)))], S0_)) rfl ?_
  refine sm_T_zas1 (n := 2048) rfl rfl (by omega) (by omega) (by omega) ?_
  have hIx7_ : gi (sm_aI S0_ 202 0 (vx6_ / 2).toNat 1) := gi_aI hI_ (show 0 ≤ 1 ∧ 1 ≤ 1 from ⟨by omega, by omega⟩)
  have hFx8_ : ai_fr (sx_W vw_393) S0_ (sm_aI S0_ 202 0 (vx6_ / 2).toNat 1) := ai_fr_tr hF_ (ai_fr_aI rfl)
  refine sm_T_go 4 (c1 := (21, [some (.inr (.inr (some (13, 0)))), some (.inl l_), some (.inl vx6_)], [.inl 1, .inl vx6_, .inr (.inr (some (203, 0)))], sm_aI S0_ 202 0 (vx6_ / 2).toNat 1)) rfl ?_
  refine sm_T_bin (w := (vx6_ / 2)) rfl (bi_shr (k := 1) (by decide) (by omega) (by omega)) ?_ -- pc_ 21
  refine sm_T_go 2 (c1 := (24, [some (.inr (.inr (some (13, 0)))), some (.inl l_), some (.inl vx6_)], [.inl 1, .inl vx6_, .inl (vx6_ / 2), .inr (.inr (some (203, 0)))], sm_aI S0_ 202 0 (vx6_ / 2).toNat 1)) rfl ?_
  refine sm_T_bin (w := (vx6_ / 2)) rfl (bi_shr (k := 1) (by decide) (by omega) (by omega)) ?_ -- pc_ 24
  have bx9_ : 0 ≤ S0_.1 13 0 105 ∧ S0_.1 13 0 105 ≤ 5 := hI_.1 13 0 105 rfl
  refine sm_T_go 4 (c1 := (33, [some (.inr (.inr (some (13, 0)))), some (.inl l_), some (.inl vx6_)], [.inl (S0_.1 13 0 105), .inr (.inr (some (160, 0))), .inl (vx6_ / 2), .inl (vx6_ / 2), .inr (.inr (some (203, 0)))], sm_aI S0_ 202 0 (vx6_ / 2).toNat 1)) rfl ?_
  refine sm_T_iald (n := 6) rfl rfl (by omega) (by omega) ?_
  have bx10_ : 0 ≤ S0_.2.2.1 160 0 (S0_.1 13 0 105).toNat ∧ S0_.2.2.1 160 0 (S0_.1 13 0 105).toNat ≤ 19 := hI_.2 160 0 _
  refine sm_T_go 0 (c1 := (34, [some (.inr (.inr (some (13, 0)))), some (.inl l_), some (.inl vx6_)], [.inl (S0_.2.2.1 160 0 (S0_.1 13 0 105).toNat), .inl (vx6_ / 2), .inl (vx6_ / 2), .inr (.inr (some (203, 0)))], sm_aI S0_ 202 0 (vx6_ / 2).toNat 1)) rfl ?_
  refine sm_T_br (a := 2) (z := 7) rfl (fun cx11_ => ?_) (fun cx11_ => ?_)
  · have cx11_ : (vx6_ / 2) < (S0_.2.2.1 160 0 (S0_.1 13 0 105).toNat) := of_decide_eq_true cx11_
    refine sm_T_go 1 (c1 := (42, [some (.inr (.inr (some (13, 0)))), some (.inl l_), some (.inl vx6_)], [.inl 0, .inl (vx6_ / 2), .inr (.inr (some (203, 0)))], sm_aI S0_ 202 0 (vx6_ / 2).toNat 1)) rfl ?_
    refine sm_T_zas1 (n := 2048) rfl rfl (by omega) (by omega) (by omega) ?_
    have hIx12_ : gi (sm_aI (sm_aI S0_ 202 0 (vx6_ / 2).toNat 1) 203 0 (vx6_ / 2).toNat 0) := gi_aI hIx7_ (show 0 ≤ 0 ∧ 0 ≤ 1 from ⟨by omega, by omega⟩)
    have hFx13_ : ai_fr (sx_W vw_393) S0_ (sm_aI (sm_aI S0_ 202 0 (vx6_ / 2).toNat 1) 203 0 (vx6_ / 2).toNat 0) := ai_fr_tr hFx8_ (ai_fr_aI rfl)
    refine sm_T_go 4 (c1 := (49, [some (.inr (.inr (some (13, 0)))), some (.inl l_), some (.inl vx6_)], [.inl 1, .inl vx6_, .inr (.inr (some (201, 0)))], sm_aI (sm_aI S0_ 202 0 (vx6_ / 2).toNat 1) 203 0 (vx6_ / 2).toNat 0)) rfl ?_
    refine sm_T_bin (w := (vx6_ / 2)) rfl (bi_shr (k := 1) (by decide) (by omega) (by omega)) ?_ -- pc_ 49
    refine sm_T_go 1 (c1 := (51, [some (.inr (.inr (some (13, 0)))), some (.inl l_), some (.inl vx6_)], [.inl (vx6_ / 2), .inr (.inr (some (201, 0))), .inl (vx6_ / 2), .inr (.inr (some (201, 0)))], sm_aI (sm_aI S0_ 202 0 (vx6_ / 2).toNat 1) 203 0 (vx6_ / 2).toNat 0)) rfl ?_
    refine sm_T_iald (n := 2048) rfl rfl (by omega) (by omega) ?_
    have bx14_ : (-2147483648) ≤ S0_.2.2.1 201 0 (vx6_ / 2).toNat ∧ S0_.2.2.1 201 0 (vx6_ / 2).toNat ≤ 2147483647 := hI_.2 201 0 _
    refine sm_T_go 1 (c1 := (53, [some (.inr (.inr (some (13, 0)))), some (.inl l_), some (.inl vx6_)], [.inl 1, .inl (S0_.2.2.1 201 0 (vx6_ / 2).toNat), .inl (vx6_ / 2), .inr (.inr (some (201, 0)))], sm_aI (sm_aI S0_ 202 0 (vx6_ / 2).toNat 1) 203 0 (vx6_ / 2).toNat 0)) rfl ?_
    refine sm_T_bin (w := (i_add (S0_.2.2.1 201 0 (vx6_ / 2).toNat) 1)) rfl rfl ?_ -- pc_ 53
    have bx15_ := i_add_r (S0_.2.2.1 201 0 (vx6_ / 2).toNat) 1
    refine sm_T_iast (n := 2048) rfl rfl (by omega) (by omega) ?_
    have hIx16_ : gi (sm_aI (sm_aI (sm_aI S0_ 202 0 (vx6_ / 2).toNat 1) 203 0 (vx6_ / 2).toNat 0) 201 0 (vx6_ / 2).toNat (i_add (S0_.2.2.1 201 0 (vx6_ / 2).toNat) 1)) := gi_aI hIx12_ (show (-2147483648) ≤ (i_add (S0_.2.2.1 201 0 (vx6_ / 2).toNat) 1) ∧ (i_add (S0_.2.2.1 201 0 (vx6_ / 2).toNat) 1) ≤ 2147483647 from ⟨by omega, by omega⟩)
    have hFx17_ : ai_fr (sx_W vw_393) S0_ (sm_aI (sm_aI (sm_aI S0_ 202 0 (vx6_ / 2).toNat 1) 203 0 (vx6_ / 2).toNat 0) 201 0 (vx6_ / 2).toNat (i_add (S0_.2.2.1 201 0 (vx6_ / 2).toNat) 1)) := ai_fr_tr hFx13_ (ai_fr_aI rfl)
    refine sm_T_rv rfl ⟨_, _, rfl, rfl, hIx16_, hFx17_, ?_⟩
    refine ⟨fun j9_ => ?_, fun j9_ => ?_⟩
    · (try simp only [rd_eq, rd_ne, rf_eq, rf_nk, rf_nt, rd_fa, rd_af, rd_fl, rd_al, rd_lf, rd_la, rd_leq, rd_lne, rd_fr, rd_ar, ne_eq, Nat.reduceEqDiff, not_false_eq_true]); rw [e2_.1]
    · (try simp only [rd_eq, rd_ne, rf_eq, rf_nk, rf_nt, rd_fa, rd_af, rd_fl, rd_al, rd_lf, rd_la, rd_leq, rd_lne, rd_fr, rd_ar, ne_eq, Nat.reduceEqDiff, not_false_eq_true]); rw [e2_.1]; first | rw [if_pos (show nod d_ S0_ l_ < F_ by omega)] | rw [if_neg (show ¬ nod d_ S0_ l_ < F_ by omega)]
  · have cx11_ : ¬ ((vx6_ / 2) < (S0_.2.2.1 160 0 (S0_.1 13 0 105).toNat)) := of_decide_eq_false cx11_
    refine sm_T_go 2 (c1 := (42, [some (.inr (.inr (some (13, 0)))), some (.inl l_), some (.inl vx6_)], [.inl 1, .inl (vx6_ / 2), .inr (.inr (some (203, 0)))], sm_aI S0_ 202 0 (vx6_ / 2).toNat 1)) rfl ?_
    refine sm_T_zas1 (n := 2048) rfl rfl (by omega) (by omega) (by omega) ?_
    have hIx18_ : gi (sm_aI (sm_aI S0_ 202 0 (vx6_ / 2).toNat 1) 203 0 (vx6_ / 2).toNat 1) := gi_aI hIx7_ (show 0 ≤ 1 ∧ 1 ≤ 1 from ⟨by omega, by omega⟩)
    have hFx19_ : ai_fr (sx_W vw_393) S0_ (sm_aI (sm_aI S0_ 202 0 (vx6_ / 2).toNat 1) 203 0 (vx6_ / 2).toNat 1) := ai_fr_tr hFx8_ (ai_fr_aI rfl)
    refine sm_T_go 4 (c1 := (49, [some (.inr (.inr (some (13, 0)))), some (.inl l_), some (.inl vx6_)], [.inl 1, .inl vx6_, .inr (.inr (some (201, 0)))], sm_aI (sm_aI S0_ 202 0 (vx6_ / 2).toNat 1) 203 0 (vx6_ / 2).toNat 1)) rfl ?_
    refine sm_T_bin (w := (vx6_ / 2)) rfl (bi_shr (k := 1) (by decide) (by omega) (by omega)) ?_ -- pc_ 49
    refine sm_T_go 1 (c1 := (51, [some (.inr (.inr (some (13, 0)))), some (.inl l_), some (.inl vx6_)], [.inl (vx6_ / 2), .inr (.inr (some (201, 0))), .inl (vx6_ / 2), .inr (.inr (some (201, 0)))], sm_aI (sm_aI S0_ 202 0 (vx6_ / 2).toNat 1) 203 0 (vx6_ / 2).toNat 1)) rfl ?_
    refine sm_T_iald (n := 2048) rfl rfl (by omega) (by omega) ?_
    have bx20_ : (-2147483648) ≤ S0_.2.2.1 201 0 (vx6_ / 2).toNat ∧ S0_.2.2.1 201 0 (vx6_ / 2).toNat ≤ 2147483647 := hI_.2 201 0 _
    refine sm_T_go 1 (c1 := (53, [some (.inr (.inr (some (13, 0)))), some (.inl l_), some (.inl vx6_)], [.inl 1, .inl (S0_.2.2.1 201 0 (vx6_ / 2).toNat), .inl (vx6_ / 2), .inr (.inr (some (201, 0)))], sm_aI (sm_aI S0_ 202 0 (vx6_ / 2).toNat 1) 203 0 (vx6_ / 2).toNat 1)) rfl ?_
    refine sm_T_bin (w := (i_add (S0_.2.2.1 201 0 (vx6_ / 2).toNat) 1)) rfl rfl ?_ -- pc_ 53
    have bx21_ := i_add_r (S0_.2.2.1 201 0 (vx6_ / 2).toNat) 1
    refine sm_T_iast (n := 2048) rfl rfl (by omega) (by omega) ?_
    have hIx22_ : gi (sm_aI (sm_aI (sm_aI S0_ 202 0 (vx6_ / 2).toNat 1) 203 0 (vx6_ / 2).toNat 1) 201 0 (vx6_ / 2).toNat (i_add (S0_.2.2.1 201 0 (vx6_ / 2).toNat) 1)) := gi_aI hIx18_ (show (-2147483648) ≤ (i_add (S0_.2.2.1 201 0 (vx6_ / 2).toNat) 1) ∧ (i_add (S0_.2.2.1 201 0 (vx6_ / 2).toNat) 1) ≤ 2147483647 from ⟨by omega, by omega⟩)
    have hFx23_ : ai_fr (sx_W vw_393) S0_ (sm_aI (sm_aI (sm_aI S0_ 202 0 (vx6_ / 2).toNat 1) 203 0 (vx6_ / 2).toNat 1) 201 0 (vx6_ / 2).toNat (i_add (S0_.2.2.1 201 0 (vx6_ / 2).toNat) 1)) := ai_fr_tr hFx19_ (ai_fr_aI rfl)
    refine sm_T_rv rfl ⟨_, _, rfl, rfl, hIx22_, hFx23_, ?_⟩
    refine ⟨fun j9_ => ?_, fun j9_ => ?_⟩
    · (try simp only [rd_eq, rd_ne, rf_eq, rf_nk, rf_nt, rd_fa, rd_af, rd_fl, rd_al, rd_lf, rd_la, rd_leq, rd_lne, rd_fr, rd_ar, ne_eq, Nat.reduceEqDiff, not_false_eq_true]); rw [e2_.1]
    · (try simp only [rd_eq, rd_ne, rf_eq, rf_nk, rf_nt, rd_fa, rd_af, rd_fl, rd_al, rd_lf, rd_la, rd_leq, rd_lne, rd_fr, rd_ar, ne_eq, Nat.reduceEqDiff, not_false_eq_true]); rw [e2_.1]; first | rw [if_pos (show nod d_ S0_ l_ < F_ by omega)] | rw [if_neg (show ¬ nod d_ S0_ l_ < F_ by omega)]
/-! M_.layGraph -/
def vw_394 : sx_Wl := ([], [199, 200, 201, 202, 203], [])
def vq_394 (F_ : Int) (N_ : Int) (d_ : Int) (S0_ : sm_S) (u_ : Option sm_V) (S1_ : sm_S) : Prop := u_ = none ∧ gi S1_ ∧ ai_fr (sx_W vw_394) S0_ S1_ ∧ (lgn F_ N_ S1_ ∧ rtd F_ d_ (S0_.2.2.1 156 0 d_.toNat) (S0_.2.2.1 155 0 d_.toNat) S1_)
set_option maxHeartbeats 4000000 in
set_option maxRecDepth 20000 in
theorem vl_394 {sc_ : Nat × (Nat → Int)} (F_ : Int) (N_ : Int) (d_ : Int) (S0_ : sm_S) (hd_ : dmp F_ N_ d_ S0_) : ∀ nn_ : Nat, (∀ (n_ : Int) (k_ : Int) (S_ : sm_S), gi S_ → ai_fr (sx_W vw_394) S0_ S_ → ((n_ = N_ ∧ 0 ≤ k_ ∧ k_ ≤ N_) ∧ (∀ j9_ : Int, 0 ≤ j9_ → j9_ < k_ → S_.2.2.1 202 0 j9_.toNat = 0) ∧ True) → ((90000 - k_).toNat) < nn_ → sm_T (mt_P sc_) 2 394 (12, [some (.inr (.inr (some (13, 0)))), some (.inl n_), some (.inl k_), none, none], [], S_) (fun ro9_ => ∃ u_ S1_, ro9_ = (.inl u_, S1_, 0) ∧ vq_394 F_ N_ d_ S0_ u_ S1_)) ∧ (∀ (n_ : Int) (k_ : Int) (S_ : sm_S), gi S_ → ai_fr (sx_W vw_394) S0_ S_ → ((n_ = N_ ∧ 0 ≤ k_ ∧ k_ ≤ 16 ∧ k_ ≤ S0_.2.2.1 156 0 d_.toNat) ∧ (gwn N_ d_ S_) ∧ (rtd F_ d_ k_ 0 S_) ∧ True) → ((80000 - k_).toNat) < nn_ → sm_T (mt_P sc_) 2 394 (46, [some (.inr (.inr (some (13, 0)))), some (.inl n_), some (.inl k_), none, none], [], S_) (fun ro9_ => ∃ u_ S1_, ro9_ = (.inl u_, S1_, 0) ∧ vq_394 F_ N_ d_ S0_ u_ S1_)) ∧ (∀ (n_ : Int) (k_ : Int) (S_ : sm_S), gi S_ → ai_fr (sx_W vw_394) S0_ S_ → ((n_ = N_ ∧ 0 ≤ k_ ∧ k_ ≤ 6 ∧ k_ ≤ S0_.2.2.1 155 0 d_.toNat) ∧ (gwn N_ d_ S_) ∧ (rtd F_ d_ (S0_.2.2.1 156 0 d_.toNat) k_ S_) ∧ True) → ((70000 - k_).toNat) < nn_ → sm_T (mt_P sc_) 2 394 (85, [some (.inr (.inr (some (13, 0)))), some (.inl n_), some (.inl k_), none, none], [], S_) (fun ro9_ => ∃ u_ S1_, ro9_ = (.inl u_, S1_, 0) ∧ vq_394 F_ N_ d_ S0_ u_ S1_)) ∧ (∀ (n_ : Int) (k_ : Int) (S_ : sm_S), gi S_ → ai_fr (sx_W vw_394) S0_ S_ → ((n_ = N_ ∧ F_ - 1 ≤ k_ ∧ k_ < N_) ∧ (gwn N_ d_ S_) ∧ (rtd F_ d_ (S0_.2.2.1 156 0 d_.toNat) (S0_.2.2.1 155 0 d_.toNat) S_) ∧ (∀ j9_ : Int, k_ < j9_ → F_ ≤ j9_ → j9_ < N_ → S_.2.2.1 202 0 j9_.toNat = 1 → lgp S_ j9_) ∧ True) → ((10000 + k_).toNat) < nn_ → sm_T (mt_P sc_) 2 394 (126, [some (.inr (.inr (some (13, 0)))), some (.inl n_), some (.inl k_), none, none], [], S_) (fun ro9_ => ∃ u_ S1_, ro9_ = (.inl u_, S1_, 0) ∧ vq_394 F_ N_ d_ S0_ u_ S1_)) ∧ (∀ (n_ : Int) (k_ : Int) (S_ : sm_S), gi S_ → ai_fr (sx_W vw_394) S0_ S_ → ((n_ = N_ ∧ F_ ≤ k_ ∧ k_ ≤ N_) ∧ (rtd F_ d_ (S0_.2.2.1 156 0 d_.toNat) (S0_.2.2.1 155 0 d_.toNat) S_) ∧ (lgn F_ N_ S_) ∧ True) → ((5000 - k_).toNat) < nn_ → sm_T (mt_P sc_) 2 394 (285, [some (.inr (.inr (some (13, 0)))), some (.inl n_), some (.inl k_), none, none], [], S_) (fun ro9_ => ∃ u_ S1_, ro9_ = (.inl u_, S1_, 0) ∧ vq_394 F_ N_ d_ S0_ u_ S1_)) := by
  intro nn_
  induction nn_ with
  | zero => exact ⟨fun _ _ _ _ _ _ h_ => absurd h_ (Nat.not_lt_zero _), fun _ _ _ _ _ _ h_ => absurd h_ (Nat.not_lt_zero _), fun _ _ _ _ _ _ h_ => absurd h_ (Nat.not_lt_zero _), fun _ _ _ _ _ _ h_ => absurd h_ (Nat.not_lt_zero _), fun _ _ _ _ _ _ h_ => absurd h_ (Nat.not_lt_zero _)⟩
  | succ nn_ ih_ =>
    refine ⟨?_, ?_, ?_, ?_, ?_⟩
    · rintro n_ k_ S_ hI_ hF_ ⟨h0_, h1_, -⟩ hm_
      have d9_ := dmp_fr hd_ hF_
      have d1_ := d9_.1
      have n9_ : nod d_ S_ = nod d_ S0_ := nod_fr hF_
      have f154_ : S_.2.2.1 154 0 = S0_.2.2.1 154 0 := fr_arr hF_ rfl
      have f155_ : S_.2.2.1 155 0 = S0_.2.2.1 155 0 := fr_arr hF_ rfl
      have f156_ : S_.2.2.1 156 0 = S0_.2.2.1 156 0 := fr_arr hF_ rfl
      have f159_ : S_.2.2.1 159 0 = S0_.2.2.1 159 0 := fr_arr hF_ rfl
      have f160_ : S_.2.2.1 160 0 = S0_.2.2.1 160 0 := fr_arr hF_ rfl
      have f164_ : S_.2.2.1 164 0 = S0_.2.2.1 164 0 := fr_arr hF_ rfl
      have f165_ : S_.2.2.1 165 0 = S0_.2.2.1 165 0 := fr_arr hF_ rfl
      have f166_ : S_.2.2.1 166 0 = S0_.2.2.1 166 0 := fr_arr hF_ rfl
      have f167_ : S_.2.2.1 167 0 = S0_.2.2.1 167 0 := fr_arr hF_ rfl
      have f168_ : S_.2.2.1 168 0 = S0_.2.2.1 168 0 := fr_arr hF_ rfl
      have c55_ : 0 ≤ S_.2.2.1 155 0 d_.toNat ∧ S_.2.2.1 155 0 d_.toNat ≤ 6 := hI_.2 155 0 _
      have c56_ : 0 ≤ S_.2.2.1 156 0 d_.toNat ∧ S_.2.2.1 156 0 d_.toNat ≤ 16 := hI_.2 156 0 _
      have e155_ : S_.2.2.1 155 0 (S_.1 13 0 105).toNat = S_.2.2.1 155 0 d_.toNat := by rw [d1_.2.2.1]
      have e156_ : S_.2.2.1 156 0 (S_.1 13 0 105).toNat = S_.2.2.1 156 0 d_.toNat := by rw [d1_.2.2.1]
      have e160_ : S_.2.2.1 160 0 (S_.1 13 0 105).toNat = F_ := by (rw [d1_.2.2.1]; exact d1_.2.2.2.1)
      refine sm_T_go 2 (c1 := (14, [some (.inr (.inr (some (13, 0)))), some (.inl n_), some (.inl k_), none, none], [.inl n_, .inl k_], S_)) rfl ?_
      refine sm_T_br (a := 3) (z := 30) rfl (fun cx1_ => ?_) (fun cx1_ => ?_)
      · have cx1_ : n_ ≤ k_ := of_decide_eq_true cx1_
        refine sm_T_go 2 (c1 := (46, [some (.inr (.inr (some (13, 0)))), some (.inl n_), some (.inl 0), none, none], [], S_)) rfl ?_
        refine ih_.2.1 n_ 0 S_ hI_ hF_ ⟨?_, ?_, ?_, trivial⟩ ?_
        · (have x56_ : S_.2.2.1 156 0 d_.toNat = S0_.2.2.1 156 0 d_.toNat := congrFun f156_ _; omega)
        · (intro k9_ u0_ u1_ u2_; rw [h1_ k9_ u0_ (by omega)] at u2_; exact absurd u2_ (by decide))
        · exact ⟨fun i9_ u0_ u1_ => absurd u1_ (by omega), fun i9_ u0_ u1_ => absurd u1_ (by omega)⟩
        · omega
      · have cx1_ : ¬ (n_ ≤ k_) := of_decide_eq_false cx1_
        refine sm_T_go 4 (c1 := (23, [some (.inr (.inr (some (13, 0)))), some (.inl n_), some (.inl k_), none, none], [.inl 0, .inl k_, .inr (.inr (some (202, 0)))], S_)) rfl ?_
        refine sm_T_zas1 (n := 2048) rfl rfl (by omega) (by omega) (by omega) ?_
        have hIx2_ : gi (sm_aI S_ 202 0 k_.toNat 0) := gi_aI hI_ (show 0 ≤ 0 ∧ 0 ≤ 1 from ⟨by omega, by omega⟩)
        have hFx3_ : ai_fr (sx_W vw_394) S0_ (sm_aI S_ 202 0 k_.toNat 0) := ai_fr_tr hF_ (ai_fr_aI rfl)
        refine sm_T_go 4 (c1 := (30, [some (.inr (.inr (some (13, 0)))), some (.inl n_), some (.inl k_), none, none], [.inl 0, .inl k_, .inr (.inr (some (203, 0)))], sm_aI S_ 202 0 k_.toNat 0)) rfl ?_
        refine sm_T_zas1 (n := 2048) rfl rfl (by omega) (by omega) (by omega) ?_
        have hIx4_ : gi (sm_aI (sm_aI S_ 202 0 k_.toNat 0) 203 0 k_.toNat 0) := gi_aI hIx2_ (show 0 ≤ 0 ∧ 0 ≤ 1 from ⟨by omega, by omega⟩)
        have hFx5_ : ai_fr (sx_W vw_394) S0_ (sm_aI (sm_aI S_ 202 0 k_.toNat 0) 203 0 k_.toNat 0) := ai_fr_tr hFx3_ (ai_fr_aI rfl)
        refine sm_T_go 4 (c1 := (37, [some (.inr (.inr (some (13, 0)))), some (.inl n_), some (.inl k_), none, none], [.inl 0, .inl k_, .inr (.inr (some (201, 0)))], sm_aI (sm_aI S_ 202 0 k_.toNat 0) 203 0 k_.toNat 0)) rfl ?_
        refine sm_T_iast (n := 2048) rfl rfl (by omega) (by omega) ?_
        have hIx6_ : gi (sm_aI (sm_aI (sm_aI S_ 202 0 k_.toNat 0) 203 0 k_.toNat 0) 201 0 k_.toNat 0) := gi_aI hIx4_ (show (-2147483648) ≤ 0 ∧ 0 ≤ 2147483647 from ⟨by omega, by omega⟩)
        have hFx7_ : ai_fr (sx_W vw_394) S0_ (sm_aI (sm_aI (sm_aI S_ 202 0 k_.toNat 0) 203 0 k_.toNat 0) 201 0 k_.toNat 0) := ai_fr_tr hFx5_ (ai_fr_aI rfl)
        refine sm_T_inc (a := 2) (z := 1) (v := k_) (w := k_ + 1) rfl rfl (by omega) (by omega) (by omega) ?_ -- pc_ 38
        refine sm_T_go 1 (c1 := (12, [some (.inr (.inr (some (13, 0)))), some (.inl n_), some (.inl (k_ + 1)), none, none], [], sm_aI (sm_aI (sm_aI S_ 202 0 k_.toNat 0) 203 0 k_.toNat 0) 201 0 k_.toNat 0)) rfl ?_
        refine ih_.1 n_ (k_ + 1) (sm_aI (sm_aI (sm_aI S_ 202 0 k_.toNat 0) 203 0 k_.toNat 0) 201 0 k_.toNat 0) hIx6_ hFx7_ ⟨?_, ?_, trivial⟩ ?_
        · omega
        · intro j9_ u0_ u1_
          (try simp only [rd_eq, rd_ne, rf_eq, rf_nk, rf_nt, rd_fa, rd_af, rd_fl, rd_al, rd_lf, rd_la, rd_leq, rd_lne, rd_fr, rd_ar, ne_eq, Nat.reduceEqDiff, not_false_eq_true])
          split
          · rfl
          · exact h1_ j9_ u0_ (by omega)
        · omega
    · rintro n_ k_ S_ hI_ hF_ ⟨h0_, hg_, hr_, -⟩ hm_
      have d9_ := dmp_fr hd_ hF_
      have d1_ := d9_.1
      have n9_ : nod d_ S_ = nod d_ S0_ := nod_fr hF_
      have f154_ : S_.2.2.1 154 0 = S0_.2.2.1 154 0 := fr_arr hF_ rfl
      have f155_ : S_.2.2.1 155 0 = S0_.2.2.1 155 0 := fr_arr hF_ rfl
      have f156_ : S_.2.2.1 156 0 = S0_.2.2.1 156 0 := fr_arr hF_ rfl
      have f159_ : S_.2.2.1 159 0 = S0_.2.2.1 159 0 := fr_arr hF_ rfl
      have f160_ : S_.2.2.1 160 0 = S0_.2.2.1 160 0 := fr_arr hF_ rfl
      have f164_ : S_.2.2.1 164 0 = S0_.2.2.1 164 0 := fr_arr hF_ rfl
      have f165_ : S_.2.2.1 165 0 = S0_.2.2.1 165 0 := fr_arr hF_ rfl
      have f166_ : S_.2.2.1 166 0 = S0_.2.2.1 166 0 := fr_arr hF_ rfl
      have f167_ : S_.2.2.1 167 0 = S0_.2.2.1 167 0 := fr_arr hF_ rfl
      have f168_ : S_.2.2.1 168 0 = S0_.2.2.1 168 0 := fr_arr hF_ rfl
      have c55_ : 0 ≤ S_.2.2.1 155 0 d_.toNat ∧ S_.2.2.1 155 0 d_.toNat ≤ 6 := hI_.2 155 0 _
      have c56_ : 0 ≤ S_.2.2.1 156 0 d_.toNat ∧ S_.2.2.1 156 0 d_.toNat ≤ 16 := hI_.2 156 0 _
      have e155_ : S_.2.2.1 155 0 (S_.1 13 0 105).toNat = S_.2.2.1 155 0 d_.toNat := by rw [d1_.2.2.1]
      have e156_ : S_.2.2.1 156 0 (S_.1 13 0 105).toNat = S_.2.2.1 156 0 d_.toNat := by rw [d1_.2.2.1]
      have e160_ : S_.2.2.1 160 0 (S_.1 13 0 105).toNat = F_ := by (rw [d1_.2.2.1]; exact d1_.2.2.2.1)
      have bx1_ : 0 ≤ S_.1 13 0 105 ∧ S_.1 13 0 105 ≤ 5 := hI_.1 13 0 105 rfl
      refine sm_T_go 5 (c1 := (55, [some (.inr (.inr (some (13, 0)))), some (.inl n_), some (.inl k_), none, none], [.inl (S_.1 13 0 105), .inr (.inr (some (156, 0))), .inl k_], S_)) rfl ?_
      refine sm_T_iald (n := 6) rfl rfl (by omega) (by omega) ?_
      have bx2_ : 0 ≤ S_.2.2.1 156 0 (S_.1 13 0 105).toNat ∧ S_.2.2.1 156 0 (S_.1 13 0 105).toNat ≤ 16 := hI_.2 156 0 _
      refine sm_T_br (a := 3) (z := 27) rfl (fun cx3_ => ?_) (fun cx3_ => ?_)
      · have cx3_ : (S_.2.2.1 156 0 (S_.1 13 0 105).toNat) ≤ k_ := of_decide_eq_true cx3_
        have x56_ : S_.2.2.1 156 0 d_.toNat = S0_.2.2.1 156 0 d_.toNat := congrFun f156_ _
        refine sm_T_go 2 (c1 := (85, [some (.inr (.inr (some (13, 0)))), some (.inl n_), some (.inl 0), none, none], [], S_)) rfl ?_
        refine ih_.2.2.1 n_ 0 S_ hI_ hF_ ⟨?_, ?_, ?_, trivial⟩ ?_
        · (have x55_ : S_.2.2.1 155 0 d_.toNat = S0_.2.2.1 155 0 d_.toNat := congrFun f155_ _; omega)
        · exact hg_
        · (rw [show S0_.2.2.1 156 0 d_.toNat = k_ by omega]; exact hr_)
        · omega
      · have cx3_ : ¬ ((S_.2.2.1 156 0 (S_.1 13 0 105).toNat) ≤ k_) := of_decide_eq_false cx3_
        have x56_ : S_.2.2.1 156 0 d_.toNat = S0_.2.2.1 156 0 d_.toNat := congrFun f156_ _
        have l9_ := (dmp_l d9_ (k_ := k_)).1 (by omega) (by omega)
        have t9_ : (16 * S_.1 13 0 105 + k_).toNat = (16 * d_ + k_).toNat := by (rw [d1_.2.2.1])
        have l8_ := l9_
        rw [← t9_] at l8_
        refine sm_T_go 6 (c1 := (70, [some (.inr (.inr (some (13, 0)))), some (.inl n_), some (.inl k_), none, none], [.inl (S_.1 13 0 105), .inl 16, .inr (.inr (some (167, 0))), .inr (.inr (some (13, 0)))], S_)) rfl ?_
        refine sm_T_bin (w := 16 * (S_.1 13 0 105)) rfl (bi_mul (by omega) (by omega) (by omega)) ?_ -- pc_ 70
        refine sm_T_go 1 (c1 := (72, [some (.inr (.inr (some (13, 0)))), some (.inl n_), some (.inl k_), none, none], [.inl k_, .inl (16 * (S_.1 13 0 105)), .inr (.inr (some (167, 0))), .inr (.inr (some (13, 0)))], S_)) rfl ?_
        refine sm_T_bin (w := 16 * (S_.1 13 0 105) + k_) rfl (bi_add (by omega) (by omega) (by omega)) ?_ -- pc_ 72
        refine sm_T_iald (n := 96) rfl rfl (by omega) (by omega) ?_
        have bx4_ : 0 ≤ S_.2.2.1 167 0 (16 * (S_.1 13 0 105) + k_).toNat ∧ S_.2.2.1 167 0 (16 * (S_.1 13 0 105) + k_).toNat ≤ 2047 := hI_.2 167 0 _
        refine sm_T_cal (d1 := 1) (Q1 := vq_393 (S_.2.2.1 167 0 (16 * (S_.1 13 0 105) + k_).toNat) F_ N_ d_ S_) rfl rfl (by decide) (vc_393 (S_.2.2.1 167 0 (16 * (S_.1 13 0 105) + k_).toNat) F_ N_ d_ S_ hI_ (by exact d9_) (by omega)) (fun u_ Sx5_ px8_ => ?_)
        obtain ⟨rfl, hIx6_, hFx7_, px8_⟩ := px8_
        have hFx9_ : ai_fr (sx_W vw_394) S0_ Sx5_ := ai_fr_tr hF_ (fr_le hFx7_ rfl)
        have ex10_ : Sx5_.1 13 0 105 = S_.1 13 0 105 := hFx7_.1 13 0 105 rfl
        have w74_ := px8_
        rw [n9_, t9_] at w74_
        have n74_ : nod d_ Sx5_ = nod d_ S0_ := (nod_fr hFx7_).trans n9_
        have x74_ : Sx5_.2.2.1 166 0 = S_.2.2.1 166 0 := fr_arr hFx7_ rfl
        have y74_ : Sx5_.2.2.1 167 0 = S_.2.2.1 167 0 := fr_arr hFx7_ rfl
        have z74_ : Sx5_.2.2.1 168 0 = S_.2.2.1 168 0 := fr_arr hFx7_ rfl
        refine sm_T_inc (a := 2) (z := 1) (v := k_) (w := k_ + 1) rfl rfl (by omega) (by omega) (by omega) ?_ -- pc_ 77
        refine sm_T_go 1 (c1 := (46, [some (.inr (.inr (some (13, 0)))), some (.inl n_), some (.inl (k_ + 1)), none, none], [], Sx5_)) rfl ?_
        refine ih_.2.1 n_ (k_ + 1) Sx5_ hIx6_ hFx9_ ⟨?_, ?_, ?_, trivial⟩ ?_
        · omega
        · intro k9_ u0_ u1_ u2_
          rw [x74_]
          rw [w74_.1] at u2_
          by_cases z9_ : k9_.toNat = (nod d_ S0_ (S_.2.2.1 167 0 (16 * d_ + k_).toNat)).toNat
          · have b9_ := nod_b d9_ (l_ := S_.2.2.1 167 0 (16 * d_ + k_).toNat) (by omega) (by omega); rw [n9_] at b9_; rw [show k9_ = nod d_ S0_ (S_.2.2.1 167 0 (16 * d_ + k_).toNat) by omega]; exact b9_.2.2.1
          · rw [if_neg z9_] at u2_; exact hg_ k9_ u0_ u1_ u2_
        · refine ⟨fun i9_ u0_ u1_ => ?_, fun i9_ u0_ u1_ => ?_⟩
          · by_cases q9_ : i9_ = k_
            · rw [q9_, n74_, y74_]; exact mrk_nw w74_.1 w74_.2
            · rw [n74_, y74_]; have b9_ := nod_b d9_ (l_ := S_.2.2.1 167 0 (16 * d_ + k_).toNat) (by omega) (by omega); rw [n9_] at b9_; have m9_ := hr_.1 i9_ u0_ (by omega); rw [n9_] at m9_; have c9_ := (dmp_l d9_ (k_ := i9_)).1 u0_ (by omega); have a9_ := nod_b d9_ c9_.1 c9_.2; rw [n9_] at a9_; exact mrk_up m9_ b9_.1 a9_.1 w74_.1 w74_.2
          · rw [n74_, z74_]; have b9_ := nod_b d9_ (l_ := S_.2.2.1 167 0 (16 * d_ + k_).toNat) (by omega) (by omega); rw [n9_] at b9_; have m9_ := hr_.2 i9_ u0_ u1_; rw [n9_] at m9_; have c9_ := (dmp_l d9_ (k_ := i9_)).2 u0_ (by omega); have a9_ := nod_b d9_ c9_.1 c9_.2; rw [n9_] at a9_; exact mrk_up m9_ b9_.1 a9_.1 w74_.1 w74_.2
        · omega
    · rintro n_ k_ S_ hI_ hF_ ⟨h0_, hg_, hr_, -⟩ hm_
      have d9_ := dmp_fr hd_ hF_
      have d1_ := d9_.1
      have n9_ : nod d_ S_ = nod d_ S0_ := nod_fr hF_
      have f154_ : S_.2.2.1 154 0 = S0_.2.2.1 154 0 := fr_arr hF_ rfl
      have f155_ : S_.2.2.1 155 0 = S0_.2.2.1 155 0 := fr_arr hF_ rfl
      have f156_ : S_.2.2.1 156 0 = S0_.2.2.1 156 0 := fr_arr hF_ rfl
      have f159_ : S_.2.2.1 159 0 = S0_.2.2.1 159 0 := fr_arr hF_ rfl
      have f160_ : S_.2.2.1 160 0 = S0_.2.2.1 160 0 := fr_arr hF_ rfl
      have f164_ : S_.2.2.1 164 0 = S0_.2.2.1 164 0 := fr_arr hF_ rfl
      have f165_ : S_.2.2.1 165 0 = S0_.2.2.1 165 0 := fr_arr hF_ rfl
      have f166_ : S_.2.2.1 166 0 = S0_.2.2.1 166 0 := fr_arr hF_ rfl
      have f167_ : S_.2.2.1 167 0 = S0_.2.2.1 167 0 := fr_arr hF_ rfl
      have f168_ : S_.2.2.1 168 0 = S0_.2.2.1 168 0 := fr_arr hF_ rfl
      have c55_ : 0 ≤ S_.2.2.1 155 0 d_.toNat ∧ S_.2.2.1 155 0 d_.toNat ≤ 6 := hI_.2 155 0 _
      have c56_ : 0 ≤ S_.2.2.1 156 0 d_.toNat ∧ S_.2.2.1 156 0 d_.toNat ≤ 16 := hI_.2 156 0 _
      have e155_ : S_.2.2.1 155 0 (S_.1 13 0 105).toNat = S_.2.2.1 155 0 d_.toNat := by rw [d1_.2.2.1]
      have e156_ : S_.2.2.1 156 0 (S_.1 13 0 105).toNat = S_.2.2.1 156 0 d_.toNat := by rw [d1_.2.2.1]
      have e160_ : S_.2.2.1 160 0 (S_.1 13 0 105).toNat = F_ := by (rw [d1_.2.2.1]; exact d1_.2.2.2.1)
      have bx1_ : 0 ≤ S_.1 13 0 105 ∧ S_.1 13 0 105 ≤ 5 := hI_.1 13 0 105 rfl
      refine sm_T_go 5 (c1 := (94, [some (.inr (.inr (some (13, 0)))), some (.inl n_), some (.inl k_), none, none], [.inl (S_.1 13 0 105), .inr (.inr (some (155, 0))), .inl k_], S_)) rfl ?_
      refine sm_T_iald (n := 6) rfl rfl (by omega) (by omega) ?_
      have bx2_ : 0 ≤ S_.2.2.1 155 0 (S_.1 13 0 105).toNat ∧ S_.2.2.1 155 0 (S_.1 13 0 105).toNat ≤ 6 := hI_.2 155 0 _
      refine sm_T_br (a := 3) (z := 27) rfl (fun cx3_ => ?_) (fun cx3_ => ?_)
      · have cx3_ : (S_.2.2.1 155 0 (S_.1 13 0 105).toNat) ≤ k_ := of_decide_eq_true cx3_
        have x55_ : S_.2.2.1 155 0 d_.toNat = S0_.2.2.1 155 0 d_.toNat := congrFun f155_ _
        refine sm_T_go 2 (c1 := (124, [some (.inr (.inr (some (13, 0)))), some (.inl n_), some (.inl k_), none, none], [.inl 1, .inl n_], S_)) rfl ?_
        refine sm_T_bin (w := n_ - 1) rfl (bi_sub (by omega) (by omega) (by omega)) ?_ -- pc_ 124
        refine sm_T_go 1 (c1 := (126, [some (.inr (.inr (some (13, 0)))), some (.inl n_), some (.inl (n_ - 1)), none, none], [], S_)) rfl ?_
        refine ih_.2.2.2.1 n_ (n_ - 1) S_ hI_ hF_ ⟨?_, ?_, ?_, ?_, trivial⟩ ?_
        · omega
        · exact hg_
        · (rw [show S0_.2.2.1 155 0 d_.toNat = k_ by omega]; exact hr_)
        · (intro j9_ u0_ u1_ u2_; exfalso; omega)
        · omega
      · have cx3_ : ¬ ((S_.2.2.1 155 0 (S_.1 13 0 105).toNat) ≤ k_) := of_decide_eq_false cx3_
        have x55_ : S_.2.2.1 155 0 d_.toNat = S0_.2.2.1 155 0 d_.toNat := congrFun f155_ _
        have x56_ : S_.2.2.1 156 0 d_.toNat = S0_.2.2.1 156 0 d_.toNat := congrFun f156_ _
        have l9_ := (dmp_l d9_ (k_ := k_)).2 (by omega) (by omega)
        have t9_ : (6 * S_.1 13 0 105 + k_).toNat = (6 * d_ + k_).toNat := by (rw [d1_.2.2.1])
        have l8_ := l9_
        rw [← t9_] at l8_
        refine sm_T_go 6 (c1 := (109, [some (.inr (.inr (some (13, 0)))), some (.inl n_), some (.inl k_), none, none], [.inl (S_.1 13 0 105), .inl 6, .inr (.inr (some (168, 0))), .inr (.inr (some (13, 0)))], S_)) rfl ?_
        refine sm_T_bin (w := 6 * (S_.1 13 0 105)) rfl (bi_mul (by omega) (by omega) (by omega)) ?_ -- pc_ 109
        refine sm_T_go 1 (c1 := (111, [some (.inr (.inr (some (13, 0)))), some (.inl n_), some (.inl k_), none, none], [.inl k_, .inl (6 * (S_.1 13 0 105)), .inr (.inr (some (168, 0))), .inr (.inr (some (13, 0)))], S_)) rfl ?_
        refine sm_T_bin (w := 6 * (S_.1 13 0 105) + k_) rfl (bi_add (by omega) (by omega) (by omega)) ?_ -- pc_ 111
        refine sm_T_iald (n := 36) rfl rfl (by omega) (by omega) ?_
        have bx4_ : 0 ≤ S_.2.2.1 168 0 (6 * (S_.1 13 0 105) + k_).toNat ∧ S_.2.2.1 168 0 (6 * (S_.1 13 0 105) + k_).toNat ≤ 2047 := hI_.2 168 0 _
        refine sm_T_cal (d1 := 1) (Q1 := vq_393 (S_.2.2.1 168 0 (6 * (S_.1 13 0 105) + k_).toNat) F_ N_ d_ S_) rfl rfl (by decide) (vc_393 (S_.2.2.1 168 0 (6 * (S_.1 13 0 105) + k_).toNat) F_ N_ d_ S_ hI_ (by exact d9_) (by omega)) (fun u_ Sx5_ px8_ => ?_)
        obtain ⟨rfl, hIx6_, hFx7_, px8_⟩ := px8_
        have hFx9_ : ai_fr (sx_W vw_394) S0_ Sx5_ := ai_fr_tr hF_ (fr_le hFx7_ rfl)
        have ex10_ : Sx5_.1 13 0 105 = S_.1 13 0 105 := hFx7_.1 13 0 105 rfl
        have w113_ := px8_
        rw [n9_, t9_] at w113_
        have n113_ : nod d_ Sx5_ = nod d_ S0_ := (nod_fr hFx7_).trans n9_
        have x113_ : Sx5_.2.2.1 166 0 = S_.2.2.1 166 0 := fr_arr hFx7_ rfl
        have y113_ : Sx5_.2.2.1 167 0 = S_.2.2.1 167 0 := fr_arr hFx7_ rfl
        have z113_ : Sx5_.2.2.1 168 0 = S_.2.2.1 168 0 := fr_arr hFx7_ rfl
        refine sm_T_inc (a := 2) (z := 1) (v := k_) (w := k_ + 1) rfl rfl (by omega) (by omega) (by omega) ?_ -- pc_ 116
        refine sm_T_go 1 (c1 := (85, [some (.inr (.inr (some (13, 0)))), some (.inl n_), some (.inl (k_ + 1)), none, none], [], Sx5_)) rfl ?_
        refine ih_.2.2.1 n_ (k_ + 1) Sx5_ hIx6_ hFx9_ ⟨?_, ?_, ?_, trivial⟩ ?_
        · omega
        · intro k9_ u0_ u1_ u2_
          rw [x113_]
          rw [w113_.1] at u2_
          by_cases z9_ : k9_.toNat = (nod d_ S0_ (S_.2.2.1 168 0 (6 * d_ + k_).toNat)).toNat
          · have b9_ := nod_b d9_ (l_ := S_.2.2.1 168 0 (6 * d_ + k_).toNat) (by omega) (by omega); rw [n9_] at b9_; rw [show k9_ = nod d_ S0_ (S_.2.2.1 168 0 (6 * d_ + k_).toNat) by omega]; exact b9_.2.2.1
          · rw [if_neg z9_] at u2_; exact hg_ k9_ u0_ u1_ u2_
        · refine ⟨fun i9_ u0_ u1_ => ?_, fun i9_ u0_ u1_ => ?_⟩
          · rw [n113_, y113_]; have b9_ := nod_b d9_ (l_ := S_.2.2.1 168 0 (6 * d_ + k_).toNat) (by omega) (by omega); rw [n9_] at b9_; have m9_ := hr_.1 i9_ u0_ u1_; rw [n9_] at m9_; have c9_ := (dmp_l d9_ (k_ := i9_)).1 u0_ (by omega); have a9_ := nod_b d9_ c9_.1 c9_.2; rw [n9_] at a9_; exact mrk_up m9_ b9_.1 a9_.1 w113_.1 w113_.2
          · by_cases q9_ : i9_ = k_
            · rw [q9_, n113_, z113_]; exact mrk_nw w113_.1 w113_.2
            · rw [n113_, z113_]; have b9_ := nod_b d9_ (l_ := S_.2.2.1 168 0 (6 * d_ + k_).toNat) (by omega) (by omega); rw [n9_] at b9_; have m9_ := hr_.2 i9_ u0_ (by omega); rw [n9_] at m9_; have c9_ := (dmp_l d9_ (k_ := i9_)).2 u0_ (by omega); have a9_ := nod_b d9_ c9_.1 c9_.2; rw [n9_] at a9_; exact mrk_up m9_ b9_.1 a9_.1 w113_.1 w113_.2
        · omega
    · rintro n_ k_ S_ hI_ hF_ ⟨h0_, hg_, hr_, hl_, -⟩ hm_
      have d9_ := dmp_fr hd_ hF_
      have d1_ := d9_.1
      have n9_ : nod d_ S_ = nod d_ S0_ := nod_fr hF_
      have f154_ : S_.2.2.1 154 0 = S0_.2.2.1 154 0 := fr_arr hF_ rfl
      have f155_ : S_.2.2.1 155 0 = S0_.2.2.1 155 0 := fr_arr hF_ rfl
      have f156_ : S_.2.2.1 156 0 = S0_.2.2.1 156 0 := fr_arr hF_ rfl
      have f159_ : S_.2.2.1 159 0 = S0_.2.2.1 159 0 := fr_arr hF_ rfl
      have f160_ : S_.2.2.1 160 0 = S0_.2.2.1 160 0 := fr_arr hF_ rfl
      have f164_ : S_.2.2.1 164 0 = S0_.2.2.1 164 0 := fr_arr hF_ rfl
      have f165_ : S_.2.2.1 165 0 = S0_.2.2.1 165 0 := fr_arr hF_ rfl
      have f166_ : S_.2.2.1 166 0 = S0_.2.2.1 166 0 := fr_arr hF_ rfl
      have f167_ : S_.2.2.1 167 0 = S0_.2.2.1 167 0 := fr_arr hF_ rfl
      have f168_ : S_.2.2.1 168 0 = S0_.2.2.1 168 0 := fr_arr hF_ rfl
      have c55_ : 0 ≤ S_.2.2.1 155 0 d_.toNat ∧ S_.2.2.1 155 0 d_.toNat ≤ 6 := hI_.2 155 0 _
      have c56_ : 0 ≤ S_.2.2.1 156 0 d_.toNat ∧ S_.2.2.1 156 0 d_.toNat ≤ 16 := hI_.2 156 0 _
      have e155_ : S_.2.2.1 155 0 (S_.1 13 0 105).toNat = S_.2.2.1 155 0 d_.toNat := by rw [d1_.2.2.1]
      have e156_ : S_.2.2.1 156 0 (S_.1 13 0 105).toNat = S_.2.2.1 156 0 d_.toNat := by rw [d1_.2.2.1]
      have e160_ : S_.2.2.1 160 0 (S_.1 13 0 105).toNat = F_ := by (rw [d1_.2.2.1]; exact d1_.2.2.2.1)
      have bx1_ : 0 ≤ S_.1 13 0 105 ∧ S_.1 13 0 105 ≤ 5 := hI_.1 13 0 105 rfl
      refine sm_T_go 5 (c1 := (135, [some (.inr (.inr (some (13, 0)))), some (.inl n_), some (.inl k_), none, none], [.inl (S_.1 13 0 105), .inr (.inr (some (160, 0))), .inl k_], S_)) rfl ?_
      refine sm_T_iald (n := 6) rfl rfl (by omega) (by omega) ?_
      have bx2_ : 0 ≤ S_.2.2.1 160 0 (S_.1 13 0 105).toNat ∧ S_.2.2.1 160 0 (S_.1 13 0 105).toNat ≤ 19 := hI_.2 160 0 _
      refine sm_T_br (a := 2) (z := 139) rfl (fun cx3_ => ?_) (fun cx3_ => ?_)
      · have cx3_ : k_ < (S_.2.2.1 160 0 (S_.1 13 0 105).toNat) := of_decide_eq_true cx3_
        refine sm_T_go 4 (c1 := (283, [some (.inr (.inr (some (13, 0)))), some (.inl n_), some (.inl k_), none, none], [.inl (S_.1 13 0 105), .inr (.inr (some (160, 0)))], S_)) rfl ?_
        refine sm_T_iald (n := 6) rfl rfl (by omega) (by omega) ?_
        refine sm_T_go 1 (c1 := (285, [some (.inr (.inr (some (13, 0)))), some (.inl n_), some (.inl (S_.2.2.1 160 0 (S_.1 13 0 105).toNat)), none, none], [], S_)) rfl ?_
        refine ih_.2.2.2.2 n_ (S_.2.2.1 160 0 (S_.1 13 0 105).toNat) S_ hI_ hF_ ⟨?_, ?_, ?_, trivial⟩ ?_
        · (rw [e160_]; omega)
        · exact hr_
        · (intro j9_ u0_ u1_ u2_; exact hl_ j9_ (by omega) u0_ u1_ u2_)
        · omega
      · have cx3_ : ¬ (k_ < (S_.2.2.1 160 0 (S_.1 13 0 105).toNat)) := of_decide_eq_false cx3_
        refine sm_T_go 3 (c1 := (144, [some (.inr (.inr (some (13, 0)))), some (.inl n_), some (.inl k_), none, none], [.inl k_, .inr (.inr (some (202, 0)))], S_)) rfl ?_
        refine sm_T_zald (n := 2048) rfl rfl (by omega) (by omega) ?_
        have bx4_ : 0 ≤ S_.2.2.1 202 0 k_.toNat ∧ S_.2.2.1 202 0 k_.toNat ≤ 1 := hI_.2 202 0 _
        refine sm_T_b0 (a := 0) (z := 124) rfl (fun cx5_ => ?_) (fun cx5_ => ?_)
        · have cx5_ : (S_.2.2.1 202 0 k_.toNat) = 0 := of_decide_eq_true cx5_
          refine sm_T_inc (a := 2) (z := (-1)) (v := k_) (w := k_ - 1) rfl rfl (by omega) (by omega) (by omega) ?_ -- pc_ 269
          refine sm_T_go 1 (c1 := (126, [some (.inr (.inr (some (13, 0)))), some (.inl n_), some (.inl (k_ - 1)), none, none], [], S_)) rfl ?_
          refine ih_.2.2.2.1 n_ (k_ - 1) S_ hI_ hF_ ⟨?_, ?_, ?_, ?_, trivial⟩ ?_
          · omega
          · exact hg_
          · exact hr_
          · intro j9_ u0_ u1_ u2_ u3_
            by_cases z9_ : j9_ = k_
            · rw [z9_] at u3_; exfalso; omega
            · exact hl_ j9_ (by omega) u1_ u2_ u3_
          · omega
        · have cx5_ : ¬ ((S_.2.2.1 202 0 k_.toNat) = 0) := of_decide_eq_false cx5_
          have t9_ : (2048 * S_.1 13 0 105 + k_).toNat = (2048 * d_ + k_).toNat := by (rw [d1_.2.2.1])
          have w9_ := hg_ k_ (by omega) (by omega) (by omega)
          have p9_ := nod_p d9_ (k_ := k_) (by omega) (by omega) w9_
          have q1_ := nod_b d9_ (l_ := S_.2.2.1 164 0 (2048 * d_ + k_).toNat) (by omega) (by omega)
          have q2_ := nod_b d9_ (l_ := S_.2.2.1 165 0 (2048 * d_ + k_).toNat) (by omega) (by omega)
          have l8_ : 0 ≤ S_.2.2.1 164 0 (2048 * S_.1 13 0 105 + k_).toNat ∧ S_.2.2.1 164 0 (2048 * S_.1 13 0 105 + k_).toNat < 2 * N_ := by (rw [t9_]; omega)
          have l7_ : 0 ≤ S_.2.2.1 165 0 (2048 * S_.1 13 0 105 + k_).toNat ∧ S_.2.2.1 165 0 (2048 * S_.1 13 0 105 + k_).toNat < 2 * N_ := by (rw [t9_]; omega)
          refine sm_T_go 6 (c1 := (160, [some (.inr (.inr (some (13, 0)))), some (.inl n_), some (.inl k_), none, none], [.inl (S_.1 13 0 105), .inl 2048, .inr (.inr (some (164, 0))), .inr (.inr (some (13, 0)))], S_)) rfl ?_
          refine sm_T_bin (w := 2048 * (S_.1 13 0 105)) rfl (bi_mul (by omega) (by omega) (by omega)) ?_ -- pc_ 160
          refine sm_T_go 1 (c1 := (162, [some (.inr (.inr (some (13, 0)))), some (.inl n_), some (.inl k_), none, none], [.inl k_, .inl (2048 * (S_.1 13 0 105)), .inr (.inr (some (164, 0))), .inr (.inr (some (13, 0)))], S_)) rfl ?_
          refine sm_T_bin (w := 2048 * (S_.1 13 0 105) + k_) rfl (bi_add (by omega) (by omega) (by omega)) ?_ -- pc_ 162
          refine sm_T_iald (n := 12288) rfl rfl (by omega) (by omega) ?_
          have bx6_ : 0 ≤ S_.2.2.1 164 0 (2048 * (S_.1 13 0 105) + k_).toNat ∧ S_.2.2.1 164 0 (2048 * (S_.1 13 0 105) + k_).toNat ≤ 2047 := hI_.2 164 0 _
          refine sm_T_cal (d1 := 0) (Q1 := vq_392 (S_.2.2.1 164 0 (2048 * (S_.1 13 0 105) + k_).toNat) F_ N_ d_ S_) rfl rfl (by decide) (vc_392 (S_.2.2.1 164 0 (2048 * (S_.1 13 0 105) + k_).toNat) F_ N_ d_ S_ hI_ (by exact d9_) (by omega)) (fun u_ Sx7_ px10_ => ?_)
          obtain ⟨rfl, vx12_, rfl, px10_⟩ := px10_
          have e164_ := px10_
          rw [t9_] at e164_
          have a164_ := e164_.1
          refine sm_T_go 7 (c1 := (180, [some (.inr (.inr (some (13, 0)))), some (.inl n_), some (.inl k_), some (.inl vx12_), none], [.inl (S_.1 13 0 105), .inl 2048, .inr (.inr (some (165, 0))), .inr (.inr (some (13, 0)))], S_)) rfl ?_
          refine sm_T_bin (w := 2048 * (S_.1 13 0 105)) rfl (bi_mul (by omega) (by omega) (by omega)) ?_ -- pc_ 180
          refine sm_T_go 1 (c1 := (182, [some (.inr (.inr (some (13, 0)))), some (.inl n_), some (.inl k_), some (.inl vx12_), none], [.inl k_, .inl (2048 * (S_.1 13 0 105)), .inr (.inr (some (165, 0))), .inr (.inr (some (13, 0)))], S_)) rfl ?_
          refine sm_T_bin (w := 2048 * (S_.1 13 0 105) + k_) rfl (bi_add (by omega) (by omega) (by omega)) ?_ -- pc_ 182
          refine sm_T_iald (n := 12288) rfl rfl (by omega) (by omega) ?_
          have bx13_ : 0 ≤ S_.2.2.1 165 0 (2048 * (S_.1 13 0 105) + k_).toNat ∧ S_.2.2.1 165 0 (2048 * (S_.1 13 0 105) + k_).toNat ≤ 2047 := hI_.2 165 0 _
          refine sm_T_cal (d1 := 0) (Q1 := vq_392 (S_.2.2.1 165 0 (2048 * (S_.1 13 0 105) + k_).toNat) F_ N_ d_ S_) rfl rfl (by decide) (vc_392 (S_.2.2.1 165 0 (2048 * (S_.1 13 0 105) + k_).toNat) F_ N_ d_ S_ hI_ (by exact d9_) (by omega)) (fun u_ Sx14_ px17_ => ?_)
          obtain ⟨rfl, vx19_, rfl, px17_⟩ := px17_
          have e184_ := px17_
          rw [t9_] at e184_
          have a184_ := e184_.1
          refine sm_T_go 6 (c1 := (197, [some (.inr (.inr (some (13, 0)))), some (.inl n_), some (.inl k_), some (.inl vx12_), some (.inl vx19_)], [.inl vx19_, .inl vx12_, .inl k_, .inr (.inr (some (199, 0)))], S_)) rfl ?_
          refine sm_T_br (a := 3) (z := 7) rfl (fun cx20_ => ?_) (fun cx20_ => ?_)
          · have cx20_ : vx19_ ≤ vx12_ := of_decide_eq_true cx20_
            refine sm_T_go 1 (c1 := (206, [some (.inr (.inr (some (13, 0)))), some (.inl n_), some (.inl k_), some (.inl vx12_), some (.inl vx19_)], [.inl vx19_, .inl k_, .inr (.inr (some (199, 0)))], S_)) rfl ?_
            refine sm_T_iast (n := 2048) rfl rfl (by omega) (by omega) ?_
            have hIx21_ : gi (sm_aI S_ 199 0 k_.toNat vx19_) := gi_aI hI_ (show 0 ≤ vx19_ ∧ vx19_ ≤ 2025 from ⟨by omega, by omega⟩)
            have hFx22_ : ai_fr (sx_W vw_394) S0_ (sm_aI S_ 199 0 k_.toNat vx19_) := ai_fr_tr hF_ (ai_fr_aI rfl)
            refine sm_T_go 5 (c1 := (215, [some (.inr (.inr (some (13, 0)))), some (.inl n_), some (.inl k_), some (.inl vx12_), some (.inl vx19_)], [.inl vx19_, .inl vx12_, .inl k_, .inr (.inr (some (200, 0)))], sm_aI S_ 199 0 k_.toNat vx19_)) rfl ?_
            refine sm_T_br (a := 3) (z := 8) rfl (fun cx23_ => ?_) (fun cx23_ => ?_)
            · have cx23_ : vx19_ ≤ vx12_ := of_decide_eq_true cx23_
              refine sm_T_go 1 (c1 := (224, [some (.inr (.inr (some (13, 0)))), some (.inl n_), some (.inl k_), some (.inl vx12_), some (.inl vx19_)], [.inl vx12_, .inl k_, .inr (.inr (some (200, 0)))], sm_aI S_ 199 0 k_.toNat vx19_)) rfl ?_
              refine sm_T_iast (n := 2048) rfl rfl (by omega) (by omega) ?_
              have hIx24_ : gi (sm_aI (sm_aI S_ 199 0 k_.toNat vx19_) 200 0 k_.toNat vx12_) := gi_aI hIx21_ (show 0 ≤ vx12_ ∧ vx12_ ≤ 2025 from ⟨by omega, by omega⟩)
              have hFx25_ : ai_fr (sx_W vw_394) S0_ (sm_aI (sm_aI S_ 199 0 k_.toNat vx19_) 200 0 k_.toNat vx12_) := ai_fr_tr hFx22_ (ai_fr_aI rfl)
              refine sm_T_go 4 (c1 := (231, [some (.inr (.inr (some (13, 0)))), some (.inl n_), some (.inl k_), some (.inl vx12_), some (.inl vx19_)], [.inl 1, .inl vx12_, .inr (.inr (some (202, 0)))], sm_aI (sm_aI S_ 199 0 k_.toNat vx19_) 200 0 k_.toNat vx12_)) rfl ?_
              refine sm_T_bin (w := (vx12_ / 2)) rfl (bi_shr (k := 1) (by decide) (by omega) (by omega)) ?_ -- pc_ 231
              refine sm_T_go 1 (c1 := (233, [some (.inr (.inr (some (13, 0)))), some (.inl n_), some (.inl k_), some (.inl vx12_), some (.inl vx19_)], [.inl 1, .inl (vx12_ / 2), .inr (.inr (some (202, 0)))], sm_aI (sm_aI S_ 199 0 k_.toNat vx19_) 200 0 k_.toNat vx12_)) rfl ?_
              refine sm_T_zas1 (n := 2048) rfl rfl (by omega) (by omega) (by omega) ?_
              have hIx26_ : gi (sm_aI (sm_aI (sm_aI S_ 199 0 k_.toNat vx19_) 200 0 k_.toNat vx12_) 202 0 (vx12_ / 2).toNat 1) := gi_aI hIx24_ (show 0 ≤ 1 ∧ 1 ≤ 1 from ⟨by omega, by omega⟩)
              have hFx27_ : ai_fr (sx_W vw_394) S0_ (sm_aI (sm_aI (sm_aI S_ 199 0 k_.toNat vx19_) 200 0 k_.toNat vx12_) 202 0 (vx12_ / 2).toNat 1) := ai_fr_tr hFx25_ (ai_fr_aI rfl)
              refine sm_T_go 4 (c1 := (241, [some (.inr (.inr (some (13, 0)))), some (.inl n_), some (.inl k_), some (.inl vx12_), some (.inl vx19_)], [.inl 1, .inl vx19_, .inr (.inr (some (202, 0)))], sm_aI (sm_aI (sm_aI S_ 199 0 k_.toNat vx19_) 200 0 k_.toNat vx12_) 202 0 (vx12_ / 2).toNat 1)) rfl ?_
              refine sm_T_bin (w := (vx19_ / 2)) rfl (bi_shr (k := 1) (by decide) (by omega) (by omega)) ?_ -- pc_ 241
              refine sm_T_go 1 (c1 := (243, [some (.inr (.inr (some (13, 0)))), some (.inl n_), some (.inl k_), some (.inl vx12_), some (.inl vx19_)], [.inl 1, .inl (vx19_ / 2), .inr (.inr (some (202, 0)))], sm_aI (sm_aI (sm_aI S_ 199 0 k_.toNat vx19_) 200 0 k_.toNat vx12_) 202 0 (vx12_ / 2).toNat 1)) rfl ?_
              refine sm_T_zas1 (n := 2048) rfl rfl (by omega) (by omega) (by omega) ?_
              have hIx28_ : gi (sm_aI (sm_aI (sm_aI (sm_aI S_ 199 0 k_.toNat vx19_) 200 0 k_.toNat vx12_) 202 0 (vx12_ / 2).toNat 1) 202 0 (vx19_ / 2).toNat 1) := gi_aI hIx26_ (show 0 ≤ 1 ∧ 1 ≤ 1 from ⟨by omega, by omega⟩)
              have hFx29_ : ai_fr (sx_W vw_394) S0_ (sm_aI (sm_aI (sm_aI (sm_aI S_ 199 0 k_.toNat vx19_) 200 0 k_.toNat vx12_) 202 0 (vx12_ / 2).toNat 1) 202 0 (vx19_ / 2).toNat 1) := ai_fr_tr hFx27_ (ai_fr_aI rfl)
              refine sm_T_go 4 (c1 := (250, [some (.inr (.inr (some (13, 0)))), some (.inl n_), some (.inl k_), some (.inl vx12_), some (.inl vx19_)], [.inl 1, .inl vx12_, .inr (.inr (some (201, 0)))], sm_aI (sm_aI (sm_aI (sm_aI S_ 199 0 k_.toNat vx19_) 200 0 k_.toNat vx12_) 202 0 (vx12_ / 2).toNat 1) 202 0 (vx19_ / 2).toNat 1)) rfl ?_
              refine sm_T_bin (w := (vx12_ / 2)) rfl (bi_shr (k := 1) (by decide) (by omega) (by omega)) ?_ -- pc_ 250
              refine sm_T_go 1 (c1 := (252, [some (.inr (.inr (some (13, 0)))), some (.inl n_), some (.inl k_), some (.inl vx12_), some (.inl vx19_)], [.inl (vx12_ / 2), .inr (.inr (some (201, 0))), .inl (vx12_ / 2), .inr (.inr (some (201, 0)))], sm_aI (sm_aI (sm_aI (sm_aI S_ 199 0 k_.toNat vx19_) 200 0 k_.toNat vx12_) 202 0 (vx12_ / 2).toNat 1) 202 0 (vx19_ / 2).toNat 1)) rfl ?_
              refine sm_T_iald (n := 2048) rfl rfl (by omega) (by omega) ?_
              have bx30_ : (-2147483648) ≤ S_.2.2.1 201 0 (vx12_ / 2).toNat ∧ S_.2.2.1 201 0 (vx12_ / 2).toNat ≤ 2147483647 := hI_.2 201 0 _
              refine sm_T_go 1 (c1 := (254, [some (.inr (.inr (some (13, 0)))), some (.inl n_), some (.inl k_), some (.inl vx12_), some (.inl vx19_)], [.inl 1, .inl (S_.2.2.1 201 0 (vx12_ / 2).toNat), .inl (vx12_ / 2), .inr (.inr (some (201, 0)))], sm_aI (sm_aI (sm_aI (sm_aI S_ 199 0 k_.toNat vx19_) 200 0 k_.toNat vx12_) 202 0 (vx12_ / 2).toNat 1) 202 0 (vx19_ / 2).toNat 1)) rfl ?_
              refine sm_T_bin (w := (i_add (S_.2.2.1 201 0 (vx12_ / 2).toNat) 1)) rfl rfl ?_ -- pc_ 254
              have bx31_ := i_add_r (S_.2.2.1 201 0 (vx12_ / 2).toNat) 1
              refine sm_T_iast (n := 2048) rfl rfl (by omega) (by omega) ?_
              have hIx32_ : gi (sm_aI (sm_aI (sm_aI (sm_aI (sm_aI S_ 199 0 k_.toNat vx19_) 200 0 k_.toNat vx12_) 202 0 (vx12_ / 2).toNat 1) 202 0 (vx19_ / 2).toNat 1) 201 0 (vx12_ / 2).toNat (i_add (S_.2.2.1 201 0 (vx12_ / 2).toNat) 1)) := gi_aI hIx28_ (show (-2147483648) ≤ (i_add (S_.2.2.1 201 0 (vx12_ / 2).toNat) 1) ∧ (i_add (S_.2.2.1 201 0 (vx12_ / 2).toNat) 1) ≤ 2147483647 from ⟨by omega, by omega⟩)
              have hFx33_ : ai_fr (sx_W vw_394) S0_ (sm_aI (sm_aI (sm_aI (sm_aI (sm_aI S_ 199 0 k_.toNat vx19_) 200 0 k_.toNat vx12_) 202 0 (vx12_ / 2).toNat 1) 202 0 (vx19_ / 2).toNat 1) 201 0 (vx12_ / 2).toNat (i_add (S_.2.2.1 201 0 (vx12_ / 2).toNat) 1)) := ai_fr_tr hFx29_ (ai_fr_aI rfl)
              refine sm_T_go 4 (c1 := (263, [some (.inr (.inr (some (13, 0)))), some (.inl n_), some (.inl k_), some (.inl vx12_), some (.inl vx19_)], [.inl 1, .inl vx19_, .inr (.inr (some (201, 0)))], sm_aI (sm_aI (sm_aI (sm_aI (sm_aI S_ 199 0 k_.toNat vx19_) 200 0 k_.toNat vx12_) 202 0 (vx12_ / 2).toNat 1) 202 0 (vx19_ / 2).toNat 1) 201 0 (vx12_ / 2).toNat (i_add (S_.2.2.1 201 0 (vx12_ / 2).toNat) 1))) rfl ?_
              refine sm_T_bin (w := (vx19_ / 2)) rfl (bi_shr (k := 1) (by decide) (by omega) (by omega)) ?_ -- pc_ 263
              refine sm_T_go 1 (c1 := (265, [some (.inr (.inr (some (13, 0)))), some (.inl n_), some (.inl k_), some (.inl vx12_), some (.inl vx19_)], [.inl (vx19_ / 2), .inr (.inr (some (201, 0))), .inl (vx19_ / 2), .inr (.inr (some (201, 0)))], sm_aI (sm_aI (sm_aI (sm_aI (sm_aI S_ 199 0 k_.toNat vx19_) 200 0 k_.toNat vx12_) 202 0 (vx12_ / 2).toNat 1) 202 0 (vx19_ / 2).toNat 1) 201 0 (vx12_ / 2).toNat (i_add (S_.2.2.1 201 0 (vx12_ / 2).toNat) 1))) rfl ?_
              refine sm_T_iald (n := 2048) rfl rfl (by omega) (by omega) ?_
              have bx34_ : (-2147483648) ≤ (sm_aI (sm_aI (sm_aI (sm_aI (sm_aI S_ 199 0 k_.toNat vx19_) 200 0 k_.toNat vx12_) 202 0 (vx12_ / 2).toNat 1) 202 0 (vx19_ / 2).toNat 1) 201 0 (vx12_ / 2).toNat (i_add (S_.2.2.1 201 0 (vx12_ / 2).toNat) 1)).2.2.1 201 0 (vx19_ / 2).toNat ∧ (sm_aI (sm_aI (sm_aI (sm_aI (sm_aI S_ 199 0 k_.toNat vx19_) 200 0 k_.toNat vx12_) 202 0 (vx12_ / 2).toNat 1) 202 0 (vx19_ / 2).toNat 1) 201 0 (vx12_ / 2).toNat (i_add (S_.2.2.1 201 0 (vx12_ / 2).toNat) 1)).2.2.1 201 0 (vx19_ / 2).toNat ≤ 2147483647 := hIx32_.2 201 0 _
              refine sm_T_go 1 (c1 := (267, [some (.inr (.inr (some (13, 0)))), some (.inl n_), some (.inl k_), some (.inl vx12_), some (.inl vx19_)], [.inl 1, .inl ((sm_aI (sm_aI (sm_aI (sm_aI (sm_aI S_ 199 0 k_.toNat vx19_) 200 0 k_.toNat vx12_) 202 0 (vx12_ / 2).toNat 1) 202 0 (vx19_ / 2).toNat 1) 201 0 (vx12_ / 2).toNat (i_add (S_.2.2.1 201 0 (vx12_ / 2).toNat) 1)).2.2.1 201 0 (vx19_ / 2).toNat), .inl (vx19_ / 2), .inr (.inr (some (201, 0)))], sm_aI (sm_aI (sm_aI (sm_aI (sm_aI S_ 199 0 k_.toNat vx19_) 200 0 k_.toNat vx12_) 202 0 (vx12_ / 2).toNat 1) 202 0 (vx19_ / 2).toNat 1) 201 0 (vx12_ / 2).toNat (i_add (S_.2.2.1 201 0 (vx12_ / 2).toNat) 1))) rfl ?_
              refine sm_T_bin (w := (i_add ((sm_aI (sm_aI (sm_aI (sm_aI (sm_aI S_ 199 0 k_.toNat vx19_) 200 0 k_.toNat vx12_) 202 0 (vx12_ / 2).toNat 1) 202 0 (vx19_ / 2).toNat 1) 201 0 (vx12_ / 2).toNat (i_add (S_.2.2.1 201 0 (vx12_ / 2).toNat) 1)).2.2.1 201 0 (vx19_ / 2).toNat) 1)) rfl rfl ?_ -- pc_ 267
              have bx35_ := i_add_r ((sm_aI (sm_aI (sm_aI (sm_aI (sm_aI S_ 199 0 k_.toNat vx19_) 200 0 k_.toNat vx12_) 202 0 (vx12_ / 2).toNat 1) 202 0 (vx19_ / 2).toNat 1) 201 0 (vx12_ / 2).toNat (i_add (S_.2.2.1 201 0 (vx12_ / 2).toNat) 1)).2.2.1 201 0 (vx19_ / 2).toNat) 1
              refine sm_T_iast (n := 2048) rfl rfl (by omega) (by omega) ?_
              have hIx36_ : gi (sm_aI (sm_aI (sm_aI (sm_aI (sm_aI (sm_aI S_ 199 0 k_.toNat vx19_) 200 0 k_.toNat vx12_) 202 0 (vx12_ / 2).toNat 1) 202 0 (vx19_ / 2).toNat 1) 201 0 (vx12_ / 2).toNat (i_add (S_.2.2.1 201 0 (vx12_ / 2).toNat) 1)) 201 0 (vx19_ / 2).toNat (i_add ((sm_aI (sm_aI (sm_aI (sm_aI (sm_aI S_ 199 0 k_.toNat vx19_) 200 0 k_.toNat vx12_) 202 0 (vx12_ / 2).toNat 1) 202 0 (vx19_ / 2).toNat 1) 201 0 (vx12_ / 2).toNat (i_add (S_.2.2.1 201 0 (vx12_ / 2).toNat) 1)).2.2.1 201 0 (vx19_ / 2).toNat) 1)) := gi_aI hIx32_ (show (-2147483648) ≤ (i_add ((sm_aI (sm_aI (sm_aI (sm_aI (sm_aI S_ 199 0 k_.toNat vx19_) 200 0 k_.toNat vx12_) 202 0 (vx12_ / 2).toNat 1) 202 0 (vx19_ / 2).toNat 1) 201 0 (vx12_ / 2).toNat (i_add (S_.2.2.1 201 0 (vx12_ / 2).toNat) 1)).2.2.1 201 0 (vx19_ / 2).toNat) 1) ∧ (i_add ((sm_aI (sm_aI (sm_aI (sm_aI (sm_aI S_ 199 0 k_.toNat vx19_) 200 0 k_.toNat vx12_) 202 0 (vx12_ / 2).toNat 1) 202 0 (vx19_ / 2).toNat 1) 201 0 (vx12_ / 2).toNat (i_add (S_.2.2.1 201 0 (vx12_ / 2).toNat) 1)).2.2.1 201 0 (vx19_ / 2).toNat) 1) ≤ 2147483647 from ⟨by omega, by omega⟩)
              have hFx37_ : ai_fr (sx_W vw_394) S0_ (sm_aI (sm_aI (sm_aI (sm_aI (sm_aI (sm_aI S_ 199 0 k_.toNat vx19_) 200 0 k_.toNat vx12_) 202 0 (vx12_ / 2).toNat 1) 202 0 (vx19_ / 2).toNat 1) 201 0 (vx12_ / 2).toNat (i_add (S_.2.2.1 201 0 (vx12_ / 2).toNat) 1)) 201 0 (vx19_ / 2).toNat (i_add ((sm_aI (sm_aI (sm_aI (sm_aI (sm_aI S_ 199 0 k_.toNat vx19_) 200 0 k_.toNat vx12_) 202 0 (vx12_ / 2).toNat 1) 202 0 (vx19_ / 2).toNat 1) 201 0 (vx12_ / 2).toNat (i_add (S_.2.2.1 201 0 (vx12_ / 2).toNat) 1)).2.2.1 201 0 (vx19_ / 2).toNat) 1)) := ai_fr_tr hFx33_ (ai_fr_aI rfl)
              refine sm_T_inc (a := 2) (z := (-1)) (v := k_) (w := k_ - 1) rfl rfl (by omega) (by omega) (by omega) ?_ -- pc_ 269
              refine sm_T_go 1 (c1 := (126, [some (.inr (.inr (some (13, 0)))), some (.inl n_), some (.inl (k_ - 1)), some (.inl vx12_), some (.inl vx19_)], [], sm_aI (sm_aI (sm_aI (sm_aI (sm_aI (sm_aI S_ 199 0 k_.toNat vx19_) 200 0 k_.toNat vx12_) 202 0 (vx12_ / 2).toNat 1) 202 0 (vx19_ / 2).toNat 1) 201 0 (vx12_ / 2).toNat (i_add (S_.2.2.1 201 0 (vx12_ / 2).toNat) 1)) 201 0 (vx19_ / 2).toNat (i_add ((sm_aI (sm_aI (sm_aI (sm_aI (sm_aI S_ 199 0 k_.toNat vx19_) 200 0 k_.toNat vx12_) 202 0 (vx12_ / 2).toNat 1) 202 0 (vx19_ / 2).toNat 1) 201 0 (vx12_ / 2).toNat (i_add (S_.2.2.1 201 0 (vx12_ / 2).toNat) 1)).2.2.1 201 0 (vx19_ / 2).toNat) 1))) rfl ?_
              refine sm_T_wk [some (.inr (.inr (some (13, 0)))), some (.inl n_), some (.inl (k_ - 1)), none, none] (by exact ⟨rfl, rfl, rfl, trivial⟩) ?_
              refine ih_.2.2.2.1 n_ (k_ - 1) (sm_aI (sm_aI (sm_aI (sm_aI (sm_aI (sm_aI S_ 199 0 k_.toNat vx19_) 200 0 k_.toNat vx12_) 202 0 (vx12_ / 2).toNat 1) 202 0 (vx19_ / 2).toNat 1) 201 0 (vx12_ / 2).toNat (i_add (S_.2.2.1 201 0 (vx12_ / 2).toNat) 1)) 201 0 (vx19_ / 2).toNat (i_add ((sm_aI (sm_aI (sm_aI (sm_aI (sm_aI S_ 199 0 k_.toNat vx19_) 200 0 k_.toNat vx12_) 202 0 (vx12_ / 2).toNat 1) 202 0 (vx19_ / 2).toNat 1) 201 0 (vx12_ / 2).toNat (i_add (S_.2.2.1 201 0 (vx12_ / 2).toNat) 1)).2.2.1 201 0 (vx19_ / 2).toNat) 1)) hIx36_ hFx37_ ⟨?_, ?_, ?_, ?_, trivial⟩ ?_
              · omega
              · have s2_ : ∀ j9_, S_.2.2.1 202 0 j9_ = 1 → ((sm_aI (sm_aI (sm_aI (sm_aI (sm_aI (sm_aI S_ 199 0 k_.toNat vx19_) 200 0 k_.toNat vx12_) 202 0 (vx12_ / 2).toNat 1) 202 0 (vx19_ / 2).toNat 1) 201 0 (vx12_ / 2).toNat (i_add (S_.2.2.1 201 0 (vx12_ / 2).toNat) 1)) 201 0 (vx19_ / 2).toNat (i_add ((sm_aI (sm_aI (sm_aI (sm_aI (sm_aI S_ 199 0 k_.toNat vx19_) 200 0 k_.toNat vx12_) 202 0 (vx12_ / 2).toNat 1) 202 0 (vx19_ / 2).toNat 1) 201 0 (vx12_ / 2).toNat (i_add (S_.2.2.1 201 0 (vx12_ / 2).toNat) 1)).2.2.1 201 0 (vx19_ / 2).toNat) 1))).2.2.1 202 0 j9_ = 1 := fun j9_ u9_ => by ((try simp only [rd_eq, rd_ne, rf_eq, rf_nk, rf_nt, rd_fa, rd_af, rd_fl, rd_al, rd_lf, rd_la, rd_leq, rd_lne, rd_fr, rd_ar, ne_eq, Nat.reduceEqDiff, not_false_eq_true]); split; rfl; (split; rfl; exact u9_))
                have s3_ : ((sm_aI (sm_aI (sm_aI (sm_aI (sm_aI (sm_aI S_ 199 0 k_.toNat vx19_) 200 0 k_.toNat vx12_) 202 0 (vx12_ / 2).toNat 1) 202 0 (vx19_ / 2).toNat 1) 201 0 (vx12_ / 2).toNat (i_add (S_.2.2.1 201 0 (vx12_ / 2).toNat) 1)) 201 0 (vx19_ / 2).toNat (i_add ((sm_aI (sm_aI (sm_aI (sm_aI (sm_aI S_ 199 0 k_.toNat vx19_) 200 0 k_.toNat vx12_) 202 0 (vx12_ / 2).toNat 1) 202 0 (vx19_ / 2).toNat 1) 201 0 (vx12_ / 2).toNat (i_add (S_.2.2.1 201 0 (vx12_ / 2).toNat) 1)).2.2.1 201 0 (vx19_ / 2).toNat) 1))).2.2.1 203 0 = S_.2.2.1 203 0 := by (funext j9_; (try simp only [rd_eq, rd_ne, rf_eq, rf_nk, rf_nt, rd_fa, rd_af, rd_fl, rd_al, rd_lf, rd_la, rd_leq, rd_lne, rd_fr, rd_ar, ne_eq, Nat.reduceEqDiff, not_false_eq_true]))
                have s6_ : ((sm_aI (sm_aI (sm_aI (sm_aI (sm_aI (sm_aI S_ 199 0 k_.toNat vx19_) 200 0 k_.toNat vx12_) 202 0 (vx12_ / 2).toNat 1) 202 0 (vx19_ / 2).toNat 1) 201 0 (vx12_ / 2).toNat (i_add (S_.2.2.1 201 0 (vx12_ / 2).toNat) 1)) 201 0 (vx19_ / 2).toNat (i_add ((sm_aI (sm_aI (sm_aI (sm_aI (sm_aI S_ 199 0 k_.toNat vx19_) 200 0 k_.toNat vx12_) 202 0 (vx12_ / 2).toNat 1) 202 0 (vx19_ / 2).toNat 1) 201 0 (vx12_ / 2).toNat (i_add (S_.2.2.1 201 0 (vx12_ / 2).toNat) 1)).2.2.1 201 0 (vx19_ / 2).toNat) 1))).2.2.1 166 0 = S_.2.2.1 166 0 := by (funext j9_; (try simp only [rd_eq, rd_ne, rf_eq, rf_nk, rf_nt, rd_fa, rd_af, rd_fl, rd_al, rd_lf, rd_la, rd_leq, rd_lne, rd_fr, rd_ar, ne_eq, Nat.reduceEqDiff, not_false_eq_true]))
                intro k9_ u0_ u1_ u2_
                rw [s6_]
                (try simp only [rd_eq, rd_ne, rf_eq, rf_nk, rf_nt, rd_fa, rd_af, rd_fl, rd_al, rd_lf, rd_la, rd_leq, rd_lne, rd_fr, rd_ar, ne_eq, Nat.reduceEqDiff, not_false_eq_true] at *)
                rw [a164_, a184_] at u2_
                by_cases z9_ : k9_.toNat = (nod d_ S_ (S_.2.2.1 165 0 (2048 * d_ + k_).toNat)).toNat
                · rw [show k9_ = nod d_ S_ (S_.2.2.1 165 0 (2048 * d_ + k_).toNat) by omega]; exact q2_.2.2.1
                · rw [if_neg z9_] at u2_
                  by_cases y9_ : k9_.toNat = (nod d_ S_ (S_.2.2.1 164 0 (2048 * d_ + k_).toNat)).toNat
                  · rw [show k9_ = nod d_ S_ (S_.2.2.1 164 0 (2048 * d_ + k_).toNat) by omega]; exact q1_.2.2.1
                  · rw [if_neg y9_] at u2_; exact hg_ k9_ u0_ u1_ u2_
              · have s2_ : ∀ j9_, S_.2.2.1 202 0 j9_ = 1 → ((sm_aI (sm_aI (sm_aI (sm_aI (sm_aI (sm_aI S_ 199 0 k_.toNat vx19_) 200 0 k_.toNat vx12_) 202 0 (vx12_ / 2).toNat 1) 202 0 (vx19_ / 2).toNat 1) 201 0 (vx12_ / 2).toNat (i_add (S_.2.2.1 201 0 (vx12_ / 2).toNat) 1)) 201 0 (vx19_ / 2).toNat (i_add ((sm_aI (sm_aI (sm_aI (sm_aI (sm_aI S_ 199 0 k_.toNat vx19_) 200 0 k_.toNat vx12_) 202 0 (vx12_ / 2).toNat 1) 202 0 (vx19_ / 2).toNat 1) 201 0 (vx12_ / 2).toNat (i_add (S_.2.2.1 201 0 (vx12_ / 2).toNat) 1)).2.2.1 201 0 (vx19_ / 2).toNat) 1))).2.2.1 202 0 j9_ = 1 := fun j9_ u9_ => by ((try simp only [rd_eq, rd_ne, rf_eq, rf_nk, rf_nt, rd_fa, rd_af, rd_fl, rd_al, rd_lf, rd_la, rd_leq, rd_lne, rd_fr, rd_ar, ne_eq, Nat.reduceEqDiff, not_false_eq_true]); split; rfl; (split; rfl; exact u9_))
                have s3_ : ((sm_aI (sm_aI (sm_aI (sm_aI (sm_aI (sm_aI S_ 199 0 k_.toNat vx19_) 200 0 k_.toNat vx12_) 202 0 (vx12_ / 2).toNat 1) 202 0 (vx19_ / 2).toNat 1) 201 0 (vx12_ / 2).toNat (i_add (S_.2.2.1 201 0 (vx12_ / 2).toNat) 1)) 201 0 (vx19_ / 2).toNat (i_add ((sm_aI (sm_aI (sm_aI (sm_aI (sm_aI S_ 199 0 k_.toNat vx19_) 200 0 k_.toNat vx12_) 202 0 (vx12_ / 2).toNat 1) 202 0 (vx19_ / 2).toNat 1) 201 0 (vx12_ / 2).toNat (i_add (S_.2.2.1 201 0 (vx12_ / 2).toNat) 1)).2.2.1 201 0 (vx19_ / 2).toNat) 1))).2.2.1 203 0 = S_.2.2.1 203 0 := by (funext j9_; (try simp only [rd_eq, rd_ne, rf_eq, rf_nk, rf_nt, rd_fa, rd_af, rd_fl, rd_al, rd_lf, rd_la, rd_leq, rd_lne, rd_fr, rd_ar, ne_eq, Nat.reduceEqDiff, not_false_eq_true]))
                have s6_ : ((sm_aI (sm_aI (sm_aI (sm_aI (sm_aI (sm_aI S_ 199 0 k_.toNat vx19_) 200 0 k_.toNat vx12_) 202 0 (vx12_ / 2).toNat 1) 202 0 (vx19_ / 2).toNat 1) 201 0 (vx12_ / 2).toNat (i_add (S_.2.2.1 201 0 (vx12_ / 2).toNat) 1)) 201 0 (vx19_ / 2).toNat (i_add ((sm_aI (sm_aI (sm_aI (sm_aI (sm_aI S_ 199 0 k_.toNat vx19_) 200 0 k_.toNat vx12_) 202 0 (vx12_ / 2).toNat 1) 202 0 (vx19_ / 2).toNat 1) 201 0 (vx12_ / 2).toNat (i_add (S_.2.2.1 201 0 (vx12_ / 2).toNat) 1)).2.2.1 201 0 (vx19_ / 2).toNat) 1))).2.2.1 166 0 = S_.2.2.1 166 0 := by (funext j9_; (try simp only [rd_eq, rd_ne, rf_eq, rf_nk, rf_nt, rd_fa, rd_af, rd_fl, rd_al, rd_lf, rd_la, rd_leq, rd_lne, rd_fr, rd_ar, ne_eq, Nat.reduceEqDiff, not_false_eq_true]))
                exact rtd_mo hr_ s6_ (by (funext j9_; (try simp only [rd_eq, rd_ne, rf_eq, rf_nk, rf_nt, rd_fa, rd_af, rd_fl, rd_al, rd_lf, rd_la, rd_leq, rd_lne, rd_fr, rd_ar, ne_eq, Nat.reduceEqDiff, not_false_eq_true]))) (by (funext j9_; (try simp only [rd_eq, rd_ne, rf_eq, rf_nk, rf_nt, rd_fa, rd_af, rd_fl, rd_al, rd_lf, rd_la, rd_leq, rd_lne, rd_fr, rd_ar, ne_eq, Nat.reduceEqDiff, not_false_eq_true]))) s2_ (fun j9_ u9_ => by (rw [s3_]; exact u9_))
              · have s2_ : ∀ j9_, S_.2.2.1 202 0 j9_ = 1 → ((sm_aI (sm_aI (sm_aI (sm_aI (sm_aI (sm_aI S_ 199 0 k_.toNat vx19_) 200 0 k_.toNat vx12_) 202 0 (vx12_ / 2).toNat 1) 202 0 (vx19_ / 2).toNat 1) 201 0 (vx12_ / 2).toNat (i_add (S_.2.2.1 201 0 (vx12_ / 2).toNat) 1)) 201 0 (vx19_ / 2).toNat (i_add ((sm_aI (sm_aI (sm_aI (sm_aI (sm_aI S_ 199 0 k_.toNat vx19_) 200 0 k_.toNat vx12_) 202 0 (vx12_ / 2).toNat 1) 202 0 (vx19_ / 2).toNat 1) 201 0 (vx12_ / 2).toNat (i_add (S_.2.2.1 201 0 (vx12_ / 2).toNat) 1)).2.2.1 201 0 (vx19_ / 2).toNat) 1))).2.2.1 202 0 j9_ = 1 := fun j9_ u9_ => by ((try simp only [rd_eq, rd_ne, rf_eq, rf_nk, rf_nt, rd_fa, rd_af, rd_fl, rd_al, rd_lf, rd_la, rd_leq, rd_lne, rd_fr, rd_ar, ne_eq, Nat.reduceEqDiff, not_false_eq_true]); split; rfl; (split; rfl; exact u9_))
                have s3_ : ((sm_aI (sm_aI (sm_aI (sm_aI (sm_aI (sm_aI S_ 199 0 k_.toNat vx19_) 200 0 k_.toNat vx12_) 202 0 (vx12_ / 2).toNat 1) 202 0 (vx19_ / 2).toNat 1) 201 0 (vx12_ / 2).toNat (i_add (S_.2.2.1 201 0 (vx12_ / 2).toNat) 1)) 201 0 (vx19_ / 2).toNat (i_add ((sm_aI (sm_aI (sm_aI (sm_aI (sm_aI S_ 199 0 k_.toNat vx19_) 200 0 k_.toNat vx12_) 202 0 (vx12_ / 2).toNat 1) 202 0 (vx19_ / 2).toNat 1) 201 0 (vx12_ / 2).toNat (i_add (S_.2.2.1 201 0 (vx12_ / 2).toNat) 1)).2.2.1 201 0 (vx19_ / 2).toNat) 1))).2.2.1 203 0 = S_.2.2.1 203 0 := by (funext j9_; (try simp only [rd_eq, rd_ne, rf_eq, rf_nk, rf_nt, rd_fa, rd_af, rd_fl, rd_al, rd_lf, rd_la, rd_leq, rd_lne, rd_fr, rd_ar, ne_eq, Nat.reduceEqDiff, not_false_eq_true]))
                have s6_ : ((sm_aI (sm_aI (sm_aI (sm_aI (sm_aI (sm_aI S_ 199 0 k_.toNat vx19_) 200 0 k_.toNat vx12_) 202 0 (vx12_ / 2).toNat 1) 202 0 (vx19_ / 2).toNat 1) 201 0 (vx12_ / 2).toNat (i_add (S_.2.2.1 201 0 (vx12_ / 2).toNat) 1)) 201 0 (vx19_ / 2).toNat (i_add ((sm_aI (sm_aI (sm_aI (sm_aI (sm_aI S_ 199 0 k_.toNat vx19_) 200 0 k_.toNat vx12_) 202 0 (vx12_ / 2).toNat 1) 202 0 (vx19_ / 2).toNat 1) 201 0 (vx12_ / 2).toNat (i_add (S_.2.2.1 201 0 (vx12_ / 2).toNat) 1)).2.2.1 201 0 (vx19_ / 2).toNat) 1))).2.2.1 166 0 = S_.2.2.1 166 0 := by (funext j9_; (try simp only [rd_eq, rd_ne, rf_eq, rf_nk, rf_nt, rd_fa, rd_af, rd_fl, rd_al, rd_lf, rd_la, rd_leq, rd_lne, rd_fr, rd_ar, ne_eq, Nat.reduceEqDiff, not_false_eq_true]))
                intro j9_ u0_ u1_ u2_ u3_
                by_cases z9_ : j9_ = k_
                · subst z9_
                  unfold lgp
                  (try simp only [rd_eq, rd_ne, rf_eq, rf_nk, rf_nt, rd_fa, rd_af, rd_fl, rd_al, rd_lf, rd_la, rd_leq, rd_lne, rd_fr, rd_ar, ne_eq, Nat.reduceEqDiff, not_false_eq_true])
                  rw [a164_, a184_]
                  first | (rw [if_pos rfl, if_pos rfl]) | skip
                  simp only [if_true]
                  refine ⟨⟨by omega, by omega, ?_⟩, by omega, by omega, ?_⟩ <;> (first | (rw [a164_]) | (rw [a184_]) | skip) <;> (split; rfl; (split; rfl; (exfalso; omega)))
                · have u4_ : S_.2.2.1 202 0 j9_.toNat = 1 := by
                    (try simp only [rd_eq, rd_ne, rf_eq, rf_nk, rf_nt, rd_fa, rd_af, rd_fl, rd_al, rd_lf, rd_la, rd_leq, rd_lne, rd_fr, rd_ar, ne_eq, Nat.reduceEqDiff, not_false_eq_true] at *)
                    rw [a164_, a184_] at u3_
                    rw [if_neg (by omega), if_neg (by omega)] at u3_
                    exact u3_
                  exact lgp_mo (hl_ j9_ (by omega) u1_ u2_ u4_) (by ((try simp only [rd_eq, rd_ne, rf_eq, rf_nk, rf_nt, rd_fa, rd_af, rd_fl, rd_al, rd_lf, rd_la, rd_leq, rd_lne, rd_fr, rd_ar, ne_eq, Nat.reduceEqDiff, not_false_eq_true]); rw [if_neg (by omega)])) (by ((try simp only [rd_eq, rd_ne, rf_eq, rf_nk, rf_nt, rd_fa, rd_af, rd_fl, rd_al, rd_lf, rd_la, rd_leq, rd_lne, rd_fr, rd_ar, ne_eq, Nat.reduceEqDiff, not_false_eq_true]); rw [if_neg (by omega)])) s2_
              · omega
            · have cx23_ : ¬ (vx19_ ≤ vx12_) := of_decide_eq_false cx23_
              exfalso; omega
          · have cx20_ : ¬ (vx19_ ≤ vx12_) := of_decide_eq_false cx20_
            refine sm_T_go 2 (c1 := (206, [some (.inr (.inr (some (13, 0)))), some (.inl n_), some (.inl k_), some (.inl vx12_), some (.inl vx19_)], [.inl vx12_, .inl k_, .inr (.inr (some (199, 0)))], S_)) rfl ?_
            refine sm_T_iast (n := 2048) rfl rfl (by omega) (by omega) ?_
            have hIx38_ : gi (sm_aI S_ 199 0 k_.toNat vx12_) := gi_aI hI_ (show 0 ≤ vx12_ ∧ vx12_ ≤ 2025 from ⟨by omega, by omega⟩)
            have hFx39_ : ai_fr (sx_W vw_394) S0_ (sm_aI S_ 199 0 k_.toNat vx12_) := ai_fr_tr hF_ (ai_fr_aI rfl)
            refine sm_T_go 5 (c1 := (215, [some (.inr (.inr (some (13, 0)))), some (.inl n_), some (.inl k_), some (.inl vx12_), some (.inl vx19_)], [.inl vx19_, .inl vx12_, .inl k_, .inr (.inr (some (200, 0)))], sm_aI S_ 199 0 k_.toNat vx12_)) rfl ?_
            refine sm_T_br (a := 3) (z := 8) rfl (fun cx40_ => ?_) (fun cx40_ => ?_)
            · have cx40_ : vx19_ ≤ vx12_ := of_decide_eq_true cx40_
              exfalso; omega
            · have cx40_ : ¬ (vx19_ ≤ vx12_) := of_decide_eq_false cx40_
              refine sm_T_go 2 (c1 := (224, [some (.inr (.inr (some (13, 0)))), some (.inl n_), some (.inl k_), some (.inl vx12_), some (.inl vx19_)], [.inl vx19_, .inl k_, .inr (.inr (some (200, 0)))], sm_aI S_ 199 0 k_.toNat vx12_)) rfl ?_
              refine sm_T_iast (n := 2048) rfl rfl (by omega) (by omega) ?_
              have hIx41_ : gi (sm_aI (sm_aI S_ 199 0 k_.toNat vx12_) 200 0 k_.toNat vx19_) := gi_aI hIx38_ (show 0 ≤ vx19_ ∧ vx19_ ≤ 2025 from ⟨by omega, by omega⟩)
              have hFx42_ : ai_fr (sx_W vw_394) S0_ (sm_aI (sm_aI S_ 199 0 k_.toNat vx12_) 200 0 k_.toNat vx19_) := ai_fr_tr hFx39_ (ai_fr_aI rfl)
              refine sm_T_go 4 (c1 := (231, [some (.inr (.inr (some (13, 0)))), some (.inl n_), some (.inl k_), some (.inl vx12_), some (.inl vx19_)], [.inl 1, .inl vx12_, .inr (.inr (some (202, 0)))], sm_aI (sm_aI S_ 199 0 k_.toNat vx12_) 200 0 k_.toNat vx19_)) rfl ?_
              refine sm_T_bin (w := (vx12_ / 2)) rfl (bi_shr (k := 1) (by decide) (by omega) (by omega)) ?_ -- pc_ 231
              refine sm_T_go 1 (c1 := (233, [some (.inr (.inr (some (13, 0)))), some (.inl n_), some (.inl k_), some (.inl vx12_), some (.inl vx19_)], [.inl 1, .inl (vx12_ / 2), .inr (.inr (some (202, 0)))], sm_aI (sm_aI S_ 199 0 k_.toNat vx12_) 200 0 k_.toNat vx19_)) rfl ?_
              refine sm_T_zas1 (n := 2048) rfl rfl (by omega) (by omega) (by omega) ?_
              have hIx43_ : gi (sm_aI (sm_aI (sm_aI S_ 199 0 k_.toNat vx12_) 200 0 k_.toNat vx19_) 202 0 (vx12_ / 2).toNat 1) := gi_aI hIx41_ (show 0 ≤ 1 ∧ 1 ≤ 1 from ⟨by omega, by omega⟩)
              have hFx44_ : ai_fr (sx_W vw_394) S0_ (sm_aI (sm_aI (sm_aI S_ 199 0 k_.toNat vx12_) 200 0 k_.toNat vx19_) 202 0 (vx12_ / 2).toNat 1) := ai_fr_tr hFx42_ (ai_fr_aI rfl)
              refine sm_T_go 4 (c1 := (241, [some (.inr (.inr (some (13, 0)))), some (.inl n_), some (.inl k_), some (.inl vx12_), some (.inl vx19_)], [.inl 1, .inl vx19_, .inr (.inr (some (202, 0)))], sm_aI (sm_aI (sm_aI S_ 199 0 k_.toNat vx12_) 200 0 k_.toNat vx19_) 202 0 (vx12_ / 2).toNat 1)) rfl ?_
              refine sm_T_bin (w := (vx19_ / 2)) rfl (bi_shr (k := 1) (by decide) (by omega) (by omega)) ?_ -- pc_ 241
              refine sm_T_go 1 (c1 := (243, [some (.inr (.inr (some (13, 0)))), some (.inl n_), some (.inl k_), some (.inl vx12_), some (.inl vx19_)], [.inl 1, .inl (vx19_ / 2), .inr (.inr (some (202, 0)))], sm_aI (sm_aI (sm_aI S_ 199 0 k_.toNat vx12_) 200 0 k_.toNat vx19_) 202 0 (vx12_ / 2).toNat 1)) rfl ?_
              refine sm_T_zas1 (n := 2048) rfl rfl (by omega) (by omega) (by omega) ?_
              have hIx45_ : gi (sm_aI (sm_aI (sm_aI (sm_aI S_ 199 0 k_.toNat vx12_) 200 0 k_.toNat vx19_) 202 0 (vx12_ / 2).toNat 1) 202 0 (vx19_ / 2).toNat 1) := gi_aI hIx43_ (show 0 ≤ 1 ∧ 1 ≤ 1 from ⟨by omega, by omega⟩)
              have hFx46_ : ai_fr (sx_W vw_394) S0_ (sm_aI (sm_aI (sm_aI (sm_aI S_ 199 0 k_.toNat vx12_) 200 0 k_.toNat vx19_) 202 0 (vx12_ / 2).toNat 1) 202 0 (vx19_ / 2).toNat 1) := ai_fr_tr hFx44_ (ai_fr_aI rfl)
              refine sm_T_go 4 (c1 := (250, [some (.inr (.inr (some (13, 0)))), some (.inl n_), some (.inl k_), some (.inl vx12_), some (.inl vx19_)], [.inl 1, .inl vx12_, .inr (.inr (some (201, 0)))], sm_aI (sm_aI (sm_aI (sm_aI S_ 199 0 k_.toNat vx12_) 200 0 k_.toNat vx19_) 202 0 (vx12_ / 2).toNat 1) 202 0 (vx19_ / 2).toNat 1)) rfl ?_
              refine sm_T_bin (w := (vx12_ / 2)) rfl (bi_shr (k := 1) (by decide) (by omega) (by omega)) ?_ -- pc_ 250
              refine sm_T_go 1 (c1 := (252, [some (.inr (.inr (some (13, 0)))), some (.inl n_), some (.inl k_), some (.inl vx12_), some (.inl vx19_)], [.inl (vx12_ / 2), .inr (.inr (some (201, 0))), .inl (vx12_ / 2), .inr (.inr (some (201, 0)))], sm_aI (sm_aI (sm_aI (sm_aI S_ 199 0 k_.toNat vx12_) 200 0 k_.toNat vx19_) 202 0 (vx12_ / 2).toNat 1) 202 0 (vx19_ / 2).toNat 1)) rfl ?_
              refine sm_T_iald (n := 2048) rfl rfl (by omega) (by omega) ?_
              have bx47_ : (-2147483648) ≤ S_.2.2.1 201 0 (vx12_ / 2).toNat ∧ S_.2.2.1 201 0 (vx12_ / 2).toNat ≤ 2147483647 := hI_.2 201 0 _
              refine sm_T_go 1 (c1 := (254, [some (.inr (.inr (some (13, 0)))), some (.inl n_), some (.inl k_), some (.inl vx12_), some (.inl vx19_)], [.inl 1, .inl (S_.2.2.1 201 0 (vx12_ / 2).toNat), .inl (vx12_ / 2), .inr (.inr (some (201, 0)))], sm_aI (sm_aI (sm_aI (sm_aI S_ 199 0 k_.toNat vx12_) 200 0 k_.toNat vx19_) 202 0 (vx12_ / 2).toNat 1) 202 0 (vx19_ / 2).toNat 1)) rfl ?_
              refine sm_T_bin (w := (i_add (S_.2.2.1 201 0 (vx12_ / 2).toNat) 1)) rfl rfl ?_ -- pc_ 254
              have bx48_ := i_add_r (S_.2.2.1 201 0 (vx12_ / 2).toNat) 1
              refine sm_T_iast (n := 2048) rfl rfl (by omega) (by omega) ?_
              have hIx49_ : gi (sm_aI (sm_aI (sm_aI (sm_aI (sm_aI S_ 199 0 k_.toNat vx12_) 200 0 k_.toNat vx19_) 202 0 (vx12_ / 2).toNat 1) 202 0 (vx19_ / 2).toNat 1) 201 0 (vx12_ / 2).toNat (i_add (S_.2.2.1 201 0 (vx12_ / 2).toNat) 1)) := gi_aI hIx45_ (show (-2147483648) ≤ (i_add (S_.2.2.1 201 0 (vx12_ / 2).toNat) 1) ∧ (i_add (S_.2.2.1 201 0 (vx12_ / 2).toNat) 1) ≤ 2147483647 from ⟨by omega, by omega⟩)
              have hFx50_ : ai_fr (sx_W vw_394) S0_ (sm_aI (sm_aI (sm_aI (sm_aI (sm_aI S_ 199 0 k_.toNat vx12_) 200 0 k_.toNat vx19_) 202 0 (vx12_ / 2).toNat 1) 202 0 (vx19_ / 2).toNat 1) 201 0 (vx12_ / 2).toNat (i_add (S_.2.2.1 201 0 (vx12_ / 2).toNat) 1)) := ai_fr_tr hFx46_ (ai_fr_aI rfl)
              refine sm_T_go 4 (c1 := (263, [some (.inr (.inr (some (13, 0)))), some (.inl n_), some (.inl k_), some (.inl vx12_), some (.inl vx19_)], [.inl 1, .inl vx19_, .inr (.inr (some (201, 0)))], sm_aI (sm_aI (sm_aI (sm_aI (sm_aI S_ 199 0 k_.toNat vx12_) 200 0 k_.toNat vx19_) 202 0 (vx12_ / 2).toNat 1) 202 0 (vx19_ / 2).toNat 1) 201 0 (vx12_ / 2).toNat (i_add (S_.2.2.1 201 0 (vx12_ / 2).toNat) 1))) rfl ?_
              refine sm_T_bin (w := (vx19_ / 2)) rfl (bi_shr (k := 1) (by decide) (by omega) (by omega)) ?_ -- pc_ 263
              refine sm_T_go 1 (c1 := (265, [some (.inr (.inr (some (13, 0)))), some (.inl n_), some (.inl k_), some (.inl vx12_), some (.inl vx19_)], [.inl (vx19_ / 2), .inr (.inr (some (201, 0))), .inl (vx19_ / 2), .inr (.inr (some (201, 0)))], sm_aI (sm_aI (sm_aI (sm_aI (sm_aI S_ 199 0 k_.toNat vx12_) 200 0 k_.toNat vx19_) 202 0 (vx12_ / 2).toNat 1) 202 0 (vx19_ / 2).toNat 1) 201 0 (vx12_ / 2).toNat (i_add (S_.2.2.1 201 0 (vx12_ / 2).toNat) 1))) rfl ?_
              refine sm_T_iald (n := 2048) rfl rfl (by omega) (by omega) ?_
              have bx51_ : (-2147483648) ≤ (sm_aI (sm_aI (sm_aI (sm_aI (sm_aI S_ 199 0 k_.toNat vx12_) 200 0 k_.toNat vx19_) 202 0 (vx12_ / 2).toNat 1) 202 0 (vx19_ / 2).toNat 1) 201 0 (vx12_ / 2).toNat (i_add (S_.2.2.1 201 0 (vx12_ / 2).toNat) 1)).2.2.1 201 0 (vx19_ / 2).toNat ∧ (sm_aI (sm_aI (sm_aI (sm_aI (sm_aI S_ 199 0 k_.toNat vx12_) 200 0 k_.toNat vx19_) 202 0 (vx12_ / 2).toNat 1) 202 0 (vx19_ / 2).toNat 1) 201 0 (vx12_ / 2).toNat (i_add (S_.2.2.1 201 0 (vx12_ / 2).toNat) 1)).2.2.1 201 0 (vx19_ / 2).toNat ≤ 2147483647 := hIx49_.2 201 0 _
              refine sm_T_go 1 (c1 := (267, [some (.inr (.inr (some (13, 0)))), some (.inl n_), some (.inl k_), some (.inl vx12_), some (.inl vx19_)], [.inl 1, .inl ((sm_aI (sm_aI (sm_aI (sm_aI (sm_aI S_ 199 0 k_.toNat vx12_) 200 0 k_.toNat vx19_) 202 0 (vx12_ / 2).toNat 1) 202 0 (vx19_ / 2).toNat 1) 201 0 (vx12_ / 2).toNat (i_add (S_.2.2.1 201 0 (vx12_ / 2).toNat) 1)).2.2.1 201 0 (vx19_ / 2).toNat), .inl (vx19_ / 2), .inr (.inr (some (201, 0)))], sm_aI (sm_aI (sm_aI (sm_aI (sm_aI S_ 199 0 k_.toNat vx12_) 200 0 k_.toNat vx19_) 202 0 (vx12_ / 2).toNat 1) 202 0 (vx19_ / 2).toNat 1) 201 0 (vx12_ / 2).toNat (i_add (S_.2.2.1 201 0 (vx12_ / 2).toNat) 1))) rfl ?_
              refine sm_T_bin (w := (i_add ((sm_aI (sm_aI (sm_aI (sm_aI (sm_aI S_ 199 0 k_.toNat vx12_) 200 0 k_.toNat vx19_) 202 0 (vx12_ / 2).toNat 1) 202 0 (vx19_ / 2).toNat 1) 201 0 (vx12_ / 2).toNat (i_add (S_.2.2.1 201 0 (vx12_ / 2).toNat) 1)).2.2.1 201 0 (vx19_ / 2).toNat) 1)) rfl rfl ?_ -- pc_ 267
              have bx52_ := i_add_r ((sm_aI (sm_aI (sm_aI (sm_aI (sm_aI S_ 199 0 k_.toNat vx12_) 200 0 k_.toNat vx19_) 202 0 (vx12_ / 2).toNat 1) 202 0 (vx19_ / 2).toNat 1) 201 0 (vx12_ / 2).toNat (i_add (S_.2.2.1 201 0 (vx12_ / 2).toNat) 1)).2.2.1 201 0 (vx19_ / 2).toNat) 1
              refine sm_T_iast (n := 2048) rfl rfl (by omega) (by omega) ?_
              have hIx53_ : gi (sm_aI (sm_aI (sm_aI (sm_aI (sm_aI (sm_aI S_ 199 0 k_.toNat vx12_) 200 0 k_.toNat vx19_) 202 0 (vx12_ / 2).toNat 1) 202 0 (vx19_ / 2).toNat 1) 201 0 (vx12_ / 2).toNat (i_add (S_.2.2.1 201 0 (vx12_ / 2).toNat) 1)) 201 0 (vx19_ / 2).toNat (i_add ((sm_aI (sm_aI (sm_aI (sm_aI (sm_aI S_ 199 0 k_.toNat vx12_) 200 0 k_.toNat vx19_) 202 0 (vx12_ / 2).toNat 1) 202 0 (vx19_ / 2).toNat 1) 201 0 (vx12_ / 2).toNat (i_add (S_.2.2.1 201 0 (vx12_ / 2).toNat) 1)).2.2.1 201 0 (vx19_ / 2).toNat) 1)) := gi_aI hIx49_ (show (-2147483648) ≤ (i_add ((sm_aI (sm_aI (sm_aI (sm_aI (sm_aI S_ 199 0 k_.toNat vx12_) 200 0 k_.toNat vx19_) 202 0 (vx12_ / 2).toNat 1) 202 0 (vx19_ / 2).toNat 1) 201 0 (vx12_ / 2).toNat (i_add (S_.2.2.1 201 0 (vx12_ / 2).toNat) 1)).2.2.1 201 0 (vx19_ / 2).toNat) 1) ∧ (i_add ((sm_aI (sm_aI (sm_aI (sm_aI (sm_aI S_ 199 0 k_.toNat vx12_) 200 0 k_.toNat vx19_) 202 0 (vx12_ / 2).toNat 1) 202 0 (vx19_ / 2).toNat 1) 201 0 (vx12_ / 2).toNat (i_add (S_.2.2.1 201 0 (vx12_ / 2).toNat) 1)).2.2.1 201 0 (vx19_ / 2).toNat) 1) ≤ 2147483647 from ⟨by omega, by omega⟩)
              have hFx54_ : ai_fr (sx_W vw_394) S0_ (sm_aI (sm_aI (sm_aI (sm_aI (sm_aI (sm_aI S_ 199 0 k_.toNat vx12_) 200 0 k_.toNat vx19_) 202 0 (vx12_ / 2).toNat 1) 202 0 (vx19_ / 2).toNat 1) 201 0 (vx12_ / 2).toNat (i_add (S_.2.2.1 201 0 (vx12_ / 2).toNat) 1)) 201 0 (vx19_ / 2).toNat (i_add ((sm_aI (sm_aI (sm_aI (sm_aI (sm_aI S_ 199 0 k_.toNat vx12_) 200 0 k_.toNat vx19_) 202 0 (vx12_ / 2).toNat 1) 202 0 (vx19_ / 2).toNat 1) 201 0 (vx12_ / 2).toNat (i_add (S_.2.2.1 201 0 (vx12_ / 2).toNat) 1)).2.2.1 201 0 (vx19_ / 2).toNat) 1)) := ai_fr_tr hFx50_ (ai_fr_aI rfl)
              refine sm_T_inc (a := 2) (z := (-1)) (v := k_) (w := k_ - 1) rfl rfl (by omega) (by omega) (by omega) ?_ -- pc_ 269
              refine sm_T_go 1 (c1 := (126, [some (.inr (.inr (some (13, 0)))), some (.inl n_), some (.inl (k_ - 1)), some (.inl vx12_), some (.inl vx19_)], [], sm_aI (sm_aI (sm_aI (sm_aI (sm_aI (sm_aI S_ 199 0 k_.toNat vx12_) 200 0 k_.toNat vx19_) 202 0 (vx12_ / 2).toNat 1) 202 0 (vx19_ / 2).toNat 1) 201 0 (vx12_ / 2).toNat (i_add (S_.2.2.1 201 0 (vx12_ / 2).toNat) 1)) 201 0 (vx19_ / 2).toNat (i_add ((sm_aI (sm_aI (sm_aI (sm_aI (sm_aI S_ 199 0 k_.toNat vx12_) 200 0 k_.toNat vx19_) 202 0 (vx12_ / 2).toNat 1) 202 0 (vx19_ / 2).toNat 1) 201 0 (vx12_ / 2).toNat (i_add (S_.2.2.1 201 0 (vx12_ / 2).toNat) 1)).2.2.1 201 0 (vx19_ / 2).toNat) 1))) rfl ?_
              refine sm_T_wk [some (.inr (.inr (some (13, 0)))), some (.inl n_), some (.inl (k_ - 1)), none, none] (by exact ⟨rfl, rfl, rfl, trivial⟩) ?_
              refine ih_.2.2.2.1 n_ (k_ - 1) (sm_aI (sm_aI (sm_aI (sm_aI (sm_aI (sm_aI S_ 199 0 k_.toNat vx12_) 200 0 k_.toNat vx19_) 202 0 (vx12_ / 2).toNat 1) 202 0 (vx19_ / 2).toNat 1) 201 0 (vx12_ / 2).toNat (i_add (S_.2.2.1 201 0 (vx12_ / 2).toNat) 1)) 201 0 (vx19_ / 2).toNat (i_add ((sm_aI (sm_aI (sm_aI (sm_aI (sm_aI S_ 199 0 k_.toNat vx12_) 200 0 k_.toNat vx19_) 202 0 (vx12_ / 2).toNat 1) 202 0 (vx19_ / 2).toNat 1) 201 0 (vx12_ / 2).toNat (i_add (S_.2.2.1 201 0 (vx12_ / 2).toNat) 1)).2.2.1 201 0 (vx19_ / 2).toNat) 1)) hIx53_ hFx54_ ⟨?_, ?_, ?_, ?_, trivial⟩ ?_
              · omega
              · have s2_ : ∀ j9_, S_.2.2.1 202 0 j9_ = 1 → ((sm_aI (sm_aI (sm_aI (sm_aI (sm_aI (sm_aI S_ 199 0 k_.toNat vx12_) 200 0 k_.toNat vx19_) 202 0 (vx12_ / 2).toNat 1) 202 0 (vx19_ / 2).toNat 1) 201 0 (vx12_ / 2).toNat (i_add (S_.2.2.1 201 0 (vx12_ / 2).toNat) 1)) 201 0 (vx19_ / 2).toNat (i_add ((sm_aI (sm_aI (sm_aI (sm_aI (sm_aI S_ 199 0 k_.toNat vx12_) 200 0 k_.toNat vx19_) 202 0 (vx12_ / 2).toNat 1) 202 0 (vx19_ / 2).toNat 1) 201 0 (vx12_ / 2).toNat (i_add (S_.2.2.1 201 0 (vx12_ / 2).toNat) 1)).2.2.1 201 0 (vx19_ / 2).toNat) 1))).2.2.1 202 0 j9_ = 1 := fun j9_ u9_ => by ((try simp only [rd_eq, rd_ne, rf_eq, rf_nk, rf_nt, rd_fa, rd_af, rd_fl, rd_al, rd_lf, rd_la, rd_leq, rd_lne, rd_fr, rd_ar, ne_eq, Nat.reduceEqDiff, not_false_eq_true]); split; rfl; (split; rfl; exact u9_))
                have s3_ : ((sm_aI (sm_aI (sm_aI (sm_aI (sm_aI (sm_aI S_ 199 0 k_.toNat vx12_) 200 0 k_.toNat vx19_) 202 0 (vx12_ / 2).toNat 1) 202 0 (vx19_ / 2).toNat 1) 201 0 (vx12_ / 2).toNat (i_add (S_.2.2.1 201 0 (vx12_ / 2).toNat) 1)) 201 0 (vx19_ / 2).toNat (i_add ((sm_aI (sm_aI (sm_aI (sm_aI (sm_aI S_ 199 0 k_.toNat vx12_) 200 0 k_.toNat vx19_) 202 0 (vx12_ / 2).toNat 1) 202 0 (vx19_ / 2).toNat 1) 201 0 (vx12_ / 2).toNat (i_add (S_.2.2.1 201 0 (vx12_ / 2).toNat) 1)).2.2.1 201 0 (vx19_ / 2).toNat) 1))).2.2.1 203 0 = S_.2.2.1 203 0 := by (funext j9_; (try simp only [rd_eq, rd_ne, rf_eq, rf_nk, rf_nt, rd_fa, rd_af, rd_fl, rd_al, rd_lf, rd_la, rd_leq, rd_lne, rd_fr, rd_ar, ne_eq, Nat.reduceEqDiff, not_false_eq_true]))
                have s6_ : ((sm_aI (sm_aI (sm_aI (sm_aI (sm_aI (sm_aI S_ 199 0 k_.toNat vx12_) 200 0 k_.toNat vx19_) 202 0 (vx12_ / 2).toNat 1) 202 0 (vx19_ / 2).toNat 1) 201 0 (vx12_ / 2).toNat (i_add (S_.2.2.1 201 0 (vx12_ / 2).toNat) 1)) 201 0 (vx19_ / 2).toNat (i_add ((sm_aI (sm_aI (sm_aI (sm_aI (sm_aI S_ 199 0 k_.toNat vx12_) 200 0 k_.toNat vx19_) 202 0 (vx12_ / 2).toNat 1) 202 0 (vx19_ / 2).toNat 1) 201 0 (vx12_ / 2).toNat (i_add (S_.2.2.1 201 0 (vx12_ / 2).toNat) 1)).2.2.1 201 0 (vx19_ / 2).toNat) 1))).2.2.1 166 0 = S_.2.2.1 166 0 := by (funext j9_; (try simp only [rd_eq, rd_ne, rf_eq, rf_nk, rf_nt, rd_fa, rd_af, rd_fl, rd_al, rd_lf, rd_la, rd_leq, rd_lne, rd_fr, rd_ar, ne_eq, Nat.reduceEqDiff, not_false_eq_true]))
                intro k9_ u0_ u1_ u2_
                rw [s6_]
                (try simp only [rd_eq, rd_ne, rf_eq, rf_nk, rf_nt, rd_fa, rd_af, rd_fl, rd_al, rd_lf, rd_la, rd_leq, rd_lne, rd_fr, rd_ar, ne_eq, Nat.reduceEqDiff, not_false_eq_true] at *)
                rw [a164_, a184_] at u2_
                by_cases z9_ : k9_.toNat = (nod d_ S_ (S_.2.2.1 165 0 (2048 * d_ + k_).toNat)).toNat
                · rw [show k9_ = nod d_ S_ (S_.2.2.1 165 0 (2048 * d_ + k_).toNat) by omega]; exact q2_.2.2.1
                · rw [if_neg z9_] at u2_
                  by_cases y9_ : k9_.toNat = (nod d_ S_ (S_.2.2.1 164 0 (2048 * d_ + k_).toNat)).toNat
                  · rw [show k9_ = nod d_ S_ (S_.2.2.1 164 0 (2048 * d_ + k_).toNat) by omega]; exact q1_.2.2.1
                  · rw [if_neg y9_] at u2_; exact hg_ k9_ u0_ u1_ u2_
              · have s2_ : ∀ j9_, S_.2.2.1 202 0 j9_ = 1 → ((sm_aI (sm_aI (sm_aI (sm_aI (sm_aI (sm_aI S_ 199 0 k_.toNat vx12_) 200 0 k_.toNat vx19_) 202 0 (vx12_ / 2).toNat 1) 202 0 (vx19_ / 2).toNat 1) 201 0 (vx12_ / 2).toNat (i_add (S_.2.2.1 201 0 (vx12_ / 2).toNat) 1)) 201 0 (vx19_ / 2).toNat (i_add ((sm_aI (sm_aI (sm_aI (sm_aI (sm_aI S_ 199 0 k_.toNat vx12_) 200 0 k_.toNat vx19_) 202 0 (vx12_ / 2).toNat 1) 202 0 (vx19_ / 2).toNat 1) 201 0 (vx12_ / 2).toNat (i_add (S_.2.2.1 201 0 (vx12_ / 2).toNat) 1)).2.2.1 201 0 (vx19_ / 2).toNat) 1))).2.2.1 202 0 j9_ = 1 := fun j9_ u9_ => by ((try simp only [rd_eq, rd_ne, rf_eq, rf_nk, rf_nt, rd_fa, rd_af, rd_fl, rd_al, rd_lf, rd_la, rd_leq, rd_lne, rd_fr, rd_ar, ne_eq, Nat.reduceEqDiff, not_false_eq_true]); split; rfl; (split; rfl; exact u9_))
                have s3_ : ((sm_aI (sm_aI (sm_aI (sm_aI (sm_aI (sm_aI S_ 199 0 k_.toNat vx12_) 200 0 k_.toNat vx19_) 202 0 (vx12_ / 2).toNat 1) 202 0 (vx19_ / 2).toNat 1) 201 0 (vx12_ / 2).toNat (i_add (S_.2.2.1 201 0 (vx12_ / 2).toNat) 1)) 201 0 (vx19_ / 2).toNat (i_add ((sm_aI (sm_aI (sm_aI (sm_aI (sm_aI S_ 199 0 k_.toNat vx12_) 200 0 k_.toNat vx19_) 202 0 (vx12_ / 2).toNat 1) 202 0 (vx19_ / 2).toNat 1) 201 0 (vx12_ / 2).toNat (i_add (S_.2.2.1 201 0 (vx12_ / 2).toNat) 1)).2.2.1 201 0 (vx19_ / 2).toNat) 1))).2.2.1 203 0 = S_.2.2.1 203 0 := by (funext j9_; (try simp only [rd_eq, rd_ne, rf_eq, rf_nk, rf_nt, rd_fa, rd_af, rd_fl, rd_al, rd_lf, rd_la, rd_leq, rd_lne, rd_fr, rd_ar, ne_eq, Nat.reduceEqDiff, not_false_eq_true]))
                have s6_ : ((sm_aI (sm_aI (sm_aI (sm_aI (sm_aI (sm_aI S_ 199 0 k_.toNat vx12_) 200 0 k_.toNat vx19_) 202 0 (vx12_ / 2).toNat 1) 202 0 (vx19_ / 2).toNat 1) 201 0 (vx12_ / 2).toNat (i_add (S_.2.2.1 201 0 (vx12_ / 2).toNat) 1)) 201 0 (vx19_ / 2).toNat (i_add ((sm_aI (sm_aI (sm_aI (sm_aI (sm_aI S_ 199 0 k_.toNat vx12_) 200 0 k_.toNat vx19_) 202 0 (vx12_ / 2).toNat 1) 202 0 (vx19_ / 2).toNat 1) 201 0 (vx12_ / 2).toNat (i_add (S_.2.2.1 201 0 (vx12_ / 2).toNat) 1)).2.2.1 201 0 (vx19_ / 2).toNat) 1))).2.2.1 166 0 = S_.2.2.1 166 0 := by (funext j9_; (try simp only [rd_eq, rd_ne, rf_eq, rf_nk, rf_nt, rd_fa, rd_af, rd_fl, rd_al, rd_lf, rd_la, rd_leq, rd_lne, rd_fr, rd_ar, ne_eq, Nat.reduceEqDiff, not_false_eq_true]))
                exact rtd_mo hr_ s6_ (by (funext j9_; (try simp only [rd_eq, rd_ne, rf_eq, rf_nk, rf_nt, rd_fa, rd_af, rd_fl, rd_al, rd_lf, rd_la, rd_leq, rd_lne, rd_fr, rd_ar, ne_eq, Nat.reduceEqDiff, not_false_eq_true]))) (by (funext j9_; (try simp only [rd_eq, rd_ne, rf_eq, rf_nk, rf_nt, rd_fa, rd_af, rd_fl, rd_al, rd_lf, rd_la, rd_leq, rd_lne, rd_fr, rd_ar, ne_eq, Nat.reduceEqDiff, not_false_eq_true]))) s2_ (fun j9_ u9_ => by (rw [s3_]; exact u9_))
              · have s2_ : ∀ j9_, S_.2.2.1 202 0 j9_ = 1 → ((sm_aI (sm_aI (sm_aI (sm_aI (sm_aI (sm_aI S_ 199 0 k_.toNat vx12_) 200 0 k_.toNat vx19_) 202 0 (vx12_ / 2).toNat 1) 202 0 (vx19_ / 2).toNat 1) 201 0 (vx12_ / 2).toNat (i_add (S_.2.2.1 201 0 (vx12_ / 2).toNat) 1)) 201 0 (vx19_ / 2).toNat (i_add ((sm_aI (sm_aI (sm_aI (sm_aI (sm_aI S_ 199 0 k_.toNat vx12_) 200 0 k_.toNat vx19_) 202 0 (vx12_ / 2).toNat 1) 202 0 (vx19_ / 2).toNat 1) 201 0 (vx12_ / 2).toNat (i_add (S_.2.2.1 201 0 (vx12_ / 2).toNat) 1)).2.2.1 201 0 (vx19_ / 2).toNat) 1))).2.2.1 202 0 j9_ = 1 := fun j9_ u9_ => by ((try simp only [rd_eq, rd_ne, rf_eq, rf_nk, rf_nt, rd_fa, rd_af, rd_fl, rd_al, rd_lf, rd_la, rd_leq, rd_lne, rd_fr, rd_ar, ne_eq, Nat.reduceEqDiff, not_false_eq_true]); split; rfl; (split; rfl; exact u9_))
                have s3_ : ((sm_aI (sm_aI (sm_aI (sm_aI (sm_aI (sm_aI S_ 199 0 k_.toNat vx12_) 200 0 k_.toNat vx19_) 202 0 (vx12_ / 2).toNat 1) 202 0 (vx19_ / 2).toNat 1) 201 0 (vx12_ / 2).toNat (i_add (S_.2.2.1 201 0 (vx12_ / 2).toNat) 1)) 201 0 (vx19_ / 2).toNat (i_add ((sm_aI (sm_aI (sm_aI (sm_aI (sm_aI S_ 199 0 k_.toNat vx12_) 200 0 k_.toNat vx19_) 202 0 (vx12_ / 2).toNat 1) 202 0 (vx19_ / 2).toNat 1) 201 0 (vx12_ / 2).toNat (i_add (S_.2.2.1 201 0 (vx12_ / 2).toNat) 1)).2.2.1 201 0 (vx19_ / 2).toNat) 1))).2.2.1 203 0 = S_.2.2.1 203 0 := by (funext j9_; (try simp only [rd_eq, rd_ne, rf_eq, rf_nk, rf_nt, rd_fa, rd_af, rd_fl, rd_al, rd_lf, rd_la, rd_leq, rd_lne, rd_fr, rd_ar, ne_eq, Nat.reduceEqDiff, not_false_eq_true]))
                have s6_ : ((sm_aI (sm_aI (sm_aI (sm_aI (sm_aI (sm_aI S_ 199 0 k_.toNat vx12_) 200 0 k_.toNat vx19_) 202 0 (vx12_ / 2).toNat 1) 202 0 (vx19_ / 2).toNat 1) 201 0 (vx12_ / 2).toNat (i_add (S_.2.2.1 201 0 (vx12_ / 2).toNat) 1)) 201 0 (vx19_ / 2).toNat (i_add ((sm_aI (sm_aI (sm_aI (sm_aI (sm_aI S_ 199 0 k_.toNat vx12_) 200 0 k_.toNat vx19_) 202 0 (vx12_ / 2).toNat 1) 202 0 (vx19_ / 2).toNat 1) 201 0 (vx12_ / 2).toNat (i_add (S_.2.2.1 201 0 (vx12_ / 2).toNat) 1)).2.2.1 201 0 (vx19_ / 2).toNat) 1))).2.2.1 166 0 = S_.2.2.1 166 0 := by (funext j9_; (try simp only [rd_eq, rd_ne, rf_eq, rf_nk, rf_nt, rd_fa, rd_af, rd_fl, rd_al, rd_lf, rd_la, rd_leq, rd_lne, rd_fr, rd_ar, ne_eq, Nat.reduceEqDiff, not_false_eq_true]))
                intro j9_ u0_ u1_ u2_ u3_
                by_cases z9_ : j9_ = k_
                · subst z9_
                  unfold lgp
                  (try simp only [rd_eq, rd_ne, rf_eq, rf_nk, rf_nt, rd_fa, rd_af, rd_fl, rd_al, rd_lf, rd_la, rd_leq, rd_lne, rd_fr, rd_ar, ne_eq, Nat.reduceEqDiff, not_false_eq_true])
                  rw [a164_, a184_]
                  first | (rw [if_pos rfl, if_pos rfl]) | skip
                  simp only [if_true]
                  refine ⟨⟨by omega, by omega, ?_⟩, by omega, by omega, ?_⟩ <;> (first | (rw [a164_]) | (rw [a184_]) | skip) <;> (split; rfl; (split; rfl; (exfalso; omega)))
                · have u4_ : S_.2.2.1 202 0 j9_.toNat = 1 := by
                    (try simp only [rd_eq, rd_ne, rf_eq, rf_nk, rf_nt, rd_fa, rd_af, rd_fl, rd_al, rd_lf, rd_la, rd_leq, rd_lne, rd_fr, rd_ar, ne_eq, Nat.reduceEqDiff, not_false_eq_true] at *)
                    rw [a164_, a184_] at u3_
                    rw [if_neg (by omega), if_neg (by omega)] at u3_
                    exact u3_
                  exact lgp_mo (hl_ j9_ (by omega) u1_ u2_ u4_) (by ((try simp only [rd_eq, rd_ne, rf_eq, rf_nk, rf_nt, rd_fa, rd_af, rd_fl, rd_al, rd_lf, rd_la, rd_leq, rd_lne, rd_fr, rd_ar, ne_eq, Nat.reduceEqDiff, not_false_eq_true]); rw [if_neg (by omega)])) (by ((try simp only [rd_eq, rd_ne, rf_eq, rf_nk, rf_nt, rd_fa, rd_af, rd_fl, rd_al, rd_lf, rd_la, rd_leq, rd_lne, rd_fr, rd_ar, ne_eq, Nat.reduceEqDiff, not_false_eq_true]); rw [if_neg (by omega)])) s2_
              · omega
    · rintro n_ k_ S_ hI_ hF_ ⟨h0_, hr_, hl_, -⟩ hm_
      have d9_ := dmp_fr hd_ hF_
      have d1_ := d9_.1
      have n9_ : nod d_ S_ = nod d_ S0_ := nod_fr hF_
      have f154_ : S_.2.2.1 154 0 = S0_.2.2.1 154 0 := fr_arr hF_ rfl
      have f155_ : S_.2.2.1 155 0 = S0_.2.2.1 155 0 := fr_arr hF_ rfl
      have f156_ : S_.2.2.1 156 0 = S0_.2.2.1 156 0 := fr_arr hF_ rfl
      have f159_ : S_.2.2.1 159 0 = S0_.2.2.1 159 0 := fr_arr hF_ rfl
      have f160_ : S_.2.2.1 160 0 = S0_.2.2.1 160 0 := fr_arr hF_ rfl
      have f164_ : S_.2.2.1 164 0 = S0_.2.2.1 164 0 := fr_arr hF_ rfl
      have f165_ : S_.2.2.1 165 0 = S0_.2.2.1 165 0 := fr_arr hF_ rfl
      have f166_ : S_.2.2.1 166 0 = S0_.2.2.1 166 0 := fr_arr hF_ rfl
      have f167_ : S_.2.2.1 167 0 = S0_.2.2.1 167 0 := fr_arr hF_ rfl
      have f168_ : S_.2.2.1 168 0 = S0_.2.2.1 168 0 := fr_arr hF_ rfl
      have c55_ : 0 ≤ S_.2.2.1 155 0 d_.toNat ∧ S_.2.2.1 155 0 d_.toNat ≤ 6 := hI_.2 155 0 _
      have c56_ : 0 ≤ S_.2.2.1 156 0 d_.toNat ∧ S_.2.2.1 156 0 d_.toNat ≤ 16 := hI_.2 156 0 _
      have e155_ : S_.2.2.1 155 0 (S_.1 13 0 105).toNat = S_.2.2.1 155 0 d_.toNat := by rw [d1_.2.2.1]
      have e156_ : S_.2.2.1 156 0 (S_.1 13 0 105).toNat = S_.2.2.1 156 0 d_.toNat := by rw [d1_.2.2.1]
      have e160_ : S_.2.2.1 160 0 (S_.1 13 0 105).toNat = F_ := by (rw [d1_.2.2.1]; exact d1_.2.2.2.1)
      refine sm_T_go 2 (c1 := (287, [some (.inr (.inr (some (13, 0)))), some (.inl n_), some (.inl k_), none, none], [.inl n_, .inl k_], S_)) rfl ?_
      refine sm_T_br (a := 3) (z := 48) rfl (fun cx1_ => ?_) (fun cx1_ => ?_)
      · have cx1_ : n_ ≤ k_ := of_decide_eq_true cx1_
        refine sm_T_rv rfl ⟨_, _, rfl, rfl, hI_, hF_, ?_⟩
        exact ⟨hl_, hr_⟩
      · have cx1_ : ¬ (n_ ≤ k_) := of_decide_eq_false cx1_
        refine sm_T_go 6 (c1 := (300, [some (.inr (.inr (some (13, 0)))), some (.inl n_), some (.inl k_), none, none], [.inl k_, .inr (.inr (some (203, 0))), .inl k_, .inr (.inr (some (203, 0)))], S_)) rfl ?_
        refine sm_T_zald (n := 2048) rfl rfl (by omega) (by omega) ?_
        have bx2_ : 0 ≤ S_.2.2.1 203 0 k_.toNat ∧ S_.2.2.1 203 0 k_.toNat ≤ 1 := hI_.2 203 0 _
        refine sm_T_b0 (a := 1) (z := 22) rfl (fun cx3_ => ?_) (fun cx3_ => ?_)
        · have cx3_ : (S_.2.2.1 203 0 k_.toNat) ≠ 0 := of_decide_eq_true cx3_
          refine sm_T_go 2 (c1 := (328, [some (.inr (.inr (some (13, 0)))), some (.inl n_), some (.inl k_), none, none], [.inl 1, .inl k_, .inr (.inr (some (203, 0)))], S_)) rfl ?_
          refine sm_T_zas1 (n := 2048) rfl rfl (by omega) (by omega) (by omega) ?_
          have hIx4_ : gi (sm_aI S_ 203 0 k_.toNat 1) := gi_aI hI_ (show 0 ≤ 1 ∧ 1 ≤ 1 from ⟨by omega, by omega⟩)
          have hFx5_ : ai_fr (sx_W vw_394) S0_ (sm_aI S_ 203 0 k_.toNat 1) := ai_fr_tr hF_ (ai_fr_aI rfl)
          refine sm_T_inc (a := 2) (z := 1) (v := k_) (w := k_ + 1) rfl rfl (by omega) (by omega) (by omega) ?_ -- pc_ 329
          refine sm_T_go 1 (c1 := (285, [some (.inr (.inr (some (13, 0)))), some (.inl n_), some (.inl (k_ + 1)), none, none], [], sm_aI S_ 203 0 k_.toNat 1)) rfl ?_
          refine ih_.2.2.2.2 n_ (k_ + 1) (sm_aI S_ 203 0 k_.toNat 1) hIx4_ hFx5_ ⟨?_, ?_, ?_, trivial⟩ ?_
          · omega
          · exact rtd_mo hr_ (by (funext j9_; (try simp only [rd_eq, rd_ne, rf_eq, rf_nk, rf_nt, rd_fa, rd_af, rd_fl, rd_al, rd_lf, rd_la, rd_leq, rd_lne, rd_fr, rd_ar, ne_eq, Nat.reduceEqDiff, not_false_eq_true]))) (by (funext j9_; (try simp only [rd_eq, rd_ne, rf_eq, rf_nk, rf_nt, rd_fa, rd_af, rd_fl, rd_al, rd_lf, rd_la, rd_leq, rd_lne, rd_fr, rd_ar, ne_eq, Nat.reduceEqDiff, not_false_eq_true]))) (by (funext j9_; (try simp only [rd_eq, rd_ne, rf_eq, rf_nk, rf_nt, rd_fa, rd_af, rd_fl, rd_al, rd_lf, rd_la, rd_leq, rd_lne, rd_fr, rd_ar, ne_eq, Nat.reduceEqDiff, not_false_eq_true]))) (fun j9_ u9_ => by ((try simp only [rd_eq, rd_ne, rf_eq, rf_nk, rf_nt, rd_fa, rd_af, rd_fl, rd_al, rd_lf, rd_la, rd_leq, rd_lne, rd_fr, rd_ar, ne_eq, Nat.reduceEqDiff, not_false_eq_true]); exact u9_)) (fun j9_ u9_ => by ((try simp only [rd_eq, rd_ne, rf_eq, rf_nk, rf_nt, rd_fa, rd_af, rd_fl, rd_al, rd_lf, rd_la, rd_leq, rd_lne, rd_fr, rd_ar, ne_eq, Nat.reduceEqDiff, not_false_eq_true]); split; (first | rfl | (rename_i z9_; rw [z9_] at u9_; exfalso; omega)); exact u9_))
          · (intro j9_ u0_ u1_ u2_; exact lgp_mo (hl_ j9_ u0_ u1_ (by ((try simp only [rd_eq, rd_ne, rf_eq, rf_nk, rf_nt, rd_fa, rd_af, rd_fl, rd_al, rd_lf, rd_la, rd_leq, rd_lne, rd_fr, rd_ar, ne_eq, Nat.reduceEqDiff, not_false_eq_true] at *); exact u2_))) (by (try simp only [rd_eq, rd_ne, rf_eq, rf_nk, rf_nt, rd_fa, rd_af, rd_fl, rd_al, rd_lf, rd_la, rd_leq, rd_lne, rd_fr, rd_ar, ne_eq, Nat.reduceEqDiff, not_false_eq_true])) (by (try simp only [rd_eq, rd_ne, rf_eq, rf_nk, rf_nt, rd_fa, rd_af, rd_fl, rd_al, rd_lf, rd_la, rd_leq, rd_lne, rd_fr, rd_ar, ne_eq, Nat.reduceEqDiff, not_false_eq_true])) (fun i9_ u9_ => by ((try simp only [rd_eq, rd_ne, rf_eq, rf_nk, rf_nt, rd_fa, rd_af, rd_fl, rd_al, rd_lf, rd_la, rd_leq, rd_lne, rd_fr, rd_ar, ne_eq, Nat.reduceEqDiff, not_false_eq_true]); exact u9_)))
          · omega
        · have cx3_ : ¬ ((S_.2.2.1 203 0 k_.toNat) ≠ 0) := of_decide_eq_false cx3_
          refine sm_T_go 3 (c1 := (309, [some (.inr (.inr (some (13, 0)))), some (.inl n_), some (.inl k_), none, none], [.inl k_, .inr (.inr (some (202, 0))), .inl k_, .inr (.inr (some (203, 0)))], S_)) rfl ?_
          refine sm_T_zald (n := 2048) rfl rfl (by omega) (by omega) ?_
          have bx6_ : 0 ≤ S_.2.2.1 202 0 k_.toNat ∧ S_.2.2.1 202 0 k_.toNat ≤ 1 := hI_.2 202 0 _
          refine sm_T_b0 (a := 0) (z := 17) rfl (fun cx7_ => ?_) (fun cx7_ => ?_)
          · have cx7_ : (S_.2.2.1 202 0 k_.toNat) = 0 := of_decide_eq_true cx7_
            refine sm_T_go 1 (c1 := (328, [some (.inr (.inr (some (13, 0)))), some (.inl n_), some (.inl k_), none, none], [.inl 0, .inl k_, .inr (.inr (some (203, 0)))], S_)) rfl ?_
            refine sm_T_zas1 (n := 2048) rfl rfl (by omega) (by omega) (by omega) ?_
            have hIx8_ : gi (sm_aI S_ 203 0 k_.toNat 0) := gi_aI hI_ (show 0 ≤ 0 ∧ 0 ≤ 1 from ⟨by omega, by omega⟩)
            have hFx9_ : ai_fr (sx_W vw_394) S0_ (sm_aI S_ 203 0 k_.toNat 0) := ai_fr_tr hF_ (ai_fr_aI rfl)
            refine sm_T_inc (a := 2) (z := 1) (v := k_) (w := k_ + 1) rfl rfl (by omega) (by omega) (by omega) ?_ -- pc_ 329
            refine sm_T_go 1 (c1 := (285, [some (.inr (.inr (some (13, 0)))), some (.inl n_), some (.inl (k_ + 1)), none, none], [], sm_aI S_ 203 0 k_.toNat 0)) rfl ?_
            refine ih_.2.2.2.2 n_ (k_ + 1) (sm_aI S_ 203 0 k_.toNat 0) hIx8_ hFx9_ ⟨?_, ?_, ?_, trivial⟩ ?_
            · omega
            · exact rtd_mo hr_ (by (funext j9_; (try simp only [rd_eq, rd_ne, rf_eq, rf_nk, rf_nt, rd_fa, rd_af, rd_fl, rd_al, rd_lf, rd_la, rd_leq, rd_lne, rd_fr, rd_ar, ne_eq, Nat.reduceEqDiff, not_false_eq_true]))) (by (funext j9_; (try simp only [rd_eq, rd_ne, rf_eq, rf_nk, rf_nt, rd_fa, rd_af, rd_fl, rd_al, rd_lf, rd_la, rd_leq, rd_lne, rd_fr, rd_ar, ne_eq, Nat.reduceEqDiff, not_false_eq_true]))) (by (funext j9_; (try simp only [rd_eq, rd_ne, rf_eq, rf_nk, rf_nt, rd_fa, rd_af, rd_fl, rd_al, rd_lf, rd_la, rd_leq, rd_lne, rd_fr, rd_ar, ne_eq, Nat.reduceEqDiff, not_false_eq_true]))) (fun j9_ u9_ => by ((try simp only [rd_eq, rd_ne, rf_eq, rf_nk, rf_nt, rd_fa, rd_af, rd_fl, rd_al, rd_lf, rd_la, rd_leq, rd_lne, rd_fr, rd_ar, ne_eq, Nat.reduceEqDiff, not_false_eq_true]); exact u9_)) (fun j9_ u9_ => by ((try simp only [rd_eq, rd_ne, rf_eq, rf_nk, rf_nt, rd_fa, rd_af, rd_fl, rd_al, rd_lf, rd_la, rd_leq, rd_lne, rd_fr, rd_ar, ne_eq, Nat.reduceEqDiff, not_false_eq_true]); split; (first | rfl | (rename_i z9_; rw [z9_] at u9_; exfalso; omega)); exact u9_))
            · (intro j9_ u0_ u1_ u2_; exact lgp_mo (hl_ j9_ u0_ u1_ (by ((try simp only [rd_eq, rd_ne, rf_eq, rf_nk, rf_nt, rd_fa, rd_af, rd_fl, rd_al, rd_lf, rd_la, rd_leq, rd_lne, rd_fr, rd_ar, ne_eq, Nat.reduceEqDiff, not_false_eq_true] at *); exact u2_))) (by (try simp only [rd_eq, rd_ne, rf_eq, rf_nk, rf_nt, rd_fa, rd_af, rd_fl, rd_al, rd_lf, rd_la, rd_leq, rd_lne, rd_fr, rd_ar, ne_eq, Nat.reduceEqDiff, not_false_eq_true])) (by (try simp only [rd_eq, rd_ne, rf_eq, rf_nk, rf_nt, rd_fa, rd_af, rd_fl, rd_al, rd_lf, rd_la, rd_leq, rd_lne, rd_fr, rd_ar, ne_eq, Nat.reduceEqDiff, not_false_eq_true])) (fun i9_ u9_ => by ((try simp only [rd_eq, rd_ne, rf_eq, rf_nk, rf_nt, rd_fa, rd_af, rd_fl, rd_al, rd_lf, rd_la, rd_leq, rd_lne, rd_fr, rd_ar, ne_eq, Nat.reduceEqDiff, not_false_eq_true]); exact u9_)))
            · omega
          · have cx7_ : ¬ ((S_.2.2.1 202 0 k_.toNat) = 0) := of_decide_eq_false cx7_
            refine sm_T_go 3 (c1 := (318, [some (.inr (.inr (some (13, 0)))), some (.inl n_), some (.inl k_), none, none], [.inl k_, .inr (.inr (some (201, 0))), .inl k_, .inr (.inr (some (203, 0)))], S_)) rfl ?_
            refine sm_T_iald (n := 2048) rfl rfl (by omega) (by omega) ?_
            have bx10_ : (-2147483648) ≤ S_.2.2.1 201 0 k_.toNat ∧ S_.2.2.1 201 0 k_.toNat ≤ 2147483647 := hI_.2 201 0 _
            refine sm_T_go 1 (c1 := (320, [some (.inr (.inr (some (13, 0)))), some (.inl n_), some (.inl k_), none, none], [.inl 1, .inl (S_.2.2.1 201 0 k_.toNat), .inl k_, .inr (.inr (some (203, 0)))], S_)) rfl ?_
            refine sm_T_br (a := 5) (z := 7) rfl (fun cx11_ => ?_) (fun cx11_ => ?_)
            · have cx11_ : (S_.2.2.1 201 0 k_.toNat) ≤ 1 := of_decide_eq_true cx11_
              refine sm_T_go 1 (c1 := (328, [some (.inr (.inr (some (13, 0)))), some (.inl n_), some (.inl k_), none, none], [.inl 0, .inl k_, .inr (.inr (some (203, 0)))], S_)) rfl ?_
              refine sm_T_zas1 (n := 2048) rfl rfl (by omega) (by omega) (by omega) ?_
              have hIx12_ : gi (sm_aI S_ 203 0 k_.toNat 0) := gi_aI hI_ (show 0 ≤ 0 ∧ 0 ≤ 1 from ⟨by omega, by omega⟩)
              have hFx13_ : ai_fr (sx_W vw_394) S0_ (sm_aI S_ 203 0 k_.toNat 0) := ai_fr_tr hF_ (ai_fr_aI rfl)
              refine sm_T_inc (a := 2) (z := 1) (v := k_) (w := k_ + 1) rfl rfl (by omega) (by omega) (by omega) ?_ -- pc_ 329
              refine sm_T_go 1 (c1 := (285, [some (.inr (.inr (some (13, 0)))), some (.inl n_), some (.inl (k_ + 1)), none, none], [], sm_aI S_ 203 0 k_.toNat 0)) rfl ?_
              refine ih_.2.2.2.2 n_ (k_ + 1) (sm_aI S_ 203 0 k_.toNat 0) hIx12_ hFx13_ ⟨?_, ?_, ?_, trivial⟩ ?_
              · omega
              · exact rtd_mo hr_ (by (funext j9_; (try simp only [rd_eq, rd_ne, rf_eq, rf_nk, rf_nt, rd_fa, rd_af, rd_fl, rd_al, rd_lf, rd_la, rd_leq, rd_lne, rd_fr, rd_ar, ne_eq, Nat.reduceEqDiff, not_false_eq_true]))) (by (funext j9_; (try simp only [rd_eq, rd_ne, rf_eq, rf_nk, rf_nt, rd_fa, rd_af, rd_fl, rd_al, rd_lf, rd_la, rd_leq, rd_lne, rd_fr, rd_ar, ne_eq, Nat.reduceEqDiff, not_false_eq_true]))) (by (funext j9_; (try simp only [rd_eq, rd_ne, rf_eq, rf_nk, rf_nt, rd_fa, rd_af, rd_fl, rd_al, rd_lf, rd_la, rd_leq, rd_lne, rd_fr, rd_ar, ne_eq, Nat.reduceEqDiff, not_false_eq_true]))) (fun j9_ u9_ => by ((try simp only [rd_eq, rd_ne, rf_eq, rf_nk, rf_nt, rd_fa, rd_af, rd_fl, rd_al, rd_lf, rd_la, rd_leq, rd_lne, rd_fr, rd_ar, ne_eq, Nat.reduceEqDiff, not_false_eq_true]); exact u9_)) (fun j9_ u9_ => by ((try simp only [rd_eq, rd_ne, rf_eq, rf_nk, rf_nt, rd_fa, rd_af, rd_fl, rd_al, rd_lf, rd_la, rd_leq, rd_lne, rd_fr, rd_ar, ne_eq, Nat.reduceEqDiff, not_false_eq_true]); split; (first | rfl | (rename_i z9_; rw [z9_] at u9_; exfalso; omega)); exact u9_))
              · (intro j9_ u0_ u1_ u2_; exact lgp_mo (hl_ j9_ u0_ u1_ (by ((try simp only [rd_eq, rd_ne, rf_eq, rf_nk, rf_nt, rd_fa, rd_af, rd_fl, rd_al, rd_lf, rd_la, rd_leq, rd_lne, rd_fr, rd_ar, ne_eq, Nat.reduceEqDiff, not_false_eq_true] at *); exact u2_))) (by (try simp only [rd_eq, rd_ne, rf_eq, rf_nk, rf_nt, rd_fa, rd_af, rd_fl, rd_al, rd_lf, rd_la, rd_leq, rd_lne, rd_fr, rd_ar, ne_eq, Nat.reduceEqDiff, not_false_eq_true])) (by (try simp only [rd_eq, rd_ne, rf_eq, rf_nk, rf_nt, rd_fa, rd_af, rd_fl, rd_al, rd_lf, rd_la, rd_leq, rd_lne, rd_fr, rd_ar, ne_eq, Nat.reduceEqDiff, not_false_eq_true])) (fun i9_ u9_ => by ((try simp only [rd_eq, rd_ne, rf_eq, rf_nk, rf_nt, rd_fa, rd_af, rd_fl, rd_al, rd_lf, rd_la, rd_leq, rd_lne, rd_fr, rd_ar, ne_eq, Nat.reduceEqDiff, not_false_eq_true]); exact u9_)))
              · omega
            · have cx11_ : ¬ ((S_.2.2.1 201 0 k_.toNat) ≤ 1) := of_decide_eq_false cx11_
              refine sm_T_go 2 (c1 := (328, [some (.inr (.inr (some (13, 0)))), some (.inl n_), some (.inl k_), none, none], [.inl 1, .inl k_, .inr (.inr (some (203, 0)))], S_)) rfl ?_
              refine sm_T_zas1 (n := 2048) rfl rfl (by omega) (by omega) (by omega) ?_
              have hIx14_ : gi (sm_aI S_ 203 0 k_.toNat 1) := gi_aI hI_ (show 0 ≤ 1 ∧ 1 ≤ 1 from ⟨by omega, by omega⟩)
              have hFx15_ : ai_fr (sx_W vw_394) S0_ (sm_aI S_ 203 0 k_.toNat 1) := ai_fr_tr hF_ (ai_fr_aI rfl)
              refine sm_T_inc (a := 2) (z := 1) (v := k_) (w := k_ + 1) rfl rfl (by omega) (by omega) (by omega) ?_ -- pc_ 329
              refine sm_T_go 1 (c1 := (285, [some (.inr (.inr (some (13, 0)))), some (.inl n_), some (.inl (k_ + 1)), none, none], [], sm_aI S_ 203 0 k_.toNat 1)) rfl ?_
              refine ih_.2.2.2.2 n_ (k_ + 1) (sm_aI S_ 203 0 k_.toNat 1) hIx14_ hFx15_ ⟨?_, ?_, ?_, trivial⟩ ?_
              · omega
              · exact rtd_mo hr_ (by (funext j9_; (try simp only [rd_eq, rd_ne, rf_eq, rf_nk, rf_nt, rd_fa, rd_af, rd_fl, rd_al, rd_lf, rd_la, rd_leq, rd_lne, rd_fr, rd_ar, ne_eq, Nat.reduceEqDiff, not_false_eq_true]))) (by (funext j9_; (try simp only [rd_eq, rd_ne, rf_eq, rf_nk, rf_nt, rd_fa, rd_af, rd_fl, rd_al, rd_lf, rd_la, rd_leq, rd_lne, rd_fr, rd_ar, ne_eq, Nat.reduceEqDiff, not_false_eq_true]))) (by (funext j9_; (try simp only [rd_eq, rd_ne, rf_eq, rf_nk, rf_nt, rd_fa, rd_af, rd_fl, rd_al, rd_lf, rd_la, rd_leq, rd_lne, rd_fr, rd_ar, ne_eq, Nat.reduceEqDiff, not_false_eq_true]))) (fun j9_ u9_ => by ((try simp only [rd_eq, rd_ne, rf_eq, rf_nk, rf_nt, rd_fa, rd_af, rd_fl, rd_al, rd_lf, rd_la, rd_leq, rd_lne, rd_fr, rd_ar, ne_eq, Nat.reduceEqDiff, not_false_eq_true]); exact u9_)) (fun j9_ u9_ => by ((try simp only [rd_eq, rd_ne, rf_eq, rf_nk, rf_nt, rd_fa, rd_af, rd_fl, rd_al, rd_lf, rd_la, rd_leq, rd_lne, rd_fr, rd_ar, ne_eq, Nat.reduceEqDiff, not_false_eq_true]); split; (first | rfl | (rename_i z9_; rw [z9_] at u9_; exfalso; omega)); exact u9_))
              · (intro j9_ u0_ u1_ u2_; exact lgp_mo (hl_ j9_ u0_ u1_ (by ((try simp only [rd_eq, rd_ne, rf_eq, rf_nk, rf_nt, rd_fa, rd_af, rd_fl, rd_al, rd_lf, rd_la, rd_leq, rd_lne, rd_fr, rd_ar, ne_eq, Nat.reduceEqDiff, not_false_eq_true] at *); exact u2_))) (by (try simp only [rd_eq, rd_ne, rf_eq, rf_nk, rf_nt, rd_fa, rd_af, rd_fl, rd_al, rd_lf, rd_la, rd_leq, rd_lne, rd_fr, rd_ar, ne_eq, Nat.reduceEqDiff, not_false_eq_true])) (by (try simp only [rd_eq, rd_ne, rf_eq, rf_nk, rf_nt, rd_fa, rd_af, rd_fl, rd_al, rd_lf, rd_la, rd_leq, rd_lne, rd_fr, rd_ar, ne_eq, Nat.reduceEqDiff, not_false_eq_true])) (fun i9_ u9_ => by ((try simp only [rd_eq, rd_ne, rf_eq, rf_nk, rf_nt, rd_fa, rd_af, rd_fl, rd_al, rd_lf, rd_la, rd_leq, rd_lne, rd_fr, rd_ar, ne_eq, Nat.reduceEqDiff, not_false_eq_true]); exact u9_)))
              · omega
set_option maxHeartbeats 4000000 in
set_option maxRecDepth 20000 in
theorem vc_394 {sc_ : Nat × (Nat → Int)} (F_ : Int) (N_ : Int) (d_ : Int) (S0_ : sm_S) (hI_ : gi S0_) (hd_ : dmp F_ N_ d_ S0_) : sm_T (mt_P sc_) 2 394 (0, [some (.inr (.inr (some (13, 0)))), none, none, none, none], [], S0_) (fun ro9_ => ∃ u_ S1_, ro9_ = (.inl u_, S1_, 0) ∧ vq_394 F_ N_ d_ S0_ u_ S1_) := by
  have hF_ : ai_fr (sx_W vw_394) S0_ S0_ := ai_fr_rf
  have bx1_ : 0 ≤ S0_.1 13 0 105 ∧ S0_.1 13 0 105 ≤ 5 := hI_.1 13 0 105 rfl
  refine sm_T_go 4 (c1 := (8, [some (.inr (.inr (some (13, 0)))), none, none, none, none], [.inl (S0_.1 13 0 105), .inr (.inr (some (159, 0)))], S0_)) rfl ?_
  refine sm_T_iald (n := 6) rfl rfl (by omega) (by omega) ?_
  have bx2_ : 0 ≤ S0_.2.2.1 159 0 (S0_.1 13 0 105).toNat ∧ S0_.2.2.1 159 0 (S0_.1 13 0 105).toNat ≤ 1013 := hI_.2 159 0 _
  refine sm_T_go 3 (c1 := (12, [some (.inr (.inr (some (13, 0)))), some (.inl (S0_.2.2.1 159 0 (S0_.1 13 0 105).toNat)), some (.inl 0), none, none], [], S0_)) rfl ?_
  refine (vl_394 F_ N_ d_ S0_ hd_ _).1 (S0_.2.2.1 159 0 (S0_.1 13 0 105).toNat) 0 S0_ hI_ hF_ ⟨?_, ?_, trivial⟩ (Nat.lt_succ_self _)
  · (have d1_ := hd_.1; rw [d1_.2.2.1]; omega)
  · (intro j9_ u0_ u1_; exfalso; omega)
end
