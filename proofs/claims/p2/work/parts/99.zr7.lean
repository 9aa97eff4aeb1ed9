/-! the reference: nets connected; written by wip/p55/gen/vg -/

/-! the_ reference: nets connected -/
def ptf (S_ : sm_S) (k_ : Int) : Int := S_.2.2.1 245 0 k_.toNat * S_.1 13 0 174 + S_.2.2.1 244 0 k_.toNat
def hpn (S_ : sm_S) (n_ : Int) : Prop := ∃ k_ : Int, 0 ≤ k_ ∧ k_ < S_.1 13 0 159 ∧ S_.2.2.1 243 0 k_.toNat = n_
def hpk (S_ : sm_S) (n_ k_ : Int) : Prop := ∃ j_ : Int, k_ ≤ j_ ∧ j_ < S_.1 13 0 159 ∧ S_.2.2.1 243 0 j_.toNat = n_
def nbk (S_ : sm_S) (n_ v_ : Int) : Prop := ∃ k_ : Int, 0 ≤ k_ ∧ k_ < S_.1 13 0 159 ∧ S_.2.2.1 243 0 k_.toNat = n_ ∧ ptf S_ k_ = v_
def pnw (S_ : sm_S) : Prop := ∀ k_ : Int, 0 ≤ k_ → k_ < S_.1 13 0 159 → S_.2.2.1 244 0 k_.toNat < S_.1 13 0 174 ∧ S_.2.2.1 245 0 k_.toNat < S_.1 13 0 175
theorem pt_b {S_ : sm_S} {k_ : Int} (hI_ : gi S_) (hg_ : grd S_) (h_ : pnw S_) (h0_ : 0 ≤ k_) (h1_ : k_ < S_.1 13 0 159) : 0 ≤ ptf S_ k_ ∧ ptf S_ k_ < S_.1 13 0 174 * S_.1 13 0 175 := by
  have q_ := h_ k_ h0_ h1_
  have a_ : 0 ≤ S_.2.2.1 244 0 k_.toNat := (hI_.2 244 0 k_.toNat).1
  have b_ : 0 ≤ S_.2.2.1 245 0 k_.toNat := (hI_.2 245 0 k_.toNat).1
  unfold ptf
  have c_ : 0 ≤ S_.2.2.1 245 0 k_.toNat * S_.1 13 0 174 := Int.mul_nonneg b_ (by have := hg_.1; omega)
  have d_ : (S_.2.2.1 245 0 k_.toNat + 1) * S_.1 13 0 174 ≤ S_.1 13 0 175 * S_.1 13 0 174 := Int.mul_le_mul_of_nonneg_right (by omega) (by have := hg_.1; omega)
  rw [Int.add_mul, Int.one_mul, Int.mul_comm (S_.1 13 0 175)] at d_
  omega
theorem ptf_fr {w_ : sx_Wl} {S_ S'_ : sm_S} (g_ : ai_fr (sx_W w_) S_ S'_) (h1_ : (sx_W w_).1 13 174 = false := by rfl) (h2_ : (sx_W w_).2.1 244 = false := by rfl) (h3_ : (sx_W w_).2.1 245 = false := by rfl) : ptf S'_ = ptf S_ := by
  funext k_
  unfold ptf
  rw [g_.1 13 0 174 h1_, fr_arr g_ h2_, fr_arr g_ h3_]
theorem pnw_fr {w_ : sx_Wl} {S_ S'_ : sm_S} (h_ : pnw S_) (g_ : ai_fr (sx_W w_) S_ S'_) (h1_ : (sx_W w_).1 13 174 = false := by rfl) (h2_ : (sx_W w_).2.1 244 = false := by rfl) (h3_ : (sx_W w_).2.1 245 = false := by rfl) (h4_ : (sx_W w_).1 13 175 = false := by rfl) (h5_ : (sx_W w_).1 13 159 = false := by rfl) : pnw S'_ := by
  unfold pnw
  rw [g_.1 13 0 174 h1_, g_.1 13 0 175 h4_, g_.1 13 0 159 h5_, fr_arr g_ h2_, fr_arr g_ h3_]
  exact h_
theorem hpn_fr {w_ : sx_Wl} {S_ S'_ : sm_S} {n_ : Int} (h_ : hpn S_ n_) (g_ : ai_fr (sx_W w_) S_ S'_) (h2_ : (sx_W w_).2.1 243 = false := by rfl) (h5_ : (sx_W w_).1 13 159 = false := by rfl) : hpn S'_ n_ := by
  unfold hpn
  rw [g_.1 13 0 159 h5_, fr_arr g_ h2_]
  exact h_
theorem nbk_fr {w_ : sx_Wl} {S_ S'_ : sm_S} {n_ v_ : Int} (h_ : nbk S_ n_ v_) (g_ : ai_fr (sx_W w_) S_ S'_) (h1_ : (sx_W w_).1 13 174 = false := by rfl) (h2_ : (sx_W w_).2.1 244 = false := by rfl) (h3_ : (sx_W w_).2.1 245 = false := by rfl) (h4_ : (sx_W w_).2.1 243 = false := by rfl) (h5_ : (sx_W w_).1 13 159 = false := by rfl) : nbk S'_ n_ v_ := by
  unfold nbk
  rw [g_.1 13 0 159 h5_, fr_arr g_ h4_, ptf_fr g_ h1_ h2_ h3_]
  exact h_
/-- pins that are_ not connected -/
def uc (S_ : sm_S) (net_ ex_ : Int) (k_ : Nat) : Int := if S_.2.2.1 243 0 k_ = net_ ∧ nta S_ (ptf S_ k_) ≠ net_ ∧ ptf S_ k_ ≠ ex_ then 1 else 0
theorem uc_1 {S_ : sm_S} {net_ ex_ : Int} {k_ : Nat} : uc S_ net_ ex_ k_ = 1 ↔ S_.2.2.1 243 0 k_ = net_ ∧ nta S_ (ptf S_ k_) ≠ net_ ∧ ptf S_ k_ ≠ ex_ := by
  unfold uc
  split
  · rename_i h_
    exact ⟨fun _ => h_, fun _ => rfl⟩
  · rename_i h_
    exact ⟨fun z_ => absurd z_ (by decide), fun z_ => absurd z_ h_⟩
theorem uc_fr {w_ : sx_Wl} {S_ S'_ : sm_S} {net_ ex_ : Int} (g_ : ai_fr (sx_W w_) S_ S'_) (h1_ : (sx_W w_).1 13 174 = false := by rfl) (h2_ : (sx_W w_).2.1 244 = false := by rfl) (h3_ : (sx_W w_).2.1 245 = false := by rfl) (h4_ : (sx_W w_).2.1 243 = false := by rfl) (h5_ : (sx_W w_).1 13 177 = false := by rfl) (h6_ : (sx_W w_).2.1 252 = false := by rfl) : uc S'_ net_ ex_ = uc S_ net_ ex_ := by
  funext k_
  unfold uc
  rw [fr_arr g_ h4_, ptf_fr g_ h1_ h2_ h3_, nta_fr g_ h5_ h6_]
/-- nets of_ others change -/
theorem uc_cg {S_ S'_ : sm_S} {net_ ex_ : Int} (hg_ : grd S_) (hI_ : gi S_) (hp_ : pnw S_) (e1_ : S'_.1 13 0 159 = S_.1 13 0 159) (e2_ : S'_.2.2.1 243 0 = S_.2.2.1 243 0) (e3_ : ptf S'_ = ptf S_) (h_ : ∀ p_, 0 ≤ p_ → p_ < S_.1 13 0 176 → (nta S'_ p_ = net_ ↔ nta S_ p_ = net_)) : cn1 (uc S'_ net_ ex_) (S'_.1 13 0 159).toNat = cn1 (uc S_ net_ ex_) (S_.1 13 0 159).toNat := by
  rw [e1_]
  refine cn1_cg (fun k_ hk_ => ?_)
  have b_ := pt_b (k_ := (k_ : Int)) hI_ hg_ hp_ (by omega) (by omega)
  have q_ := h_ (ptf S_ k_) b_.1 (by have := hg_.2.2.2.2; omega)
  unfold uc
  rw [e2_, e3_]
  by_cases z_ : nta S_ (ptf S_ k_) = net_
  · rw [if_neg (by rintro ⟨-, y_, -⟩; exact y_ (q_.mpr z_)), if_neg (by rintro ⟨-, y_, -⟩; exact y_ z_)]
  · have z2_ : ¬ nta S'_ (ptf S_ k_) = net_ := fun y_ => z_ (q_.mp y_)
    by_cases a_ : S_.2.2.1 243 0 k_ = net_ ∧ ptf S_ k_ ≠ ex_
    · rw [if_pos ⟨a_.1, z2_, a_.2⟩, if_pos ⟨a_.1, z_, a_.2⟩]
    · rw [if_neg (fun y_ => a_ ⟨y_.1, y_.2.2⟩), if_neg (fun y_ => a_ ⟨y_.1, y_.2.2⟩)]
theorem uc_pin {S_ : sm_S} {net_ pin_ : Int} (hg_ : grd S_) (hI_ : gi S_) (hw_ : pnw S_) (h_ : nbk S_ net_ pin_) (hn_ : nta S_ pin_ ≠ net_) (hp_ : pin_ ≠ -1) : cn1 (uc S_ net_ pin_) (S_.1 13 0 159).toNat + 1 ≤ cn1 (uc S_ net_ (-1)) (S_.1 13 0 159).toNat := by
  obtain ⟨k_, a_, b_, c_, d_⟩ := h_
  have e_ : ((k_.toNat : Nat) : Int) = k_ := by omega
  refine cn1_sub (j_ := k_.toNat) (uc_1.mpr ⟨c_, by rw [e_, d_]; exact hn_, by rw [e_, d_]; exact hp_⟩) (fun z_ => (uc_1.mp z_).2.2 (by rw [e_]; exact d_)) (fun k1_ hk1_ z_ => ?_) (by omega)
  have y_ := uc_1.mp z_
  have b_ := pt_b (k_ := (k1_ : Int)) hI_ hg_ hw_ (by omega) (by omega)
  exact uc_1.mpr ⟨y_.1, y_.2.1, by omega⟩
theorem uc_set {S_ S'_ : sm_S} {net_ ex_ : Int} (hg_ : grd S_) (hI_ : gi S_) (hp_ : pnw S_) (e1_ : S'_.1 13 0 159 = S_.1 13 0 159) (e2_ : S'_.2.2.1 243 0 = S_.2.2.1 243 0) (e3_ : ptf S'_ = ptf S_) (h_ : ∀ p_, 0 ≤ p_ → p_ < S_.1 13 0 176 → nta S_ p_ = net_ → nta S'_ p_ = net_) : cn1 (uc S'_ net_ ex_) (S'_.1 13 0 159).toNat ≤ cn1 (uc S_ net_ ex_) (S_.1 13 0 159).toNat := by
  rw [e1_]
  refine cn1_mo (fun k_ hk_ z_ => ?_)
  have b_ := pt_b (k_ := (k_ : Int)) hI_ hg_ hp_ (by omega) (by omega)
  have y_ := uc_1.mp z_
  rw [e2_, e3_] at y_
  exact uc_1.mpr ⟨y_.1, fun q_ => y_.2.1 (h_ _ b_.1 (by have := hg_.2.2.2.2; omega) q_), y_.2.2⟩
theorem uc_done {S_ : sm_S} {net_ pin_ : Int} (h_ : nta S_ pin_ = net_) : cn1 (uc S_ net_ (-1)) (S_.1 13 0 159).toNat ≤ cn1 (uc S_ net_ pin_) (S_.1 13 0 159).toNat := by
  refine cn1_mo (fun k_ hk_ z_ => ?_)
  have y_ := uc_1.mp z_
  exact uc_1.mpr ⟨y_.1, y_.2.1, fun q_ => y_.2.1 (by rw [q_]; exact h_)⟩
/-- what a_ pin_ to_ be_ reached is_ -/
def npk (S_ : sm_S) (net_ de_ v_ : Int) : Prop := (0 ≤ v_ ∧ v_ < S_.1 13 0 174 * S_.1 13 0 175 ∧ S_.2.2.1 258 0 v_.toNat < 1000000000 ∧ nta S_ v_ ≠ net_) ∧ nbk S_ net_ v_ ∧ mD1 (S_.1 13 0 174) (S_.1 13 0 175) net_ (nta S_) (S_.2.2.1 258 0) ∧ mD2 (S_.1 13 0 174) (S_.1 13 0 175) (prS S_ net_ de_) (S_.2.2.1 258 0)
/-- points farther off_ -/
def fro (d_ : Nat → Int) (x_ : Int) (k_ : Nat) : Int := if x_ < d_ k_ then 1 else 0
theorem fro_1 {d_ : Nat → Int} {x_ : Int} {k_ : Nat} : fro d_ x_ k_ = 1 ↔ x_ < d_ k_ := by
  unfold fro
  split
  · rename_i h_
    exact ⟨fun _ => h_, fun _ => rfl⟩
  · rename_i h_
    exact ⟨fun z_ => absurd z_ (by decide), fun z_ => absurd z_ h_⟩
theorem fro_up {d_ : Nat → Int} {x_ y_ : Int} {p_ n_ : Nat} (hp_ : p_ < n_) (h_ : d_ p_ = x_) (hy_ : y_ < x_) : cn1 (fro d_ x_) n_ + 1 ≤ cn1 (fro d_ y_) n_ :=
  cn1_sub (j_ := p_) (fro_1.mpr (by omega)) (fun z_ => by have := fro_1.mp z_; omega) (fun k_ _ z_ => fro_1.mpr (by have := fro_1.mp z_; omega)) hp_
theorem fro_lt {d_ : Nat → Int} {p_ n_ : Nat} (hp_ : p_ < n_) : cn1 (fro d_ (d_ p_)) n_ < n_ := cn1_lt (j := p_) (fun z_ => by have := fro_1.mp z_; omega) hp_
/-- a_ way_ found so_ far_, back to_ a_ point before -/
def wbx (W_ H_ : Int) (d_ : Nat → Int) (p_ bf_ k_ : Int) : Prop := ∃ j_ : Int, (0 ≤ j_ ∧ j_ ≤ k_ ∧ j_ ≤ 4) ∧ 0 ≤ nxt W_ H_ p_ j_ ∧ d_ (nxt W_ H_ p_ j_).toNat = bf_
/-! M_.nearestPin -/
def vw_459 : sx_Wl := ([], [258, 259, 260], [])
def vq_459 (net_ : Int) (de_ : Int) (S0_ : sm_S) (u_ : Option sm_V) (S1_ : sm_S) : Prop := ∃ v_ : Int, u_ = some (.inl v_) ∧ gi S1_ ∧ ai_fr (sx_W vw_459) S0_ S1_ ∧ (v_ = -1 ∨ v_ = -2 ∨ npk S1_ net_ de_ v_)
set_option maxHeartbeats 2000000 in
set_option maxRecDepth 20000 in
theorem vl_459 {sc_ : Nat × (Nat → Int)} (net_ : Int) (de_ : Int) (S0_ : sm_S) (hgr_ : grd S0_) (hn_ : 0 ≤ net_ ∧ net_ ≤ 161) (hde_ : 0 ≤ de_ ∧ de_ ≤ 1) (hpw_ : pnw S0_) : ∀ nn_ : Nat, (∀ (an_ : Int) (k_ : Int) (S_ : sm_S), gi S_ → ai_fr (sx_W vw_459) S0_ S_ → ((0 ≤ k_ ∧ k_ ≤ 700 ∧ (an_ = 0 ∨ an_ = 1)) ∧ True) → ((9000 - k_).toNat) < nn_ → sm_T (mt_P sc_) 3 459 (5, [some (.inr (.inr (some (13, 0)))), some (.inl net_), some (.inl de_), some (.inl an_), some (.inl k_), none, none], [], S_) (fun ro9_ => ∃ u_ S1_, ro9_ = (.inl u_, S1_, 0) ∧ vq_459 net_ de_ S0_ u_ S1_)) ∧ (∀ (b_ : Int) (k_ : Int) (S_ : sm_S), gi S_ → ai_fr (sx_W vw_459) S0_ S_ → ((0 ≤ k_ ∧ k_ ≤ 700 ∧ -2 ≤ b_ ∧ b_ < S_.1 13 0 174 * S_.1 13 0 175) ∧ (b_ = -2 ∨ (0 ≤ b_ ∧ S_.2.2.1 258 0 b_.toNat < 1000000000 ∧ nta S_ b_ ≠ net_)) ∧ (b_ = -2 ∨ nbk S_ net_ b_) ∧ (mD1 (S_.1 13 0 174) (S_.1 13 0 175) net_ (nta S_) (S_.2.2.1 258 0)) ∧ (mD2 (S_.1 13 0 174) (S_.1 13 0 175) (prS S_ net_ de_) (S_.2.2.1 258 0)) ∧ True) → ((5000 - k_).toNat) < nn_ → sm_T (mt_P sc_) 3 459 (86, [some (.inr (.inr (some (13, 0)))), some (.inl net_), some (.inl de_), none, some (.inl b_), some (.inl k_), none], [], S_) (fun ro9_ => ∃ u_ S1_, ro9_ = (.inl u_, S1_, 0) ∧ vq_459 net_ de_ S0_ u_ S1_)) := by
  intro nn_
  induction nn_ with
  | zero => exact ⟨fun _ _ _ _ _ _ h_ => absurd h_ (Nat.not_lt_zero _), fun _ _ _ _ _ _ h_ => absurd h_ (Nat.not_lt_zero _)⟩
  | succ nn_ ih_ =>
    refine ⟨?_, ?_⟩
    · rintro an_ k_ S_ hI_ hF_ ⟨h0_, -⟩ hm_
      have g174_ : S_.1 13 0 174 = S0_.1 13 0 174 := hF_.1 13 0 174 rfl
      have g175_ : S_.1 13 0 175 = S0_.1 13 0 175 := hF_.1 13 0 175 rfl
      have gr9_ := grd_fr hgr_ hF_
      have pw9_ := pnw_fr hpw_ hF_
      have gm9_ := grd_m gr9_
      have g5_ := gr9_.2.2.2.2
      have P9_ : 0 ≤ S_.1 13 0 159 ∧ S_.1 13 0 159 ≤ 700 := hI_.1 13 0 159 rfl
      have bx1_ : 0 ≤ S_.1 13 0 159 ∧ S_.1 13 0 159 ≤ 700 := hI_.1 13 0 159 rfl
      refine sm_T_go 3 (c1 := (11, [some (.inr (.inr (some (13, 0)))), some (.inl net_), some (.inl de_), some (.inl an_), some (.inl k_), none, none], [.inl (S_.1 13 0 159), .inl k_], S_)) rfl ?_
      refine sm_T_br (a := 3) (z := 56) rfl (fun cx2_ => ?_) (fun cx2_ => ?_)
      · have cx2_ : (S_.1 13 0 159) ≤ k_ := of_decide_eq_true cx2_
        refine sm_T_go 1 (c1 := (68, [some (.inr (.inr (some (13, 0)))), some (.inl net_), some (.inl de_), some (.inl an_), some (.inl k_), none, none], [.inl an_], S_)) rfl ?_
        refine sm_T_b0 (a := 1) (z := 5) rfl (fun cx3_ => ?_) (fun cx3_ => ?_)
        · have cx3_ : an_ ≠ 0 := of_decide_eq_true cx3_
          refine sm_T_go 3 (c1 := (76, [some (.inr (.inr (some (13, 0)))), some (.inl net_), some (.inl de_), some (.inl an_), some (.inl k_), none, none], [.inl de_, .inl net_, .inr (.inr (some (13, 0)))], S_)) rfl ?_
          refine sm_T_cal (d1 := 2) (Q1 := vq_456 net_ de_ S_) rfl rfl (by decide) (vc_456 net_ de_ S_ hI_ (by exact gr9_) (by exact hn_) (by exact hde_)) (fun u_ Sx4_ px7_ => ?_)
          obtain ⟨rfl, hIx5_, hFx6_, px7_⟩ := px7_
          have hFx8_ : ai_fr (sx_W vw_459) S0_ Sx4_ := ai_fr_tr hF_ (fr_le hFx6_ rfl)
          have ex9_ : Sx4_.1 13 0 159 = S_.1 13 0 159 := hFx6_.1 13 0 159 rfl
          have m76_ := px7_
          have n76_ := nta_fr hFx6_
          have r76_ := prS_fr (net_ := net_) (de_ := de_) hFx6_
          have y174_ := hFx6_.1 13 0 174 rfl
          have y175_ := hFx6_.1 13 0 175 rfl
          refine sm_T_go 4 (c1 := (86, [some (.inr (.inr (some (13, 0)))), some (.inl net_), some (.inl de_), some (.inl an_), some (.inl (-2)), some (.inl 0), none], [], Sx4_)) rfl ?_
          refine sm_T_wk [some (.inr (.inr (some (13, 0)))), some (.inl net_), some (.inl de_), none, some (.inl (-2)), some (.inl 0), none] (by exact ⟨rfl, rfl, rfl, rfl, rfl, trivial⟩) ?_
          refine ih_.2 (-2) 0 Sx4_ hIx5_ hFx8_ ⟨?_, ?_, ?_, ?_, ?_, trivial⟩ ?_
          · (rw [y174_, y175_]; omega)
          · omega
          · exact Or.inl rfl
          · (rw [y174_, y175_, n76_]; exact m76_.1)
          · (rw [y174_, y175_, r76_]; exact m76_.2)
          · omega
        · have cx3_ : ¬ (an_ ≠ 0) := of_decide_eq_false cx3_
          refine sm_T_go 1 (c1 := (72, [some (.inr (.inr (some (13, 0)))), some (.inl net_), some (.inl de_), some (.inl an_), some (.inl k_), none, none], [.inl (-1)], S_)) rfl ?_
          refine sm_T_ri rfl ⟨_, _, rfl, _, rfl, hI_, hF_, ?_⟩
          first | exact Or.inl rfl | (by_cases z9_ : b_ = -2; exact Or.inr (Or.inl z9_); exact Or.inr (Or.inr ⟨by omega, hk_.resolve_left z9_, hD_, hE_⟩))
      · have cx2_ : ¬ ((S_.1 13 0 159) ≤ k_) := of_decide_eq_false cx2_
        have pb9_ := pt_b (k_ := k_) hI_ gr9_ pw9_ (by omega) (by omega)
        refine sm_T_go 1 (c1 := (15, [some (.inr (.inr (some (13, 0)))), some (.inl net_), some (.inl de_), some (.inl an_), some (.inl k_), none, none], [.inl an_], S_)) rfl ?_
        refine sm_T_b0 (a := 1) (z := 40) rfl (fun cx10_ => ?_) (fun cx10_ => ?_)
        · have cx10_ : an_ ≠ 0 := of_decide_eq_true cx10_
          refine sm_T_go 3 (c1 := (61, [some (.inr (.inr (some (13, 0)))), some (.inl net_), some (.inl de_), some (.inl 1), some (.inl k_), none, none], [], S_)) rfl ?_
          refine sm_T_inc (a := 4) (z := 1) (v := k_) (w := k_ + 1) rfl rfl (by omega) (by omega) (by omega) ?_ -- pc_ 61
          refine sm_T_go 1 (c1 := (5, [some (.inr (.inr (some (13, 0)))), some (.inl net_), some (.inl de_), some (.inl 1), some (.inl (k_ + 1)), none, none], [], S_)) rfl ?_
          refine ih_.1 1 (k_ + 1) S_ hI_ hF_ ⟨?_, trivial⟩ ?_
          · omega
          · omega
        · have cx10_ : ¬ (an_ ≠ 0) := of_decide_eq_false cx10_
          refine sm_T_go 3 (c1 := (24, [some (.inr (.inr (some (13, 0)))), some (.inl net_), some (.inl de_), some (.inl an_), some (.inl k_), none, none], [.inl k_, .inr (.inr (some (243, 0)))], S_)) rfl ?_
          refine sm_T_iald (n := 700) rfl rfl (by omega) (by omega) ?_
          have bx11_ : 0 ≤ S_.2.2.1 243 0 k_.toNat ∧ S_.2.2.1 243 0 k_.toNat ≤ 161 := hI_.2 243 0 _
          refine sm_T_go 1 (c1 := (26, [some (.inr (.inr (some (13, 0)))), some (.inl net_), some (.inl de_), some (.inl an_), some (.inl k_), none, none], [.inl net_, .inl (S_.2.2.1 243 0 k_.toNat)], S_)) rfl ?_
          refine sm_T_br (a := 1) (z := 33) rfl (fun cx12_ => ?_) (fun cx12_ => ?_)
          · have cx12_ : (S_.2.2.1 243 0 k_.toNat) ≠ net_ := of_decide_eq_true cx12_
            refine sm_T_go 2 (c1 := (61, [some (.inr (.inr (some (13, 0)))), some (.inl net_), some (.inl de_), some (.inl 0), some (.inl k_), none, none], [], S_)) rfl ?_
            refine sm_T_inc (a := 4) (z := 1) (v := k_) (w := k_ + 1) rfl rfl (by omega) (by omega) (by omega) ?_ -- pc_ 61
            refine sm_T_go 1 (c1 := (5, [some (.inr (.inr (some (13, 0)))), some (.inl net_), some (.inl de_), some (.inl 0), some (.inl (k_ + 1)), none, none], [], S_)) rfl ?_
            refine ih_.1 0 (k_ + 1) S_ hI_ hF_ ⟨?_, trivial⟩ ?_
            · omega
            · omega
          · have cx12_ : ¬ ((S_.2.2.1 243 0 k_.toNat) ≠ net_) := of_decide_eq_false cx12_
            refine sm_T_go 5 (c1 := (37, [some (.inr (.inr (some (13, 0)))), some (.inl net_), some (.inl de_), some (.inl an_), some (.inl k_), none, none], [.inl k_, .inr (.inr (some (244, 0))), .inr (.inr (some (13, 0))), .inr (.inr (some (13, 0)))], S_)) rfl ?_
            refine sm_T_iald (n := 700) rfl rfl (by omega) (by omega) ?_
            have bx13_ : 0 ≤ S_.2.2.1 244 0 k_.toNat ∧ S_.2.2.1 244 0 k_.toNat ≤ 200 := hI_.2 244 0 _
            refine sm_T_go 3 (c1 := (44, [some (.inr (.inr (some (13, 0)))), some (.inl net_), some (.inl de_), some (.inl an_), some (.inl k_), none, none], [.inl k_, .inr (.inr (some (245, 0))), .inl (S_.2.2.1 244 0 k_.toNat), .inr (.inr (some (13, 0))), .inr (.inr (some (13, 0)))], S_)) rfl ?_
            refine sm_T_iald (n := 700) rfl rfl (by omega) (by omega) ?_
            have bx14_ : 0 ≤ S_.2.2.1 245 0 k_.toNat ∧ S_.2.2.1 245 0 k_.toNat ≤ 40 := hI_.2 245 0 _
            refine sm_T_cal (d1 := 0) (Q1 := vq_452 (S_.2.2.1 244 0 k_.toNat) (S_.2.2.1 245 0 k_.toNat) S_) rfl rfl (by decide) (vc_452 (S_.2.2.1 244 0 k_.toNat) (S_.2.2.1 245 0 k_.toNat) S_ hI_ (by omega) (by omega)) (fun u_ Sx15_ px18_ => ?_)
            obtain ⟨rfl, vx20_, rfl, px18_⟩ := px18_
            have e45_ := px18_
            have t45_ : vx20_ = ptf S_ k_ := e45_
            refine sm_T_cal (d1 := 0) (Q1 := vq_454 vx20_ S_) rfl rfl (by decide) (vc_454 vx20_ S_ hI_ (by omega)) (fun u_ Sx21_ px24_ => ?_)
            obtain ⟨rfl, vx26_, rfl, px24_⟩ := px24_
            have e48_ := px24_
            refine sm_T_go 1 (c1 := (52, [some (.inr (.inr (some (13, 0)))), some (.inl net_), some (.inl de_), some (.inl an_), some (.inl k_), none, none], [.inl net_, .inl vx26_], S_)) rfl ?_
            refine sm_T_br (a := 0) (z := 7) rfl (fun cx27_ => ?_) (fun cx27_ => ?_)
            · have cx27_ : vx26_ = net_ := of_decide_eq_true cx27_
              refine sm_T_go 2 (c1 := (61, [some (.inr (.inr (some (13, 0)))), some (.inl net_), some (.inl de_), some (.inl 0), some (.inl k_), none, none], [], S_)) rfl ?_
              refine sm_T_inc (a := 4) (z := 1) (v := k_) (w := k_ + 1) rfl rfl (by omega) (by omega) (by omega) ?_ -- pc_ 61
              refine sm_T_go 1 (c1 := (5, [some (.inr (.inr (some (13, 0)))), some (.inl net_), some (.inl de_), some (.inl 0), some (.inl (k_ + 1)), none, none], [], S_)) rfl ?_
              refine ih_.1 0 (k_ + 1) S_ hI_ hF_ ⟨?_, trivial⟩ ?_
              · omega
              · omega
            · have cx27_ : ¬ (vx26_ = net_) := of_decide_eq_false cx27_
              refine sm_T_go 3 (c1 := (61, [some (.inr (.inr (some (13, 0)))), some (.inl net_), some (.inl de_), some (.inl 1), some (.inl k_), none, none], [], S_)) rfl ?_
              refine sm_T_inc (a := 4) (z := 1) (v := k_) (w := k_ + 1) rfl rfl (by omega) (by omega) (by omega) ?_ -- pc_ 61
              refine sm_T_go 1 (c1 := (5, [some (.inr (.inr (some (13, 0)))), some (.inl net_), some (.inl de_), some (.inl 1), some (.inl (k_ + 1)), none, none], [], S_)) rfl ?_
              refine ih_.1 1 (k_ + 1) S_ hI_ hF_ ⟨?_, trivial⟩ ?_
              · omega
              · omega
    · rintro b_ k_ S_ hI_ hF_ ⟨h0_, hb_, hk_, hD_, hE_, -⟩ hm_
      have g174_ : S_.1 13 0 174 = S0_.1 13 0 174 := hF_.1 13 0 174 rfl
      have g175_ : S_.1 13 0 175 = S0_.1 13 0 175 := hF_.1 13 0 175 rfl
      have gr9_ := grd_fr hgr_ hF_
      have pw9_ := pnw_fr hpw_ hF_
      have gm9_ := grd_m gr9_
      have g5_ := gr9_.2.2.2.2
      have P9_ : 0 ≤ S_.1 13 0 159 ∧ S_.1 13 0 159 ≤ 700 := hI_.1 13 0 159 rfl
      have bx1_ : 0 ≤ S_.1 13 0 159 ∧ S_.1 13 0 159 ≤ 700 := hI_.1 13 0 159 rfl
      refine sm_T_go 3 (c1 := (92, [some (.inr (.inr (some (13, 0)))), some (.inl net_), some (.inl de_), none, some (.inl b_), some (.inl k_), none], [.inl (S_.1 13 0 159), .inl k_], S_)) rfl ?_
      refine sm_T_br (a := 3) (z := 118) rfl (fun cx2_ => ?_) (fun cx2_ => ?_)
      · have cx2_ : (S_.1 13 0 159) ≤ k_ := of_decide_eq_true cx2_
        refine sm_T_go 1 (c1 := (212, [some (.inr (.inr (some (13, 0)))), some (.inl net_), some (.inl de_), none, some (.inl b_), some (.inl k_), none], [.inl b_], S_)) rfl ?_
        refine sm_T_ri rfl ⟨_, _, rfl, _, rfl, hI_, hF_, ?_⟩
        first | exact Or.inl rfl | (by_cases z9_ : b_ = -2; exact Or.inr (Or.inl z9_); exact Or.inr (Or.inr ⟨by omega, hk_.resolve_left z9_, hD_, hE_⟩))
      · have cx2_ : ¬ ((S_.1 13 0 159) ≤ k_) := of_decide_eq_false cx2_
        have pb9_ := pt_b (k_ := k_) hI_ gr9_ pw9_ (by omega) (by omega)
        refine sm_T_go 4 (c1 := (102, [some (.inr (.inr (some (13, 0)))), some (.inl net_), some (.inl de_), none, some (.inl b_), some (.inl k_), none], [.inl k_, .inr (.inr (some (244, 0))), .inr (.inr (some (13, 0)))], S_)) rfl ?_
        refine sm_T_iald (n := 700) rfl rfl (by omega) (by omega) ?_
        have bx3_ : 0 ≤ S_.2.2.1 244 0 k_.toNat ∧ S_.2.2.1 244 0 k_.toNat ≤ 200 := hI_.2 244 0 _
        refine sm_T_go 3 (c1 := (109, [some (.inr (.inr (some (13, 0)))), some (.inl net_), some (.inl de_), none, some (.inl b_), some (.inl k_), none], [.inl k_, .inr (.inr (some (245, 0))), .inl (S_.2.2.1 244 0 k_.toNat), .inr (.inr (some (13, 0)))], S_)) rfl ?_
        refine sm_T_iald (n := 700) rfl rfl (by omega) (by omega) ?_
        have bx4_ : 0 ≤ S_.2.2.1 245 0 k_.toNat ∧ S_.2.2.1 245 0 k_.toNat ≤ 40 := hI_.2 245 0 _
        refine sm_T_cal (d1 := 0) (Q1 := vq_452 (S_.2.2.1 244 0 k_.toNat) (S_.2.2.1 245 0 k_.toNat) S_) rfl rfl (by decide) (vc_452 (S_.2.2.1 244 0 k_.toNat) (S_.2.2.1 245 0 k_.toNat) S_ hI_ (by omega) (by omega)) (fun u_ Sx5_ px8_ => ?_)
        obtain ⟨rfl, vx10_, rfl, px8_⟩ := px8_
        have e110_ := px8_
        have t110_ : vx10_ = ptf S_ k_ := e110_
        refine sm_T_go 4 (c1 := (121, [some (.inr (.inr (some (13, 0)))), some (.inl net_), some (.inl de_), none, some (.inl b_), some (.inl k_), some (.inl vx10_)], [.inl k_, .inr (.inr (some (243, 0)))], S_)) rfl ?_
        refine sm_T_iald (n := 700) rfl rfl (by omega) (by omega) ?_
        have bx11_ : 0 ≤ S_.2.2.1 243 0 k_.toNat ∧ S_.2.2.1 243 0 k_.toNat ≤ 161 := hI_.2 243 0 _
        refine sm_T_go 1 (c1 := (123, [some (.inr (.inr (some (13, 0)))), some (.inl net_), some (.inl de_), none, some (.inl b_), some (.inl k_), some (.inl vx10_)], [.inl net_, .inl (S_.2.2.1 243 0 k_.toNat)], S_)) rfl ?_
        refine sm_T_br (a := 1) (z := 81) rfl (fun cx12_ => ?_) (fun cx12_ => ?_)
        · have cx12_ : (S_.2.2.1 243 0 k_.toNat) ≠ net_ := of_decide_eq_true cx12_
          refine sm_T_inc (a := 5) (z := 1) (v := k_) (w := k_ + 1) rfl rfl (by omega) (by omega) (by omega) ?_ -- pc_ 204
          refine sm_T_go 1 (c1 := (86, [some (.inr (.inr (some (13, 0)))), some (.inl net_), some (.inl de_), none, some (.inl b_), some (.inl (k_ + 1)), some (.inl vx10_)], [], S_)) rfl ?_
          refine sm_T_wk [some (.inr (.inr (some (13, 0)))), some (.inl net_), some (.inl de_), none, some (.inl b_), some (.inl (k_ + 1)), none] (by exact ⟨rfl, rfl, rfl, rfl, rfl, trivial⟩) ?_
          refine ih_.2 b_ (k_ + 1) S_ hI_ hF_ ⟨?_, ?_, ?_, ?_, ?_, trivial⟩ ?_
          · omega
          · first | exact hb_ | (right; rw [t110_] at *; exact ⟨by omega, by omega, by omega⟩)
          · first | exact hk_ | (right; exact ⟨k_, by omega, by omega, by omega, t110_.symm⟩)
          · exact hD_
          · exact hE_
          · omega
        · have cx12_ : ¬ ((S_.2.2.1 243 0 k_.toNat) ≠ net_) := of_decide_eq_false cx12_
          refine sm_T_go 2 (c1 := (129, [some (.inr (.inr (some (13, 0)))), some (.inl net_), some (.inl de_), none, some (.inl b_), some (.inl k_), some (.inl vx10_)], [.inl vx10_, .inr (.inr (some (13, 0)))], S_)) rfl ?_
          refine sm_T_cal (d1 := 0) (Q1 := vq_454 vx10_ S_) rfl rfl (by decide) (vc_454 vx10_ S_ hI_ (by omega)) (fun u_ Sx13_ px16_ => ?_)
          obtain ⟨rfl, vx18_, rfl, px16_⟩ := px16_
          have e129_ := px16_
          rw [t110_] at e129_
          refine sm_T_go 1 (c1 := (133, [some (.inr (.inr (some (13, 0)))), some (.inl net_), some (.inl de_), none, some (.inl b_), some (.inl k_), some (.inl vx10_)], [.inl net_, .inl vx18_], S_)) rfl ?_
          refine sm_T_br (a := 0) (z := 71) rfl (fun cx19_ => ?_) (fun cx19_ => ?_)
          · have cx19_ : vx18_ = net_ := of_decide_eq_true cx19_
            refine sm_T_inc (a := 5) (z := 1) (v := k_) (w := k_ + 1) rfl rfl (by omega) (by omega) (by omega) ?_ -- pc_ 204
            refine sm_T_go 1 (c1 := (86, [some (.inr (.inr (some (13, 0)))), some (.inl net_), some (.inl de_), none, some (.inl b_), some (.inl (k_ + 1)), some (.inl vx10_)], [], S_)) rfl ?_
            refine sm_T_wk [some (.inr (.inr (some (13, 0)))), some (.inl net_), some (.inl de_), none, some (.inl b_), some (.inl (k_ + 1)), none] (by exact ⟨rfl, rfl, rfl, rfl, rfl, trivial⟩) ?_
            refine ih_.2 b_ (k_ + 1) S_ hI_ hF_ ⟨?_, ?_, ?_, ?_, ?_, trivial⟩ ?_
            · omega
            · first | exact hb_ | (right; rw [t110_] at *; exact ⟨by omega, by omega, by omega⟩)
            · first | exact hk_ | (right; exact ⟨k_, by omega, by omega, by omega, t110_.symm⟩)
            · exact hD_
            · exact hE_
            · omega
          · have cx19_ : ¬ (vx18_ = net_) := of_decide_eq_false cx19_
            refine sm_T_go 3 (c1 := (142, [some (.inr (.inr (some (13, 0)))), some (.inl net_), some (.inl de_), none, some (.inl b_), some (.inl k_), some (.inl vx10_)], [.inl vx10_, .inr (.inr (some (258, 0)))], S_)) rfl ?_
            refine sm_T_iald (n := 4712) rfl rfl (by omega) (by omega) ?_
            have bx20_ : 0 ≤ S_.2.2.1 258 0 vx10_.toNat ∧ S_.2.2.1 258 0 vx10_.toNat ≤ 1000000000 := hI_.2 258 0 _
            refine sm_T_nt (u := some (.inl 1000000000)) (S1 := S_) rfl rfl rfl ?_
            refine sm_T_br (a := 3) (z := 58) rfl (fun cx21_ => ?_) (fun cx21_ => ?_)
            · have cx21_ : 1000000000 ≤ (S_.2.2.1 258 0 vx10_.toNat) := of_decide_eq_true cx21_
              refine sm_T_inc (a := 5) (z := 1) (v := k_) (w := k_ + 1) rfl rfl (by omega) (by omega) (by omega) ?_ -- pc_ 204
              refine sm_T_go 1 (c1 := (86, [some (.inr (.inr (some (13, 0)))), some (.inl net_), some (.inl de_), none, some (.inl b_), some (.inl (k_ + 1)), some (.inl vx10_)], [], S_)) rfl ?_
              refine sm_T_wk [some (.inr (.inr (some (13, 0)))), some (.inl net_), some (.inl de_), none, some (.inl b_), some (.inl (k_ + 1)), none] (by exact ⟨rfl, rfl, rfl, rfl, rfl, trivial⟩) ?_
              refine ih_.2 b_ (k_ + 1) S_ hI_ hF_ ⟨?_, ?_, ?_, ?_, ?_, trivial⟩ ?_
              · omega
              · first | exact hb_ | (right; rw [t110_] at *; exact ⟨by omega, by omega, by omega⟩)
              · first | exact hk_ | (right; exact ⟨k_, by omega, by omega, by omega, t110_.symm⟩)
              · exact hD_
              · exact hE_
              · omega
            · have cx21_ : ¬ (1000000000 ≤ (S_.2.2.1 258 0 vx10_.toNat)) := of_decide_eq_false cx21_
              refine sm_T_go 1 (c1 := (151, [some (.inr (.inr (some (13, 0)))), some (.inl net_), some (.inl de_), none, some (.inl b_), some (.inl k_), some (.inl vx10_)], [.inl b_], S_)) rfl ?_
              refine sm_T_b0 (a := 2) (z := 44) rfl (fun cx22_ => ?_) (fun cx22_ => ?_)
              · have cx22_ : b_ < 0 := of_decide_eq_true cx22_
                refine sm_T_go 3 (c1 := (204, [some (.inr (.inr (some (13, 0)))), some (.inl net_), some (.inl de_), none, some (.inl vx10_), some (.inl k_), some (.inl vx10_)], [], S_)) rfl ?_
                refine sm_T_inc (a := 5) (z := 1) (v := k_) (w := k_ + 1) rfl rfl (by omega) (by omega) (by omega) ?_ -- pc_ 204
                refine sm_T_go 1 (c1 := (86, [some (.inr (.inr (some (13, 0)))), some (.inl net_), some (.inl de_), none, some (.inl vx10_), some (.inl (k_ + 1)), some (.inl vx10_)], [], S_)) rfl ?_
                refine sm_T_wk [some (.inr (.inr (some (13, 0)))), some (.inl net_), some (.inl de_), none, some (.inl vx10_), some (.inl (k_ + 1)), none] (by exact ⟨rfl, rfl, rfl, rfl, rfl, trivial⟩) ?_
                refine ih_.2 vx10_ (k_ + 1) S_ hI_ hF_ ⟨?_, ?_, ?_, ?_, ?_, trivial⟩ ?_
                · omega
                · first | exact hb_ | (right; rw [t110_] at *; exact ⟨by omega, by omega, by omega⟩)
                · first | exact hk_ | (right; exact ⟨k_, by omega, by omega, by omega, t110_.symm⟩)
                · exact hD_
                · exact hE_
                · omega
              · have cx22_ : ¬ (b_ < 0) := of_decide_eq_false cx22_
                refine sm_T_go 3 (c1 := (160, [some (.inr (.inr (some (13, 0)))), some (.inl net_), some (.inl de_), none, some (.inl b_), some (.inl k_), some (.inl vx10_)], [.inl vx10_, .inr (.inr (some (258, 0)))], S_)) rfl ?_
                refine sm_T_iald (n := 4712) rfl rfl (by omega) (by omega) ?_
                refine sm_T_go 3 (c1 := (167, [some (.inr (.inr (some (13, 0)))), some (.inl net_), some (.inl de_), none, some (.inl b_), some (.inl k_), some (.inl vx10_)], [.inl b_, .inr (.inr (some (258, 0))), .inl (S_.2.2.1 258 0 vx10_.toNat)], S_)) rfl ?_
                refine sm_T_iald (n := 4712) rfl rfl (by omega) (by omega) ?_
                have bx23_ : 0 ≤ S_.2.2.1 258 0 b_.toNat ∧ S_.2.2.1 258 0 b_.toNat ≤ 1000000000 := hI_.2 258 0 _
                refine sm_T_br (a := 2) (z := 27) rfl (fun cx24_ => ?_) (fun cx24_ => ?_)
                · have cx24_ : (S_.2.2.1 258 0 vx10_.toNat) < (S_.2.2.1 258 0 b_.toNat) := of_decide_eq_true cx24_
                  refine sm_T_go 3 (c1 := (204, [some (.inr (.inr (some (13, 0)))), some (.inl net_), some (.inl de_), none, some (.inl vx10_), some (.inl k_), some (.inl vx10_)], [], S_)) rfl ?_
                  refine sm_T_inc (a := 5) (z := 1) (v := k_) (w := k_ + 1) rfl rfl (by omega) (by omega) (by omega) ?_ -- pc_ 204
                  refine sm_T_go 1 (c1 := (86, [some (.inr (.inr (some (13, 0)))), some (.inl net_), some (.inl de_), none, some (.inl vx10_), some (.inl (k_ + 1)), some (.inl vx10_)], [], S_)) rfl ?_
                  refine sm_T_wk [some (.inr (.inr (some (13, 0)))), some (.inl net_), some (.inl de_), none, some (.inl vx10_), some (.inl (k_ + 1)), none] (by exact ⟨rfl, rfl, rfl, rfl, rfl, trivial⟩) ?_
                  refine ih_.2 vx10_ (k_ + 1) S_ hI_ hF_ ⟨?_, ?_, ?_, ?_, ?_, trivial⟩ ?_
                  · omega
                  · first | exact hb_ | (right; rw [t110_] at *; exact ⟨by omega, by omega, by omega⟩)
                  · first | exact hk_ | (right; exact ⟨k_, by omega, by omega, by omega, t110_.symm⟩)
                  · exact hD_
                  · exact hE_
                  · omega
                · have cx24_ : ¬ ((S_.2.2.1 258 0 vx10_.toNat) < (S_.2.2.1 258 0 b_.toNat)) := of_decide_eq_false cx24_
                  refine sm_T_go 3 (c1 := (177, [some (.inr (.inr (some (13, 0)))), some (.inl net_), some (.inl de_), none, some (.inl b_), some (.inl k_), some (.inl vx10_)], [.inl vx10_, .inr (.inr (some (258, 0)))], S_)) rfl ?_
                  refine sm_T_iald (n := 4712) rfl rfl (by omega) (by omega) ?_
                  refine sm_T_go 3 (c1 := (184, [some (.inr (.inr (some (13, 0)))), some (.inl net_), some (.inl de_), none, some (.inl b_), some (.inl k_), some (.inl vx10_)], [.inl b_, .inr (.inr (some (258, 0))), .inl (S_.2.2.1 258 0 vx10_.toNat)], S_)) rfl ?_
                  refine sm_T_iald (n := 4712) rfl rfl (by omega) (by omega) ?_
                  refine sm_T_br (a := 1) (z := 15) rfl (fun cx25_ => ?_) (fun cx25_ => ?_)
                  · have cx25_ : (S_.2.2.1 258 0 vx10_.toNat) ≠ (S_.2.2.1 258 0 b_.toNat) := of_decide_eq_true cx25_
                    refine sm_T_go 2 (c1 := (204, [some (.inr (.inr (some (13, 0)))), some (.inl net_), some (.inl de_), none, some (.inl b_), some (.inl k_), some (.inl vx10_)], [], S_)) rfl ?_
                    refine sm_T_inc (a := 5) (z := 1) (v := k_) (w := k_ + 1) rfl rfl (by omega) (by omega) (by omega) ?_ -- pc_ 204
                    refine sm_T_go 1 (c1 := (86, [some (.inr (.inr (some (13, 0)))), some (.inl net_), some (.inl de_), none, some (.inl b_), some (.inl (k_ + 1)), some (.inl vx10_)], [], S_)) rfl ?_
                    refine sm_T_wk [some (.inr (.inr (some (13, 0)))), some (.inl net_), some (.inl de_), none, some (.inl b_), some (.inl (k_ + 1)), none] (by exact ⟨rfl, rfl, rfl, rfl, rfl, trivial⟩) ?_
                    refine ih_.2 b_ (k_ + 1) S_ hI_ hF_ ⟨?_, ?_, ?_, ?_, ?_, trivial⟩ ?_
                    · omega
                    · first | exact hb_ | (right; rw [t110_] at *; exact ⟨by omega, by omega, by omega⟩)
                    · first | exact hk_ | (right; exact ⟨k_, by omega, by omega, by omega, t110_.symm⟩)
                    · exact hD_
                    · exact hE_
                    · omega
                  · have cx25_ : ¬ ((S_.2.2.1 258 0 vx10_.toNat) ≠ (S_.2.2.1 258 0 b_.toNat)) := of_decide_eq_false cx25_
                    refine sm_T_go 2 (c1 := (192, [some (.inr (.inr (some (13, 0)))), some (.inl net_), some (.inl de_), none, some (.inl b_), some (.inl k_), some (.inl vx10_)], [.inl b_, .inl vx10_], S_)) rfl ?_
                    refine sm_T_br (a := 3) (z := 8) rfl (fun cx26_ => ?_) (fun cx26_ => ?_)
                    · have cx26_ : b_ ≤ vx10_ := of_decide_eq_true cx26_
                      refine sm_T_go 2 (c1 := (204, [some (.inr (.inr (some (13, 0)))), some (.inl net_), some (.inl de_), none, some (.inl b_), some (.inl k_), some (.inl vx10_)], [], S_)) rfl ?_
                      refine sm_T_inc (a := 5) (z := 1) (v := k_) (w := k_ + 1) rfl rfl (by omega) (by omega) (by omega) ?_ -- pc_ 204
                      refine sm_T_go 1 (c1 := (86, [some (.inr (.inr (some (13, 0)))), some (.inl net_), some (.inl de_), none, some (.inl b_), some (.inl (k_ + 1)), some (.inl vx10_)], [], S_)) rfl ?_
                      refine sm_T_wk [some (.inr (.inr (some (13, 0)))), some (.inl net_), some (.inl de_), none, some (.inl b_), some (.inl (k_ + 1)), none] (by exact ⟨rfl, rfl, rfl, rfl, rfl, trivial⟩) ?_
                      refine ih_.2 b_ (k_ + 1) S_ hI_ hF_ ⟨?_, ?_, ?_, ?_, ?_, trivial⟩ ?_
                      · omega
                      · first | exact hb_ | (right; rw [t110_] at *; exact ⟨by omega, by omega, by omega⟩)
                      · first | exact hk_ | (right; exact ⟨k_, by omega, by omega, by omega, t110_.symm⟩)
                      · exact hD_
                      · exact hE_
                      · omega
                    · have cx26_ : ¬ (b_ ≤ vx10_) := of_decide_eq_false cx26_
                      refine sm_T_go 3 (c1 := (204, [some (.inr (.inr (some (13, 0)))), some (.inl net_), some (.inl de_), none, some (.inl vx10_), some (.inl k_), some (.inl vx10_)], [], S_)) rfl ?_
                      refine sm_T_inc (a := 5) (z := 1) (v := k_) (w := k_ + 1) rfl rfl (by omega) (by omega) (by omega) ?_ -- pc_ 204
                      refine sm_T_go 1 (c1 := (86, [some (.inr (.inr (some (13, 0)))), some (.inl net_), some (.inl de_), none, some (.inl vx10_), some (.inl (k_ + 1)), some (.inl vx10_)], [], S_)) rfl ?_
                      refine sm_T_wk [some (.inr (.inr (some (13, 0)))), some (.inl net_), some (.inl de_), none, some (.inl vx10_), some (.inl (k_ + 1)), none] (by exact ⟨rfl, rfl, rfl, rfl, rfl, trivial⟩) ?_
                      refine ih_.2 vx10_ (k_ + 1) S_ hI_ hF_ ⟨?_, ?_, ?_, ?_, ?_, trivial⟩ ?_
                      · omega
                      · first | exact hb_ | (right; rw [t110_] at *; exact ⟨by omega, by omega, by omega⟩)
                      · first | exact hk_ | (right; exact ⟨k_, by omega, by omega, by omega, t110_.symm⟩)
                      · exact hD_
                      · exact hE_
                      · omega
set_option maxHeartbeats 2000000 in
set_option maxRecDepth 20000 in
theorem vc_459 {sc_ : Nat × (Nat → Int)} (net_ : Int) (de_ : Int) (S0_ : sm_S) (hI_ : gi S0_) (hgr_ : grd S0_) (hn_ : 0 ≤ net_ ∧ net_ ≤ 161) (hde_ : 0 ≤ de_ ∧ de_ ≤ 1) (hpw_ : pnw S0_) : sm_T (mt_P sc_) 3 459 (0, [some (.inr (.inr (some (13, 0)))), some (.inl net_), some (.inl de_), none, none, none, none], [], S0_) (fun ro9_ => ∃ u_ S1_, ro9_ = (.inl u_, S1_, 0) ∧ vq_459 net_ de_ S0_ u_ S1_) := by
  have hF_ : ai_fr (sx_W vw_459) S0_ S0_ := ai_fr_rf
  refine sm_T_go 4 (c1 := (5, [some (.inr (.inr (some (13, 0)))), some (.inl net_), some (.inl de_), some (.inl 0), some (.inl 0), none, none], [], S0_)) rfl ?_
  refine (vl_459 net_ de_ S0_ hgr_ hn_ hde_ hpw_ _).1 0 0 S0_ hI_ hF_ ⟨?_, trivial⟩ (Nat.lt_succ_self _)
  · omega
/-! M_.step -/
def vw_457 : sx_Wl := ([], [253, 254, 255], [])
def vq_457 (p_ : Int) (q_ : Int) (S0_ : sm_S) (u_ : Option sm_V) (S1_ : sm_S) : Prop := u_ = none ∧ gi S1_ ∧ ai_fr (sx_W vw_457) S0_ S1_ ∧ (True)
set_option maxHeartbeats 400000 in
set_option maxRecDepth 20000 in
theorem vc_457 {sc_ : Nat × (Nat → Int)} (p_ : Int) (q_ : Int) (S0_ : sm_S) (hI_ : gi S0_) (hp_ : 0 ≤ p_ ∧ p_ ≤ 4711) (hq_ : 0 ≤ q_ ∧ q_ ≤ 4711) : sm_T (mt_P sc_) 0 457 (0, [some (.inr (.inr (some (13, 0)))), some (.inl p_), some (.inl q_), none, none], [], S0_) (fun ro9_ => ∃ u_ S1_, ro9_ = (.inl u_, S1_, 0) ∧ vq_457 p_ q_ S0_ u_ S1_) := by
  have hF_ : ai_fr (sx_W vw_457) S0_ S0_ := ai_fr_rf
  have bx1_ : 0 ≤ S0_.1 13 0 177 ∧ S0_.1 13 0 177 ≤ 3 := hI_.1 13 0 177 rfl
  refine sm_T_go 3 (c1 := (7, [some (.inr (.inr (some (13, 0)))), some (.inl p_), some (.inl q_), none, none], [.inl (S0_.1 13 0 177), .inl 4712], S0_)) rfl ?_
  refine sm_T_bin (w := 4712 * (S0_.1 13 0 177)) rfl (bi_mul (by omega) (by omega) (by omega)) ?_ -- pc_ 7
  refine sm_T_go 2 (c1 := (10, [some (.inr (.inr (some (13, 0)))), some (.inl p_), some (.inl q_), none, none], [.inl q_, .inl p_, .inl (4712 * (S0_.1 13 0 177))], S0_)) rfl ?_
  refine sm_T_br (a := 3) (z := 7) rfl (fun cx2_ => ?_) (fun cx2_ => ?_)
  · have cx2_ : q_ ≤ p_ := of_decide_eq_true cx2_
    refine sm_T_go 1 (c1 := (18, [some (.inr (.inr (some (13, 0)))), some (.inl p_), some (.inl q_), none, none], [.inl q_, .inl (4712 * (S0_.1 13 0 177))], S0_)) rfl ?_
    refine sm_T_bin (w := 4712 * (S0_.1 13 0 177) + q_) rfl (bi_add (by omega) (by omega) (by omega)) ?_ -- pc_ 18
    refine sm_T_go 3 (c1 := (22, [some (.inr (.inr (some (13, 0)))), some (.inl p_), some (.inl q_), some (.inl (4712 * (S0_.1 13 0 177) + q_)), none], [.inl q_, .inl p_], S0_)) rfl ?_
    refine sm_T_br (a := 3) (z := 9) rfl (fun cx3_ => ?_) (fun cx3_ => ?_)
    · have cx3_ : q_ ≤ p_ := of_decide_eq_true cx3_
      refine sm_T_go 2 (c1 := (33, [some (.inr (.inr (some (13, 0)))), some (.inl p_), some (.inl q_), some (.inl (4712 * (S0_.1 13 0 177) + q_)), none], [.inl q_, .inl p_], S0_)) rfl ?_
      refine sm_T_bin (w := p_ - q_) rfl (bi_sub (by omega) (by omega) (by omega)) ?_ -- pc_ 33
      have bx4_ : 0 ≤ S0_.1 13 0 174 ∧ S0_.1 13 0 174 ≤ 62 := hI_.1 13 0 174 rfl
      have bx5_ : 0 ≤ S0_.1 13 0 175 ∧ S0_.1 13 0 175 ≤ 38 := hI_.1 13 0 175 rfl
      refine sm_T_go 6 (c1 := (46, [some (.inr (.inr (some (13, 0)))), some (.inl p_), some (.inl q_), some (.inl (4712 * (S0_.1 13 0 177) + q_)), some (.inl (p_ - q_))], [.inl (S0_.1 13 0 175), .inl (S0_.1 13 0 174), .inl (p_ - q_)], S0_)) rfl ?_
      have bx6_ := mul_b (x_ := (S0_.1 13 0 174)) (y_ := (S0_.1 13 0 175)) (X_ := 62) (Y_ := 38) (Z_ := 2356) (by omega) (by omega) (by decide)
      refine sm_T_bin (w := ((S0_.1 13 0 174) * (S0_.1 13 0 175))) rfl (bi_mul rfl (by omega) (by omega)) ?_ -- pc_ 46
      refine sm_T_br (a := 1) (z := 13) rfl (fun cx7_ => ?_) (fun cx7_ => ?_)
      · have cx7_ : p_ - q_ ≠ ((S0_.1 13 0 174) * (S0_.1 13 0 175)) := of_decide_eq_true cx7_
        refine sm_T_go 2 (c1 := (63, [some (.inr (.inr (some (13, 0)))), some (.inl p_), some (.inl q_), some (.inl (4712 * (S0_.1 13 0 177) + q_)), some (.inl (p_ - q_))], [.inl 1, .inl (p_ - q_)], S0_)) rfl ?_
        refine sm_T_br (a := 1) (z := 13) rfl (fun cx8_ => ?_) (fun cx8_ => ?_)
        · have cx8_ : p_ - q_ ≠ 1 := of_decide_eq_true cx8_
          refine sm_T_go 4 (c1 := (82, [some (.inr (.inr (some (13, 0)))), some (.inl p_), some (.inl q_), some (.inl (4712 * (S0_.1 13 0 177) + q_)), some (.inl (p_ - q_))], [.inl 1, .inl (4712 * (S0_.1 13 0 177) + q_), .inr (.inr (some (254, 0)))], S0_)) rfl ?_
          refine sm_T_zas1 (n := 18848) rfl rfl (by omega) (by omega) (by omega) ?_
          have hIx9_ : gi (sm_aI S0_ 254 0 (4712 * (S0_.1 13 0 177) + q_).toNat 1) := gi_aI hI_ (show 0 ≤ 1 ∧ 1 ≤ 1 from ⟨by omega, by omega⟩)
          have hFx10_ : ai_fr (sx_W vw_457) S0_ (sm_aI S0_ 254 0 (4712 * (S0_.1 13 0 177) + q_).toNat 1) := ai_fr_tr hF_ (ai_fr_aI rfl)
          refine sm_T_rv rfl ⟨_, _, rfl, rfl, hIx9_, hFx10_, ?_⟩
          trivial
        · have cx8_ : ¬ (p_ - q_ ≠ 1) := of_decide_eq_false cx8_
          refine sm_T_go 4 (c1 := (72, [some (.inr (.inr (some (13, 0)))), some (.inl p_), some (.inl q_), some (.inl (4712 * (S0_.1 13 0 177) + q_)), some (.inl (p_ - q_))], [.inl 1, .inl (4712 * (S0_.1 13 0 177) + q_), .inr (.inr (some (253, 0)))], S0_)) rfl ?_
          refine sm_T_zas1 (n := 18848) rfl rfl (by omega) (by omega) (by omega) ?_
          have hIx11_ : gi (sm_aI S0_ 253 0 (4712 * (S0_.1 13 0 177) + q_).toNat 1) := gi_aI hI_ (show 0 ≤ 1 ∧ 1 ≤ 1 from ⟨by omega, by omega⟩)
          have hFx12_ : ai_fr (sx_W vw_457) S0_ (sm_aI S0_ 253 0 (4712 * (S0_.1 13 0 177) + q_).toNat 1) := ai_fr_tr hF_ (ai_fr_aI rfl)
          refine sm_T_go 1 (c1 := (83, [some (.inr (.inr (some (13, 0)))), some (.inl p_), some (.inl q_), some (.inl (4712 * (S0_.1 13 0 177) + q_)), some (.inl (p_ - q_))], [], sm_aI S0_ 253 0 (4712 * (S0_.1 13 0 177) + q_).toNat 1)) rfl ?_
          refine sm_T_rv rfl ⟨_, _, rfl, rfl, hIx11_, hFx12_, ?_⟩
          trivial
      · have cx7_ : ¬ (p_ - q_ ≠ ((S0_.1 13 0 174) * (S0_.1 13 0 175))) := of_decide_eq_false cx7_
        refine sm_T_go 4 (c1 := (56, [some (.inr (.inr (some (13, 0)))), some (.inl p_), some (.inl q_), some (.inl (4712 * (S0_.1 13 0 177) + q_)), some (.inl (p_ - q_))], [.inl 1, .inl (4712 * (S0_.1 13 0 177) + q_), .inr (.inr (some (255, 0)))], S0_)) rfl ?_
        refine sm_T_zas1 (n := 18848) rfl rfl (by omega) (by omega) (by omega) ?_
        have hIx13_ : gi (sm_aI S0_ 255 0 (4712 * (S0_.1 13 0 177) + q_).toNat 1) := gi_aI hI_ (show 0 ≤ 1 ∧ 1 ≤ 1 from ⟨by omega, by omega⟩)
        have hFx14_ : ai_fr (sx_W vw_457) S0_ (sm_aI S0_ 255 0 (4712 * (S0_.1 13 0 177) + q_).toNat 1) := ai_fr_tr hF_ (ai_fr_aI rfl)
        refine sm_T_go 1 (c1 := (83, [some (.inr (.inr (some (13, 0)))), some (.inl p_), some (.inl q_), some (.inl (4712 * (S0_.1 13 0 177) + q_)), some (.inl (p_ - q_))], [], sm_aI S0_ 255 0 (4712 * (S0_.1 13 0 177) + q_).toNat 1)) rfl ?_
        refine sm_T_rv rfl ⟨_, _, rfl, rfl, hIx13_, hFx14_, ?_⟩
        trivial
    · have cx3_ : ¬ (q_ ≤ p_) := of_decide_eq_false cx3_
      exfalso; omega
  · have cx2_ : ¬ (q_ ≤ p_) := of_decide_eq_false cx2_
    refine sm_T_go 2 (c1 := (18, [some (.inr (.inr (some (13, 0)))), some (.inl p_), some (.inl q_), none, none], [.inl p_, .inl (4712 * (S0_.1 13 0 177))], S0_)) rfl ?_
    refine sm_T_bin (w := 4712 * (S0_.1 13 0 177) + p_) rfl (bi_add (by omega) (by omega) (by omega)) ?_ -- pc_ 18
    refine sm_T_go 3 (c1 := (22, [some (.inr (.inr (some (13, 0)))), some (.inl p_), some (.inl q_), some (.inl (4712 * (S0_.1 13 0 177) + p_)), none], [.inl q_, .inl p_], S0_)) rfl ?_
    refine sm_T_br (a := 3) (z := 9) rfl (fun cx15_ => ?_) (fun cx15_ => ?_)
    · have cx15_ : q_ ≤ p_ := of_decide_eq_true cx15_
      exfalso; omega
    · have cx15_ : ¬ (q_ ≤ p_) := of_decide_eq_false cx15_
      refine sm_T_go 2 (c1 := (27, [some (.inr (.inr (some (13, 0)))), some (.inl p_), some (.inl q_), some (.inl (4712 * (S0_.1 13 0 177) + p_)), none], [.inl p_, .inl q_], S0_)) rfl ?_
      refine sm_T_bin (w := q_ - p_) rfl (bi_sub (by omega) (by omega) (by omega)) ?_ -- pc_ 27
      have bx16_ : 0 ≤ S0_.1 13 0 174 ∧ S0_.1 13 0 174 ≤ 62 := hI_.1 13 0 174 rfl
      have bx17_ : 0 ≤ S0_.1 13 0 175 ∧ S0_.1 13 0 175 ≤ 38 := hI_.1 13 0 175 rfl
      refine sm_T_go 7 (c1 := (46, [some (.inr (.inr (some (13, 0)))), some (.inl p_), some (.inl q_), some (.inl (4712 * (S0_.1 13 0 177) + p_)), some (.inl (q_ - p_))], [.inl (S0_.1 13 0 175), .inl (S0_.1 13 0 174), .inl (q_ - p_)], S0_)) rfl ?_
      have bx18_ := mul_b (x_ := (S0_.1 13 0 174)) (y_ := (S0_.1 13 0 175)) (X_ := 62) (Y_ := 38) (Z_ := 2356) (by omega) (by omega) (by decide)
      refine sm_T_bin (w := ((S0_.1 13 0 174) * (S0_.1 13 0 175))) rfl (bi_mul rfl (by omega) (by omega)) ?_ -- pc_ 46
      refine sm_T_br (a := 1) (z := 13) rfl (fun cx19_ => ?_) (fun cx19_ => ?_)
      · have cx19_ : q_ - p_ ≠ ((S0_.1 13 0 174) * (S0_.1 13 0 175)) := of_decide_eq_true cx19_
        refine sm_T_go 2 (c1 := (63, [some (.inr (.inr (some (13, 0)))), some (.inl p_), some (.inl q_), some (.inl (4712 * (S0_.1 13 0 177) + p_)), some (.inl (q_ - p_))], [.inl 1, .inl (q_ - p_)], S0_)) rfl ?_
        refine sm_T_br (a := 1) (z := 13) rfl (fun cx20_ => ?_) (fun cx20_ => ?_)
        · have cx20_ : q_ - p_ ≠ 1 := of_decide_eq_true cx20_
          refine sm_T_go 4 (c1 := (82, [some (.inr (.inr (some (13, 0)))), some (.inl p_), some (.inl q_), some (.inl (4712 * (S0_.1 13 0 177) + p_)), some (.inl (q_ - p_))], [.inl 1, .inl (4712 * (S0_.1 13 0 177) + p_), .inr (.inr (some (254, 0)))], S0_)) rfl ?_
          refine sm_T_zas1 (n := 18848) rfl rfl (by omega) (by omega) (by omega) ?_
          have hIx21_ : gi (sm_aI S0_ 254 0 (4712 * (S0_.1 13 0 177) + p_).toNat 1) := gi_aI hI_ (show 0 ≤ 1 ∧ 1 ≤ 1 from ⟨by omega, by omega⟩)
          have hFx22_ : ai_fr (sx_W vw_457) S0_ (sm_aI S0_ 254 0 (4712 * (S0_.1 13 0 177) + p_).toNat 1) := ai_fr_tr hF_ (ai_fr_aI rfl)
          refine sm_T_rv rfl ⟨_, _, rfl, rfl, hIx21_, hFx22_, ?_⟩
          trivial
        · have cx20_ : ¬ (q_ - p_ ≠ 1) := of_decide_eq_false cx20_
          refine sm_T_go 4 (c1 := (72, [some (.inr (.inr (some (13, 0)))), some (.inl p_), some (.inl q_), some (.inl (4712 * (S0_.1 13 0 177) + p_)), some (.inl (q_ - p_))], [.inl 1, .inl (4712 * (S0_.1 13 0 177) + p_), .inr (.inr (some (253, 0)))], S0_)) rfl ?_
          refine sm_T_zas1 (n := 18848) rfl rfl (by omega) (by omega) (by omega) ?_
          have hIx23_ : gi (sm_aI S0_ 253 0 (4712 * (S0_.1 13 0 177) + p_).toNat 1) := gi_aI hI_ (show 0 ≤ 1 ∧ 1 ≤ 1 from ⟨by omega, by omega⟩)
          have hFx24_ : ai_fr (sx_W vw_457) S0_ (sm_aI S0_ 253 0 (4712 * (S0_.1 13 0 177) + p_).toNat 1) := ai_fr_tr hF_ (ai_fr_aI rfl)
          refine sm_T_go 1 (c1 := (83, [some (.inr (.inr (some (13, 0)))), some (.inl p_), some (.inl q_), some (.inl (4712 * (S0_.1 13 0 177) + p_)), some (.inl (q_ - p_))], [], sm_aI S0_ 253 0 (4712 * (S0_.1 13 0 177) + p_).toNat 1)) rfl ?_
          refine sm_T_rv rfl ⟨_, _, rfl, rfl, hIx23_, hFx24_, ?_⟩
          trivial
      · have cx19_ : ¬ (q_ - p_ ≠ ((S0_.1 13 0 174) * (S0_.1 13 0 175))) := of_decide_eq_false cx19_
        refine sm_T_go 4 (c1 := (56, [some (.inr (.inr (some (13, 0)))), some (.inl p_), some (.inl q_), some (.inl (4712 * (S0_.1 13 0 177) + p_)), some (.inl (q_ - p_))], [.inl 1, .inl (4712 * (S0_.1 13 0 177) + p_), .inr (.inr (some (255, 0)))], S0_)) rfl ?_
        refine sm_T_zas1 (n := 18848) rfl rfl (by omega) (by omega) (by omega) ?_
        have hIx25_ : gi (sm_aI S0_ 255 0 (4712 * (S0_.1 13 0 177) + p_).toNat 1) := gi_aI hI_ (show 0 ≤ 1 ∧ 1 ≤ 1 from ⟨by omega, by omega⟩)
        have hFx26_ : ai_fr (sx_W vw_457) S0_ (sm_aI S0_ 255 0 (4712 * (S0_.1 13 0 177) + p_).toNat 1) := ai_fr_tr hF_ (ai_fr_aI rfl)
        refine sm_T_go 1 (c1 := (83, [some (.inr (.inr (some (13, 0)))), some (.inl p_), some (.inl q_), some (.inl (4712 * (S0_.1 13 0 177) + p_)), some (.inl (q_ - p_))], [], sm_aI S0_ 255 0 (4712 * (S0_.1 13 0 177) + p_).toNat 1)) rfl ?_
        refine sm_T_rv rfl ⟨_, _, rfl, rfl, hIx25_, hFx26_, ?_⟩
        trivial
/-! M_.rob -/
def vw_458 : sx_Wl := ([], [252, 253, 254, 255, 256], [])
def vq_458 (net_ : Int) (S0_ : sm_S) (u_ : Option sm_V) (S1_ : sm_S) : Prop := u_ = none ∧ gi S1_ ∧ ai_fr (sx_W vw_458) S0_ S1_ ∧ (∀ x9_ : Int, 0 ≤ x9_ → x9_ < S0_.1 13 0 176 → nta S1_ x9_ = if nta S0_ x9_ = net_ then -1 else nta S0_ x9_)
set_option maxHeartbeats 1000000 in
set_option maxRecDepth 20000 in
theorem vl_458 {sc_ : Nat × (Nat → Int)} (net_ : Int) (S0_ : sm_S) (hn_ : 0 ≤ net_ ∧ net_ ≤ 161) : ∀ nn_ : Nat, (∀ (o_ : Int) (p_ : Int) (S_ : sm_S), gi S_ → ai_fr (sx_W vw_458) S0_ S_ → ((0 ≤ p_ ∧ p_ ≤ 4712 ∧ o_ = 4712 * S0_.1 13 0 177) ∧ (∀ x9_ : Int, 0 ≤ x9_ → x9_ < 4712 → nta S_ x9_ = if x9_ < p_ ∧ nta S0_ x9_ = net_ then -1 else nta S0_ x9_) ∧ True) → ((9000 - p_).toNat) < nn_ → sm_T (mt_P sc_) 1 458 (11, [some (.inr (.inr (some (13, 0)))), some (.inl net_), some (.inl o_), some (.inl p_)], [], S_) (fun ro9_ => ∃ u_ S1_, ro9_ = (.inl u_, S1_, 0) ∧ vq_458 net_ S0_ u_ S1_)) := by
  intro nn_
  induction nn_ with
  | zero => exact fun _ _ _ _ _ _ h_ => absurd h_ (Nat.not_lt_zero _)
  | succ nn_ ih_ =>
    rintro o_ p_ S_ hI_ hF_ ⟨h0_, hr_, -⟩ hm_
    have f177_ : S_.1 13 0 177 = S0_.1 13 0 177 := hF_.1 13 0 177 rfl
    have f176_ : S_.1 13 0 176 = S0_.1 13 0 176 := hF_.1 13 0 176 rfl
    have b177_ : 0 ≤ S_.1 13 0 177 ∧ S_.1 13 0 177 ≤ 3 := hI_.1 13 0 177 rfl
    have b176_ : 0 ≤ S_.1 13 0 176 ∧ S_.1 13 0 176 ≤ 4712 := hI_.1 13 0 176 rfl
    have bx1_ : 0 ≤ S_.1 13 0 176 ∧ S_.1 13 0 176 ≤ 4712 := hI_.1 13 0 176 rfl
    refine sm_T_go 3 (c1 := (16, [some (.inr (.inr (some (13, 0)))), some (.inl net_), some (.inl o_), some (.inl p_)], [.inl (S_.1 13 0 176), .inl p_], S_)) rfl ?_
    refine sm_T_br (a := 3) (z := 54) rfl (fun cx2_ => ?_) (fun cx2_ => ?_)
    · have cx2_ : (S_.1 13 0 176) ≤ p_ := of_decide_eq_true cx2_
      have bx3_ : 0 ≤ S_.1 13 0 177 ∧ S_.1 13 0 177 ≤ 3 := hI_.1 13 0 177 rfl
      refine sm_T_go 5 (c1 := (81, [some (.inr (.inr (some (13, 0)))), some (.inl net_), some (.inl o_), some (.inl p_)], [.inl (S_.1 13 0 177), .inl 256, .inr (.inr (some (256, 0)))], S_)) rfl ?_
      refine sm_T_bin (w := 256 * (S_.1 13 0 177)) rfl (bi_mul (by omega) (by omega) (by omega)) ?_ -- pc_ 81
      refine sm_T_go 1 (c1 := (83, [some (.inr (.inr (some (13, 0)))), some (.inl net_), some (.inl o_), some (.inl p_)], [.inl net_, .inl (256 * (S_.1 13 0 177)), .inr (.inr (some (256, 0)))], S_)) rfl ?_
      refine sm_T_bin (w := 256 * (S_.1 13 0 177) + net_) rfl (bi_add (by omega) (by omega) (by omega)) ?_ -- pc_ 83
      refine sm_T_go 1 (c1 := (85, [some (.inr (.inr (some (13, 0)))), some (.inl net_), some (.inl o_), some (.inl p_)], [.inl 1, .inl (256 * (S_.1 13 0 177) + net_), .inr (.inr (some (256, 0)))], S_)) rfl ?_
      refine sm_T_zas1 (n := 1024) rfl rfl (by omega) (by omega) (by omega) ?_
      have hIx4_ : gi (sm_aI S_ 256 0 (256 * (S_.1 13 0 177) + net_).toNat 1) := gi_aI hI_ (show 0 ≤ 1 ∧ 1 ≤ 1 from ⟨by omega, by omega⟩)
      have hFx5_ : ai_fr (sx_W vw_458) S0_ (sm_aI S_ 256 0 (256 * (S_.1 13 0 177) + net_).toNat 1) := ai_fr_tr hF_ (ai_fr_aI rfl)
      refine sm_T_rv rfl ⟨_, _, rfl, rfl, hIx4_, hFx5_, ?_⟩
      intro x9_ u0_ u1_
      have w9_ := hr_ x9_ u0_ (by omega)
      have e9_ : nta ((sm_aI S_ 256 0 (256 * (S_.1 13 0 177) + net_).toNat 1)) x9_ = nta S_ x9_ := by (unfold nta; (try simp only [rd_eq, rd_ne, rf_eq, rf_nk, rf_nt, rd_fa, rd_af, rd_fl, rd_al, rd_lf, rd_la, rd_leq, rd_lne, rd_fr, rd_ar, ne_eq, Nat.reduceEqDiff, not_false_eq_true]))
      rw [e9_, w9_]
      by_cases z9_ : nta S0_ x9_ = net_
      · rw [if_pos ⟨by omega, z9_⟩, if_pos z9_]
      · rw [if_neg (fun q9_ => z9_ q9_.2), if_neg z9_]
    · have cx2_ : ¬ ((S_.1 13 0 176) ≤ p_) := of_decide_eq_false cx2_
      refine sm_T_go 2 (c1 := (21, [some (.inr (.inr (some (13, 0)))), some (.inl net_), some (.inl o_), some (.inl p_)], [.inl p_, .inr (.inr (some (13, 0)))], S_)) rfl ?_
      refine sm_T_cal (d1 := 0) (Q1 := vq_454 p_ S_) rfl rfl (by decide) (vc_454 p_ S_ hI_ (by omega)) (fun u_ Sx6_ px9_ => ?_)
      obtain ⟨rfl, vx11_, rfl, px9_⟩ := px9_
      have e21_ := px9_
      refine sm_T_go 1 (c1 := (25, [some (.inr (.inr (some (13, 0)))), some (.inl net_), some (.inl o_), some (.inl p_)], [.inl net_, .inl vx11_], S_)) rfl ?_
      refine sm_T_br (a := 1) (z := 39) rfl (fun cx12_ => ?_) (fun cx12_ => ?_)
      · have cx12_ : vx11_ ≠ net_ := of_decide_eq_true cx12_
        refine sm_T_inc (a := 3) (z := 1) (v := p_) (w := p_ + 1) rfl rfl (by omega) (by omega) (by omega) ?_ -- pc_ 64
        refine sm_T_go 1 (c1 := (11, [some (.inr (.inr (some (13, 0)))), some (.inl net_), some (.inl o_), some (.inl (p_ + 1))], [], S_)) rfl ?_
        refine ih_ o_ (p_ + 1) S_ hI_ hF_ ⟨?_, ?_, trivial⟩ ?_
        · omega
        · intro x9_ u0_ u1_
          have r9_ := hr_ p_ h0_.1 (by omega)
          rw [if_neg (by omega)] at r9_
          rw [hr_ x9_ u0_ u1_]
          by_cases z9_ : x9_ = p_
          · rw [z9_, if_neg (by omega), if_neg (by omega)]
          · by_cases y9_ : x9_ < p_ ∧ nta S0_ x9_ = net_
            · rw [if_pos y9_, if_pos ⟨by omega, y9_.2⟩]
            · rw [if_neg y9_, if_neg (fun w9_ => y9_ ⟨by omega, w9_.2⟩)]
        · omega
      · have cx12_ : ¬ (vx11_ ≠ net_) := of_decide_eq_false cx12_
        refine sm_T_go 4 (c1 := (34, [some (.inr (.inr (some (13, 0)))), some (.inl net_), some (.inl o_), some (.inl p_)], [.inl p_, .inl o_, .inr (.inr (some (252, 0)))], S_)) rfl ?_
        refine sm_T_bin (w := o_ + p_) rfl (bi_add (by omega) (by omega) (by omega)) ?_ -- pc_ 34
        refine sm_T_go 1 (c1 := (36, [some (.inr (.inr (some (13, 0)))), some (.inl net_), some (.inl o_), some (.inl p_)], [.inl (-1), .inl (o_ + p_), .inr (.inr (some (252, 0)))], S_)) rfl ?_
        refine sm_T_iast (n := 18848) rfl rfl (by omega) (by omega) ?_
        have hIx13_ : gi (sm_aI S_ 252 0 (o_ + p_).toNat (-1)) := gi_aI hI_ (show (-1) ≤ (-1) ∧ (-1) ≤ 161 from ⟨by omega, by omega⟩)
        have hFx14_ : ai_fr (sx_W vw_458) S0_ (sm_aI S_ 252 0 (o_ + p_).toNat (-1)) := ai_fr_tr hF_ (ai_fr_aI rfl)
        refine sm_T_go 4 (c1 := (43, [some (.inr (.inr (some (13, 0)))), some (.inl net_), some (.inl o_), some (.inl p_)], [.inl p_, .inl o_, .inr (.inr (some (253, 0)))], sm_aI S_ 252 0 (o_ + p_).toNat (-1))) rfl ?_
        refine sm_T_bin (w := o_ + p_) rfl (bi_add (by omega) (by omega) (by omega)) ?_ -- pc_ 43
        refine sm_T_go 1 (c1 := (45, [some (.inr (.inr (some (13, 0)))), some (.inl net_), some (.inl o_), some (.inl p_)], [.inl 0, .inl (o_ + p_), .inr (.inr (some (253, 0)))], sm_aI S_ 252 0 (o_ + p_).toNat (-1))) rfl ?_
        refine sm_T_zas1 (n := 18848) rfl rfl (by omega) (by omega) (by omega) ?_
        have hIx15_ : gi (sm_aI (sm_aI S_ 252 0 (o_ + p_).toNat (-1)) 253 0 (o_ + p_).toNat 0) := gi_aI hIx13_ (show 0 ≤ 0 ∧ 0 ≤ 1 from ⟨by omega, by omega⟩)
        have hFx16_ : ai_fr (sx_W vw_458) S0_ (sm_aI (sm_aI S_ 252 0 (o_ + p_).toNat (-1)) 253 0 (o_ + p_).toNat 0) := ai_fr_tr hFx14_ (ai_fr_aI rfl)
        refine sm_T_go 4 (c1 := (52, [some (.inr (.inr (some (13, 0)))), some (.inl net_), some (.inl o_), some (.inl p_)], [.inl p_, .inl o_, .inr (.inr (some (254, 0)))], sm_aI (sm_aI S_ 252 0 (o_ + p_).toNat (-1)) 253 0 (o_ + p_).toNat 0)) rfl ?_
        refine sm_T_bin (w := o_ + p_) rfl (bi_add (by omega) (by omega) (by omega)) ?_ -- pc_ 52
        refine sm_T_go 1 (c1 := (54, [some (.inr (.inr (some (13, 0)))), some (.inl net_), some (.inl o_), some (.inl p_)], [.inl 0, .inl (o_ + p_), .inr (.inr (some (254, 0)))], sm_aI (sm_aI S_ 252 0 (o_ + p_).toNat (-1)) 253 0 (o_ + p_).toNat 0)) rfl ?_
        refine sm_T_zas1 (n := 18848) rfl rfl (by omega) (by omega) (by omega) ?_
        have hIx17_ : gi (sm_aI (sm_aI (sm_aI S_ 252 0 (o_ + p_).toNat (-1)) 253 0 (o_ + p_).toNat 0) 254 0 (o_ + p_).toNat 0) := gi_aI hIx15_ (show 0 ≤ 0 ∧ 0 ≤ 1 from ⟨by omega, by omega⟩)
        have hFx18_ : ai_fr (sx_W vw_458) S0_ (sm_aI (sm_aI (sm_aI S_ 252 0 (o_ + p_).toNat (-1)) 253 0 (o_ + p_).toNat 0) 254 0 (o_ + p_).toNat 0) := ai_fr_tr hFx16_ (ai_fr_aI rfl)
        refine sm_T_go 4 (c1 := (61, [some (.inr (.inr (some (13, 0)))), some (.inl net_), some (.inl o_), some (.inl p_)], [.inl p_, .inl o_, .inr (.inr (some (255, 0)))], sm_aI (sm_aI (sm_aI S_ 252 0 (o_ + p_).toNat (-1)) 253 0 (o_ + p_).toNat 0) 254 0 (o_ + p_).toNat 0)) rfl ?_
        refine sm_T_bin (w := o_ + p_) rfl (bi_add (by omega) (by omega) (by omega)) ?_ -- pc_ 61
        refine sm_T_go 1 (c1 := (63, [some (.inr (.inr (some (13, 0)))), some (.inl net_), some (.inl o_), some (.inl p_)], [.inl 0, .inl (o_ + p_), .inr (.inr (some (255, 0)))], sm_aI (sm_aI (sm_aI S_ 252 0 (o_ + p_).toNat (-1)) 253 0 (o_ + p_).toNat 0) 254 0 (o_ + p_).toNat 0)) rfl ?_
        refine sm_T_zas1 (n := 18848) rfl rfl (by omega) (by omega) (by omega) ?_
        have hIx19_ : gi (sm_aI (sm_aI (sm_aI (sm_aI S_ 252 0 (o_ + p_).toNat (-1)) 253 0 (o_ + p_).toNat 0) 254 0 (o_ + p_).toNat 0) 255 0 (o_ + p_).toNat 0) := gi_aI hIx17_ (show 0 ≤ 0 ∧ 0 ≤ 1 from ⟨by omega, by omega⟩)
        have hFx20_ : ai_fr (sx_W vw_458) S0_ (sm_aI (sm_aI (sm_aI (sm_aI S_ 252 0 (o_ + p_).toNat (-1)) 253 0 (o_ + p_).toNat 0) 254 0 (o_ + p_).toNat 0) 255 0 (o_ + p_).toNat 0) := ai_fr_tr hFx18_ (ai_fr_aI rfl)
        refine sm_T_inc (a := 3) (z := 1) (v := p_) (w := p_ + 1) rfl rfl (by omega) (by omega) (by omega) ?_ -- pc_ 64
        refine sm_T_go 1 (c1 := (11, [some (.inr (.inr (some (13, 0)))), some (.inl net_), some (.inl o_), some (.inl (p_ + 1))], [], sm_aI (sm_aI (sm_aI (sm_aI S_ 252 0 (o_ + p_).toNat (-1)) 253 0 (o_ + p_).toNat 0) 254 0 (o_ + p_).toNat 0) 255 0 (o_ + p_).toNat 0)) rfl ?_
        refine ih_ o_ (p_ + 1) (sm_aI (sm_aI (sm_aI (sm_aI S_ 252 0 (o_ + p_).toNat (-1)) 253 0 (o_ + p_).toNat 0) 254 0 (o_ + p_).toNat 0) 255 0 (o_ + p_).toNat 0) hIx19_ hFx20_ ⟨?_, ?_, trivial⟩ ?_
        · omega
        · have n9_ : ∀ x9_ : Int, 0 ≤ x9_ → x9_ < 4712 → nta ((sm_aI (sm_aI (sm_aI (sm_aI S_ 252 0 (o_ + p_).toNat (-1)) 253 0 (o_ + p_).toNat 0) 254 0 (o_ + p_).toNat 0) 255 0 (o_ + p_).toNat 0)) x9_ = if x9_ = p_ then -1 else nta S_ x9_ := fun x9_ u0_ u1_ => by (unfold nta; (try simp only [rd_eq, rd_ne, rf_eq, rf_nk, rf_nt, rd_fa, rd_af, rd_fl, rd_al, rd_lf, rd_la, rd_leq, rd_lne, rd_fr, rd_ar, ne_eq, Nat.reduceEqDiff, not_false_eq_true]); have c9_ : 0 ≤ S_.1 13 0 177 := (hI_.1 13 0 177 rfl).1; by_cases z9_ : x9_ = p_; (rw [if_pos (by omega), if_pos z9_]); (rw [if_neg (by omega), if_neg z9_]))
          intro x9_ u0_ u1_
          have r9_ := hr_ p_ h0_.1 (by omega)
          rw [if_neg (by omega)] at r9_
          rw [n9_ x9_ u0_ u1_]
          by_cases z9_ : x9_ = p_
          · rw [if_pos z9_, z9_, if_pos ⟨by omega, by omega⟩]
          · rw [if_neg z9_, hr_ x9_ u0_ u1_]
            by_cases y9_ : x9_ < p_ ∧ nta S0_ x9_ = net_
            · rw [if_pos y9_, if_pos ⟨by omega, y9_.2⟩]
            · rw [if_neg y9_, if_neg (fun w9_ => y9_ ⟨by omega, w9_.2⟩)]
        · omega
set_option maxHeartbeats 1000000 in
set_option maxRecDepth 20000 in
theorem vc_458 {sc_ : Nat × (Nat → Int)} (net_ : Int) (S0_ : sm_S) (hI_ : gi S0_) (hn_ : 0 ≤ net_ ∧ net_ ≤ 161) : sm_T (mt_P sc_) 1 458 (0, [some (.inr (.inr (some (13, 0)))), some (.inl net_), none, none], [], S0_) (fun ro9_ => ∃ u_ S1_, ro9_ = (.inl u_, S1_, 0) ∧ vq_458 net_ S0_ u_ S1_) := by
  have hF_ : ai_fr (sx_W vw_458) S0_ S0_ := ai_fr_rf
  have bx1_ : 0 ≤ S0_.1 13 0 177 ∧ S0_.1 13 0 177 ≤ 3 := hI_.1 13 0 177 rfl
  refine sm_T_go 3 (c1 := (7, [some (.inr (.inr (some (13, 0)))), some (.inl net_), none, none], [.inl (S0_.1 13 0 177), .inl 4712], S0_)) rfl ?_
  refine sm_T_bin (w := 4712 * (S0_.1 13 0 177)) rfl (bi_mul (by omega) (by omega) (by omega)) ?_ -- pc_ 7
  refine sm_T_go 3 (c1 := (11, [some (.inr (.inr (some (13, 0)))), some (.inl net_), some (.inl (4712 * (S0_.1 13 0 177))), some (.inl 0)], [], S0_)) rfl ?_
  refine (vl_458 net_ S0_ hn_ _) (4712 * (S0_.1 13 0 177)) 0 S0_ hI_ hF_ ⟨?_, ?_, trivial⟩ (Nat.lt_succ_self _)
  · omega
  · (intro x9_ u0_ u1_; rw [if_neg (by omega)])
/-! M_.wayBack -/
def vw_460 : sx_Wl := ([], [261], [])
def vq_460 (pin_ : Int) (net_ : Int) (de_ : Int) (S0_ : sm_S) (u_ : Option sm_V) (S1_ : sm_S) : Prop := ∃ v_ : Int, u_ = some (.inl v_) ∧ gi S1_ ∧ ai_fr (sx_W vw_460) S0_ S1_ ∧ (1 ≤ v_ ∧ v_ < S0_.1 13 0 176 ∧ S1_.2.2.1 261 0 0 = pin_ ∧ ∀ j9_ : Int, 0 ≤ j9_ → j9_ ≤ v_ → 0 ≤ S1_.2.2.1 261 0 j9_.toNat ∧ S1_.2.2.1 261 0 j9_.toNat < S0_.1 13 0 176)
set_option maxHeartbeats 3000000 in
set_option maxRecDepth 20000 in
theorem vl_460 {sc_ : Nat × (Nat → Int)} (pin_ : Int) (net_ : Int) (de_ : Int) (S0_ : sm_S) (hgr_ : grd S0_) (hp_ : 0 ≤ pin_ ∧ pin_ < S0_.1 13 0 176 ∧ S0_.2.2.1 258 0 pin_.toNat < 1000000000 ∧ 0 < S0_.2.2.1 258 0 pin_.toNat) (hE_ : mD2 (S0_.1 13 0 174) (S0_.1 13 0 175) (prS S0_ net_ de_) (S0_.2.2.1 258 0)) : ∀ nn_ : Nat, (∀ (n_ : Int) (p_ : Int) (S_ : sm_S), gi S_ → ai_fr (sx_W vw_460) S0_ S_ → ((0 ≤ p_ ∧ p_ < S0_.1 13 0 176 ∧ 0 ≤ n_ ∧ S0_.2.2.1 258 0 p_.toNat < 1000000000) ∧ (∀ j9_ : Int, 0 ≤ j9_ → j9_ < n_ → 0 ≤ S_.2.2.1 261 0 j9_.toNat ∧ S_.2.2.1 261 0 j9_.toNat < S0_.1 13 0 176) ∧ ((n_ = 0 ∧ p_ = pin_) ∨ (0 < n_ ∧ S_.2.2.1 261 0 0 = pin_)) ∧ (n_ ≤ (cn1 (fro (S0_.2.2.1 258 0) (S0_.2.2.1 258 0 p_.toNat)) (S0_.1 13 0 176).toNat : Int)) ∧ True) → ((10 * S0_.2.2.1 258 0 p_.toNat).toNat) < nn_ → sm_T (mt_P sc_) 2 460 (6, [some (.inr (.inr (some (13, 0)))), some (.inl pin_), some (.inl net_), some (.inl de_), some (.inl n_), some (.inl p_), none, none, none, none], [], S_) (fun ro9_ => ∃ u_ S1_, ro9_ = (.inl u_, S1_, 0) ∧ vq_460 pin_ net_ de_ S0_ u_ S1_)) ∧ (∀ (n_ : Int) (p_ : Int) (bf_ : Int) (to_ : Int) (k_ : Int) (S_ : sm_S), gi S_ → ai_fr (sx_W vw_460) S0_ S_ → ((0 ≤ p_ ∧ p_ < S0_.1 13 0 176 ∧ 1 ≤ n_ ∧ S0_.2.2.1 258 0 p_.toNat < 1000000000 ∧ 0 < S0_.2.2.1 258 0 p_.toNat) ∧ (∀ j9_ : Int, 0 ≤ j9_ → j9_ < n_ → 0 ≤ S_.2.2.1 261 0 j9_.toNat ∧ S_.2.2.1 261 0 j9_.toNat < S0_.1 13 0 176) ∧ (S_.2.2.1 261 0 0 = pin_) ∧ (n_ ≤ (cn1 (fro (S0_.2.2.1 258 0) (S0_.2.2.1 258 0 p_.toNat)) (S0_.1 13 0 176).toNat : Int) + 1) ∧ (bf_ = S0_.2.2.1 258 0 p_.toNat - prS S0_ net_ de_ p_ ∧ 0 < prS S0_ net_ de_ p_ ∧ -1 ≤ k_ ∧ k_ ≤ 4) ∧ ((0 ≤ to_ ∧ to_ < S0_.1 13 0 176 ∧ S0_.2.2.1 258 0 to_.toNat = bf_) ∨ (to_ = -1 ∧ wbx (S0_.1 13 0 174) (S0_.1 13 0 175) (S0_.2.2.1 258 0) p_ bf_ k_)) ∧ True) → ((10 * S0_.2.2.1 258 0 p_.toNat - 5 + k_).toNat) < nn_ → sm_T (mt_P sc_) 2 460 (52, [some (.inr (.inr (some (13, 0)))), some (.inl pin_), some (.inl net_), some (.inl de_), some (.inl n_), some (.inl p_), some (.inl bf_), some (.inl to_), some (.inl k_), none], [], S_) (fun ro9_ => ∃ u_ S1_, ro9_ = (.inl u_, S1_, 0) ∧ vq_460 pin_ net_ de_ S0_ u_ S1_)) := by
  intro nn_
  induction nn_ with
  | zero => exact ⟨fun _ _ _ _ _ _ h_ => absurd h_ (Nat.not_lt_zero _), fun _ _ _ _ _ _ _ _ _ h_ => absurd h_ (Nat.not_lt_zero _)⟩
  | succ nn_ ih_ =>
    refine ⟨?_, ?_⟩
    · rintro n_ p_ S_ hI_ hF_ ⟨h0_, hw_, hf_, hc_, -⟩ hm_
      have x258_ : S_.2.2.1 258 0 p_.toNat = S0_.2.2.1 258 0 p_.toNat := congrFun (fr_arr hF_ rfl) _
      have g174_ : S_.1 13 0 174 = S0_.1 13 0 174 := hF_.1 13 0 174 rfl
      have g175_ : S_.1 13 0 175 = S0_.1 13 0 175 := hF_.1 13 0 175 rfl
      have g176_ : S_.1 13 0 176 = S0_.1 13 0 176 := hF_.1 13 0 176 rfl
      have f258_ : S_.2.2.1 258 0 = S0_.2.2.1 258 0 := fr_arr hF_ rfl
      have ps9_ : prS S_ net_ de_ = prS S0_ net_ de_ := prS_fr hF_
      have gr9_ := grd_fr hgr_ hF_
      have gm9_ := grd_m hgr_
      have g5_ := hgr_.2.2.2.2
      have g1_ := hgr_.1
      have g3_ := hgr_.2.2.1
      have lt9_ := fro_lt (d_ := (S0_.2.2.1 258 0)) (p_ := p_.toNat) (n_ := (S0_.1 13 0 176).toNat) (by omega)
      refine sm_T_go 3 (c1 := (12, [some (.inr (.inr (some (13, 0)))), some (.inl pin_), some (.inl net_), some (.inl de_), some (.inl n_), some (.inl p_), none, none, none, none], [.inl p_, .inr (.inr (some (258, 0)))], S_)) rfl ?_
      refine sm_T_iald (n := 4712) rfl rfl (by omega) (by omega) ?_
      have bx1_ : 0 ≤ S_.2.2.1 258 0 p_.toNat ∧ S_.2.2.1 258 0 p_.toNat ≤ 1000000000 := hI_.2 258 0 _
      refine sm_T_b0 (a := 5) (z := 94) rfl (fun cx2_ => ?_) (fun cx2_ => ?_)
      · have cx2_ : (S_.2.2.1 258 0 p_.toNat) ≤ 0 := of_decide_eq_true cx2_
        refine sm_T_go 4 (c1 := (115, [some (.inr (.inr (some (13, 0)))), some (.inl pin_), some (.inl net_), some (.inl de_), some (.inl n_), some (.inl p_), none, none, none, none], [.inl p_, .inl n_, .inr (.inr (some (261, 0)))], S_)) rfl ?_
        refine sm_T_iast (n := 4712) rfl rfl (by omega) (by omega) ?_
        have hIx3_ : gi (sm_aI S_ 261 0 n_.toNat p_) := gi_aI hI_ (show 0 ≤ p_ ∧ p_ ≤ 4711 from ⟨by omega, by omega⟩)
        have hFx4_ : ai_fr (sx_W vw_460) S0_ (sm_aI S_ 261 0 n_.toNat p_) := ai_fr_tr hF_ (ai_fr_aI rfl)
        refine sm_T_go 1 (c1 := (118, [some (.inr (.inr (some (13, 0)))), some (.inl pin_), some (.inl net_), some (.inl de_), some (.inl n_), some (.inl p_), none, none, none, none], [.inl n_], sm_aI S_ 261 0 n_.toNat p_)) rfl ?_
        refine sm_T_ri rfl ⟨_, _, rfl, _, rfl, hIx3_, hFx4_, ?_⟩
        have n1_ : 1 ≤ n_ ∧ S_.2.2.1 261 0 0 = pin_ := by (rcases hf_ with ⟨w1_, rfl⟩ | w9_; (exfalso; omega); exact ⟨by omega, w9_.2⟩)
        refine ⟨by omega, by omega, ?_, fun j9_ u0_ u1_ => ?_⟩
        · rw [rd_eq, if_neg (by omega)]; exact n1_.2
        · rw [rd_eq]; split; omega; exact hw_ j9_ u0_ (by omega)
      · have cx2_ : ¬ ((S_.2.2.1 258 0 p_.toNat) ≤ 0) := of_decide_eq_false cx2_
        have E9_ := hE_ p_ h0_.1 (by omega) (by rw [← f258_]; omega) h0_.2.2.2
        refine sm_T_go 4 (c1 := (24, [some (.inr (.inr (some (13, 0)))), some (.inl pin_), some (.inl net_), some (.inl de_), some (.inl n_), some (.inl p_), none, none, none, none], [.inl p_, .inl n_, .inr (.inr (some (261, 0)))], S_)) rfl ?_
        refine sm_T_iast (n := 4712) rfl rfl (by omega) (by omega) ?_
        have hIx5_ : gi (sm_aI S_ 261 0 n_.toNat p_) := gi_aI hI_ (show 0 ≤ p_ ∧ p_ ≤ 4711 from ⟨by omega, by omega⟩)
        have hFx6_ : ai_fr (sx_W vw_460) S0_ (sm_aI S_ 261 0 n_.toNat p_) := ai_fr_tr hF_ (ai_fr_aI rfl)
        refine sm_T_inc (a := 4) (z := 1) (v := n_) (w := n_ + 1) rfl rfl (by omega) (by omega) (by omega) ?_ -- pc_ 25
        refine sm_T_go 3 (c1 := (34, [some (.inr (.inr (some (13, 0)))), some (.inl pin_), some (.inl net_), some (.inl de_), some (.inl (n_ + 1)), some (.inl p_), none, none, none, none], [.inl p_, .inr (.inr (some (258, 0)))], sm_aI S_ 261 0 n_.toNat p_)) rfl ?_
        refine sm_T_iald (n := 4712) rfl rfl (by omega) (by omega) ?_
        refine sm_T_go 4 (c1 := (40, [some (.inr (.inr (some (13, 0)))), some (.inl pin_), some (.inl net_), some (.inl de_), some (.inl (n_ + 1)), some (.inl p_), none, none, none, none], [.inl de_, .inl net_, .inl p_, .inr (.inr (some (13, 0))), .inl (S_.2.2.1 258 0 p_.toNat)], sm_aI S_ 261 0 n_.toNat p_)) rfl ?_
        refine sm_T_cal (d1 := 1) (Q1 := vq_455 p_ net_ de_ (sm_aI S_ 261 0 n_.toNat p_)) rfl rfl (by decide) (vc_455 p_ net_ de_ (sm_aI S_ 261 0 n_.toNat p_) hIx5_ (by omega)) (fun u_ Sx7_ px10_ => ?_)
        obtain ⟨rfl, vx12_, rfl, px10_⟩ := px10_
        have e40_ := px10_
        have e41_ : vx12_ = prS S0_ net_ de_ p_ := e40_.1.trans (congrFun (by (rw [← ps9_]; exact prS_fr (w_ := ([], [261], [])) (ai_fr_aI rfl))) p_)
        refine sm_T_bin (w := (S_.2.2.1 258 0 p_.toNat) - vx12_) rfl (bi_sub (by omega) (by omega) (by omega)) ?_ -- pc_ 43
        refine sm_T_go 5 (c1 := (52, [some (.inr (.inr (some (13, 0)))), some (.inl pin_), some (.inl net_), some (.inl de_), some (.inl (n_ + 1)), some (.inl p_), some (.inl ((S_.2.2.1 258 0 p_.toNat) - vx12_)), some (.inl (-1)), some (.inl 4), none], [], sm_aI S_ 261 0 n_.toNat p_)) rfl ?_
        refine ih_.2 (n_ + 1) p_ ((S_.2.2.1 258 0 p_.toNat) - vx12_) (-1) 4 (sm_aI S_ 261 0 n_.toNat p_) hIx5_ hFx6_ ⟨?_, ?_, ?_, ?_, ?_, ?_, trivial⟩ ?_
        · omega
        · intro j9_ u0_ u1_
          rw [rd_eq]
          split
          · omega
          · exact hw_ j9_ u0_ (by omega)
        · rw [rd_eq]
          rcases hf_ with w9_ | w9_
          · rw [if_pos (by omega)]; exact w9_.2
          · rw [if_neg (by omega)]; exact w9_.2
        · omega
        · (have y8_ := E9_.1; omega)
        · right
          refine ⟨rfl, ?_⟩
          obtain ⟨k9_, a9_, b9_, c9_⟩ := E9_.2
          exact ⟨k9_, ⟨a9_.1, a9_.2, a9_.2⟩, b9_, by (rw [c9_]; omega)⟩
        · omega
    · rintro n_ p_ bf_ to_ k_ S_ hI_ hF_ ⟨h0_, hw_, hf_, hc_, hb_, ht_, -⟩ hm_
      have x258_ : S_.2.2.1 258 0 p_.toNat = S0_.2.2.1 258 0 p_.toNat := congrFun (fr_arr hF_ rfl) _
      have g174_ : S_.1 13 0 174 = S0_.1 13 0 174 := hF_.1 13 0 174 rfl
      have g175_ : S_.1 13 0 175 = S0_.1 13 0 175 := hF_.1 13 0 175 rfl
      have g176_ : S_.1 13 0 176 = S0_.1 13 0 176 := hF_.1 13 0 176 rfl
      have f258_ : S_.2.2.1 258 0 = S0_.2.2.1 258 0 := fr_arr hF_ rfl
      have ps9_ : prS S_ net_ de_ = prS S0_ net_ de_ := prS_fr hF_
      have gr9_ := grd_fr hgr_ hF_
      have gm9_ := grd_m hgr_
      have g5_ := hgr_.2.2.2.2
      have g1_ := hgr_.1
      have g3_ := hgr_.2.2.1
      have lt9_ := fro_lt (d_ := (S0_.2.2.1 258 0)) (p_ := p_.toNat) (n_ := (S0_.1 13 0 176).toNat) (by omega)
      have nb9_ := nxt_b (W_ := S0_.1 13 0 174) (H_ := S0_.1 13 0 175) (p_ := p_) k_ (by omega) (by omega) (by omega) (by omega)
      refine sm_T_go 1 (c1 := (54, [some (.inr (.inr (some (13, 0)))), some (.inl pin_), some (.inl net_), some (.inl de_), some (.inl n_), some (.inl p_), some (.inl bf_), some (.inl to_), some (.inl k_), none], [.inl k_], S_)) rfl ?_
      refine sm_T_b0 (a := 2) (z := 46) rfl (fun cx1_ => ?_) (fun cx1_ => ?_)
      · have cx1_ : k_ < 0 := of_decide_eq_true cx1_
        refine sm_T_go 3 (c1 := (6, [some (.inr (.inr (some (13, 0)))), some (.inl pin_), some (.inl net_), some (.inl de_), some (.inl n_), some (.inl to_), some (.inl bf_), some (.inl to_), some (.inl k_), none], [], S_)) rfl ?_
        refine sm_T_wk [some (.inr (.inr (some (13, 0)))), some (.inl pin_), some (.inl net_), some (.inl de_), some (.inl n_), some (.inl to_), none, none, none, none] (by exact ⟨rfl, rfl, rfl, rfl, rfl, rfl, trivial⟩) ?_
        refine ih_.1 n_ to_ S_ hI_ hF_ ⟨?_, ?_, ?_, ?_, trivial⟩ ?_
        · (rcases ht_ with w9_ | w9_; omega; (obtain ⟨j9_, a9_, b9_, c9_⟩ := w9_.2; omega))
        · exact hw_
        · exact Or.inr ⟨by omega, hf_⟩
        · rcases ht_ with w9_ | w9_
          · have u9_ := fro_up (d_ := (S0_.2.2.1 258 0)) (p_ := p_.toNat) (n_ := (S0_.1 13 0 176).toNat) (by omega) rfl (show S0_.2.2.1 258 0 to_.toNat < S0_.2.2.1 258 0 p_.toNat by omega)
            omega
          · obtain ⟨j9_, a9_, b9_, c9_⟩ := w9_.2
            omega
        · (rcases ht_ with w9_ | w9_; omega; (obtain ⟨j9_, a9_, b9_, c9_⟩ := w9_.2; omega))
      · have cx1_ : ¬ (k_ < 0) := of_decide_eq_false cx1_
        refine sm_T_go 3 (c1 := (62, [some (.inr (.inr (some (13, 0)))), some (.inl pin_), some (.inl net_), some (.inl de_), some (.inl n_), some (.inl p_), some (.inl bf_), some (.inl to_), some (.inl k_), none], [.inl k_, .inl p_, .inr (.inr (some (13, 0)))], S_)) rfl ?_
        refine sm_T_cal (d1 := 0) (Q1 := vq_453 p_ k_ S_) rfl rfl (by decide) (vc_453 p_ k_ S_ hI_ (by exact gr9_) (by omega) (by omega)) (fun u_ Sx2_ px5_ => ?_)
        obtain ⟨rfl, vx7_, rfl, px5_⟩ := px5_
        have e62_ := px5_
        have x62_ : S_.2.2.1 258 0 vx7_.toNat = S0_.2.2.1 258 0 vx7_.toNat := congrFun f258_ _
        rw [g174_, g175_] at e62_
        refine sm_T_go 3 (c1 := (70, [some (.inr (.inr (some (13, 0)))), some (.inl pin_), some (.inl net_), some (.inl de_), some (.inl n_), some (.inl p_), some (.inl bf_), some (.inl to_), some (.inl k_), some (.inl vx7_)], [.inl (-1), .inl vx7_], S_)) rfl ?_
        refine sm_T_br (a := 0) (z := 20) rfl (fun cx8_ => ?_) (fun cx8_ => ?_)
        · have cx8_ : vx7_ = (-1) := of_decide_eq_true cx8_
          refine sm_T_go 2 (c1 := (94, [some (.inr (.inr (some (13, 0)))), some (.inl pin_), some (.inl net_), some (.inl de_), some (.inl n_), some (.inl p_), some (.inl bf_), some (.inl to_), some (.inl k_), some (.inl vx7_)], [], S_)) rfl ?_
          refine sm_T_inc (a := 8) (z := (-1)) (v := k_) (w := k_ - 1) rfl rfl (by omega) (by omega) (by omega) ?_ -- pc_ 94
          refine sm_T_go 1 (c1 := (52, [some (.inr (.inr (some (13, 0)))), some (.inl pin_), some (.inl net_), some (.inl de_), some (.inl n_), some (.inl p_), some (.inl bf_), some (.inl to_), some (.inl (k_ - 1)), some (.inl vx7_)], [], S_)) rfl ?_
          refine sm_T_wk [some (.inr (.inr (some (13, 0)))), some (.inl pin_), some (.inl net_), some (.inl de_), some (.inl n_), some (.inl p_), some (.inl bf_), some (.inl to_), some (.inl (k_ - 1)), none] (by exact ⟨rfl, rfl, rfl, rfl, rfl, rfl, rfl, rfl, rfl, trivial⟩) ?_
          refine ih_.2 n_ p_ bf_ to_ (k_ - 1) S_ hI_ hF_ ⟨?_, ?_, ?_, ?_, ?_, ?_, trivial⟩ ?_
          · omega
          · exact hw_
          · exact hf_
          · exact hc_
          · omega
          · rcases ht_ with w9_ | w9_
            · first | exact Or.inl w9_ | (left; omega)
            · first | (left; omega) | (right; refine ⟨w9_.1, ?_⟩; obtain ⟨j9_, a9_, b9_, c9_⟩ := w9_.2; by_cases z9_ : j9_ = k_; (exfalso; rw [z9_, ← e62_] at b9_ c9_; omega); exact ⟨j9_, ⟨a9_.1, by omega, a9_.2.2⟩, b9_, c9_⟩)
          · omega
        · have cx8_ : ¬ (vx7_ = (-1)) := of_decide_eq_false cx8_
          refine sm_T_go 3 (c1 := (79, [some (.inr (.inr (some (13, 0)))), some (.inl pin_), some (.inl net_), some (.inl de_), some (.inl n_), some (.inl p_), some (.inl bf_), some (.inl to_), some (.inl k_), some (.inl vx7_)], [.inl vx7_, .inr (.inr (some (258, 0)))], S_)) rfl ?_
          refine sm_T_iald (n := 4712) rfl rfl (by omega) (by omega) ?_
          have bx9_ : 0 ≤ S_.2.2.1 258 0 vx7_.toNat ∧ S_.2.2.1 258 0 vx7_.toNat ≤ 1000000000 := hI_.2 258 0 _
          refine sm_T_go 1 (c1 := (82, [some (.inr (.inr (some (13, 0)))), some (.inl pin_), some (.inl net_), some (.inl de_), some (.inl n_), some (.inl p_), some (.inl bf_), some (.inl to_), some (.inl k_), some (.inl vx7_)], [.inl bf_, .inl (S_.2.2.1 258 0 vx7_.toNat)], S_)) rfl ?_
          refine sm_T_br (a := 1) (z := 8) rfl (fun cx10_ => ?_) (fun cx10_ => ?_)
          · have cx10_ : (S_.2.2.1 258 0 vx7_.toNat) ≠ bf_ := of_decide_eq_true cx10_
            refine sm_T_go 2 (c1 := (94, [some (.inr (.inr (some (13, 0)))), some (.inl pin_), some (.inl net_), some (.inl de_), some (.inl n_), some (.inl p_), some (.inl bf_), some (.inl to_), some (.inl k_), some (.inl vx7_)], [], S_)) rfl ?_
            refine sm_T_inc (a := 8) (z := (-1)) (v := k_) (w := k_ - 1) rfl rfl (by omega) (by omega) (by omega) ?_ -- pc_ 94
            refine sm_T_go 1 (c1 := (52, [some (.inr (.inr (some (13, 0)))), some (.inl pin_), some (.inl net_), some (.inl de_), some (.inl n_), some (.inl p_), some (.inl bf_), some (.inl to_), some (.inl (k_ - 1)), some (.inl vx7_)], [], S_)) rfl ?_
            refine sm_T_wk [some (.inr (.inr (some (13, 0)))), some (.inl pin_), some (.inl net_), some (.inl de_), some (.inl n_), some (.inl p_), some (.inl bf_), some (.inl to_), some (.inl (k_ - 1)), none] (by exact ⟨rfl, rfl, rfl, rfl, rfl, rfl, rfl, rfl, rfl, trivial⟩) ?_
            refine ih_.2 n_ p_ bf_ to_ (k_ - 1) S_ hI_ hF_ ⟨?_, ?_, ?_, ?_, ?_, ?_, trivial⟩ ?_
            · omega
            · exact hw_
            · exact hf_
            · exact hc_
            · omega
            · rcases ht_ with w9_ | w9_
              · first | exact Or.inl w9_ | (left; omega)
              · first | (left; omega) | (right; refine ⟨w9_.1, ?_⟩; obtain ⟨j9_, a9_, b9_, c9_⟩ := w9_.2; by_cases z9_ : j9_ = k_; (exfalso; rw [z9_, ← e62_] at b9_ c9_; omega); exact ⟨j9_, ⟨a9_.1, by omega, a9_.2.2⟩, b9_, c9_⟩)
            · omega
          · have cx10_ : ¬ ((S_.2.2.1 258 0 vx7_.toNat) ≠ bf_) := of_decide_eq_false cx10_
            refine sm_T_go 3 (c1 := (94, [some (.inr (.inr (some (13, 0)))), some (.inl pin_), some (.inl net_), some (.inl de_), some (.inl n_), some (.inl p_), some (.inl bf_), some (.inl vx7_), some (.inl k_), some (.inl vx7_)], [], S_)) rfl ?_
            refine sm_T_inc (a := 8) (z := (-1)) (v := k_) (w := k_ - 1) rfl rfl (by omega) (by omega) (by omega) ?_ -- pc_ 94
            refine sm_T_go 1 (c1 := (52, [some (.inr (.inr (some (13, 0)))), some (.inl pin_), some (.inl net_), some (.inl de_), some (.inl n_), some (.inl p_), some (.inl bf_), some (.inl vx7_), some (.inl (k_ - 1)), some (.inl vx7_)], [], S_)) rfl ?_
            refine sm_T_wk [some (.inr (.inr (some (13, 0)))), some (.inl pin_), some (.inl net_), some (.inl de_), some (.inl n_), some (.inl p_), some (.inl bf_), some (.inl vx7_), some (.inl (k_ - 1)), none] (by exact ⟨rfl, rfl, rfl, rfl, rfl, rfl, rfl, rfl, rfl, trivial⟩) ?_
            refine ih_.2 n_ p_ bf_ vx7_ (k_ - 1) S_ hI_ hF_ ⟨?_, ?_, ?_, ?_, ?_, ?_, trivial⟩ ?_
            · omega
            · exact hw_
            · exact hf_
            · exact hc_
            · omega
            · rcases ht_ with w9_ | w9_
              · first | exact Or.inl w9_ | (left; omega)
              · first | (left; omega) | (right; refine ⟨w9_.1, ?_⟩; obtain ⟨j9_, a9_, b9_, c9_⟩ := w9_.2; by_cases z9_ : j9_ = k_; (exfalso; rw [z9_, ← e62_] at b9_ c9_; omega); exact ⟨j9_, ⟨a9_.1, by omega, a9_.2.2⟩, b9_, c9_⟩)
            · omega
set_option maxHeartbeats 3000000 in
set_option maxRecDepth 20000 in
theorem vc_460 {sc_ : Nat × (Nat → Int)} (pin_ : Int) (net_ : Int) (de_ : Int) (S0_ : sm_S) (hI_ : gi S0_) (hgr_ : grd S0_) (hp_ : 0 ≤ pin_ ∧ pin_ < S0_.1 13 0 176 ∧ S0_.2.2.1 258 0 pin_.toNat < 1000000000 ∧ 0 < S0_.2.2.1 258 0 pin_.toNat) (hE_ : mD2 (S0_.1 13 0 174) (S0_.1 13 0 175) (prS S0_ net_ de_) (S0_.2.2.1 258 0)) : sm_T (mt_P sc_) 2 460 (0, [some (.inr (.inr (some (13, 0)))), some (.inl pin_), some (.inl net_), some (.inl de_), none, none, none, none, none, none], [], S0_) (fun ro9_ => ∃ u_ S1_, ro9_ = (.inl u_, S1_, 0) ∧ vq_460 pin_ net_ de_ S0_ u_ S1_) := by
  have hF_ : ai_fr (sx_W vw_460) S0_ S0_ := ai_fr_rf
  refine sm_T_go 4 (c1 := (6, [some (.inr (.inr (some (13, 0)))), some (.inl pin_), some (.inl net_), some (.inl de_), some (.inl 0), some (.inl pin_), none, none, none, none], [], S0_)) rfl ?_
  refine (vl_460 pin_ net_ de_ S0_ hgr_ hp_ hE_ _).1 0 pin_ S0_ hI_ hF_ ⟨?_, ?_, ?_, ?_, trivial⟩ (Nat.lt_succ_self _)
  · omega
  · (intro j9_ u0_ u1_; exfalso; omega)
  · exact Or.inl ⟨rfl, rfl⟩
  · omega
