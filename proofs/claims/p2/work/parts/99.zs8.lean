/-! the reference: gates made; written by wip/p55/gen/vg -/

/-! the_ reference: gates made -/
def isn (f_ : Nat → Int) (k_ : Nat) : Int := if f_ k_ = -1 then 1 else 0
theorem isn_1 {f_ : Nat → Int} {k_ : Nat} : isn f_ k_ = 1 ↔ f_ k_ = -1 := by
  unfold isn
  split
  · rename_i h_
    exact ⟨fun _ => h_, fun _ => rfl⟩
  · rename_i h_
    exact ⟨fun z_ => absurd z_ (by decide), fun z_ => absurd z_ h_⟩
/-- how_ much is_ still to_ be_ made -/
def inc (N_ : Int) (S_ : sm_S) : Nat := cn1 (isn (S_.2.2.1 218 0)) (2 * N_).toNat + cn1 (isn (S_.2.2.1 219 0)) N_.toNat
/-- gates take nets from below -/
def mad (F_ : Int) (S_ : sm_S) : Prop := ∀ g_ : Int, 0 ≤ g_ → g_ < S_.1 13 0 129 → (0 ≤ S_.2.2.1 216 0 g_.toNat ∨ S_.1 13 0 134 = 1) ∧ ∀ k_ : Int, 0 ≤ k_ → k_ < 3 → (-1 ≤ S_.2.2.1 217 0 (3 * g_ + k_).toNat ∧ S_.2.2.1 217 0 (3 * g_ + k_).toNat < F_ - 1 + g_) ∧ ((k_ = 0 ∨ (0 ≤ S_.2.2.1 216 0 g_.toNat ∧ k_ < S_.2.2.1 185 0 (12 * S_.1 13 0 106 + S_.2.2.1 216 0 g_.toNat).toNat)) → 0 ≤ S_.2.2.1 217 0 (3 * g_ + k_).toNat)
def nok (F_ g_ v_ : Int) : Prop := v_ = -1 ∨ (0 ≤ v_ ∧ v_ < F_ - 1 + g_)
def gst (F_ N_ : Int) (S_ : sm_S) : Prop := (0 ≤ S_.1 13 0 129 ∧ S_.1 13 0 129 + (inc N_ S_ : Int) ≤ 3 * N_) ∧ (∀ w_ : Int, 2 * F_ ≤ w_ → w_ < 2 * N_ → nok F_ (S_.1 13 0 129) (S_.2.2.1 218 0 w_.toNat)) ∧ (∀ n_ : Int, 1 ≤ n_ → n_ < N_ → nok F_ (S_.1 13 0 129) (S_.2.2.1 219 0 n_.toNat)) ∧ mad F_ S_
def lnf (F_ : Int) (S_ : sm_S) (x_ : Int) : Int := if x_ < F_ then x_ - 1 else S_.2.2.1 218 0 (2 * x_).toNat
def noi (F_ : Int) (S_ : sm_S) (x_ t_ : Int) : Int := if F_ ≤ x_ ∧ S_.2.2.1 203 0 x_.toNat = 0 then S_.2.2.1 218 0 (2 * x_ + t_).toNat else if t_ = 0 then lnf F_ S_ x_ else S_.2.2.1 219 0 x_.toNat
theorem lnf_b {F_ N_ x_ : Int} {S_ : sm_S} (h_ : gst F_ N_ S_) (hx_ : 1 ≤ x_ ∧ x_ < N_) : nok F_ (S_.1 13 0 129) (lnf F_ S_ x_) := by
  unfold lnf
  have a_ := h_.1.1
  split
  · right
    omega
  · exact h_.2.1 (2 * x_) (by omega) (by omega)
theorem noi_b {F_ N_ x_ t_ : Int} {S_ : sm_S} (h_ : gst F_ N_ S_) (hx_ : 1 ≤ x_ ∧ x_ < N_) (ht_ : 0 ≤ t_ ∧ t_ ≤ 1) : nok F_ (S_.1 13 0 129) (noi F_ S_ x_ t_) := by
  unfold noi
  split
  · exact h_.2.1 (2 * x_ + t_) (by omega) (by omega)
  · split
    · exact lnf_b h_ hx_
    · exact h_.2.2.1 x_ hx_.1 hx_.2
/-- a_ task more -/
def jap (s_ w_ : Int) (S_ S'_ : sm_S) : Prop := S'_.1 13 0 137 = S_.1 13 0 137 + 1 ∧ (∀ j_, S'_.2.2.1 220 0 j_ = if j_ = (S_.1 13 0 137).toNat then w_ else S_.2.2.1 220 0 j_) ∧ ∀ j_, S'_.2.2.1 221 0 j_ = if j_ = (S_.1 13 0 137).toNat then s_ else S_.2.2.1 221 0 j_
def jgd (F_ N_ : Int) (S_ : sm_S) (s_ w_ : Int) : Prop := (s_ = 1 ∧ 1 ≤ w_ ∧ w_ < N_ ∧ S_.2.2.1 202 0 w_.toNat = 1 ∧ (w_ < F_ ∨ (S_.2.2.1 203 0 w_.toNat = 1 ∧ S_.2.2.1 210 0 (2 * w_).toNat < 1000000000))) ∨ (s_ = 0 ∧ 2 * F_ ≤ w_ ∧ w_ < 2 * N_ ∧ S_.2.2.1 202 0 (w_ / 2).toNat = 1 ∧ S_.2.2.1 210 0 w_.toNat < 1000000000)
def jrk (S_ : sm_S) (s_ w_ : Int) : Int := if s_ = 1 then 3 * w_ + 2 else 3 * (w_ / 2) + S_.2.2.1 211 0 w_.toNat
def jdn (S_ : sm_S) (s_ w_ : Int) : Prop := (s_ = 1 ∧ S_.2.2.1 219 0 w_.toNat ≠ -1) ∨ (s_ ≠ 1 ∧ S_.2.2.1 218 0 w_.toNat ≠ -1)
def jsk (F_ N_ : Int) (S_ : sm_S) : Prop := ∀ i_ : Int, 0 ≤ i_ → i_ < S_.1 13 0 137 → jgd F_ N_ S_ (S_.2.2.1 221 0 i_.toNat) (S_.2.2.1 220 0 i_.toNat) ∧ jrk S_ (S_.2.2.1 221 0 i_.toNat) (S_.2.2.1 220 0 i_.toNat) + i_ ≤ 3042
noncomputable def tpv_ (S_ : sm_S) : Int := if S_.1 13 0 137 = 0 then 0 else if (S_.2.2.1 221 0 (S_.1 13 0 137 - 1).toNat = 1 ∧ S_.2.2.1 219 0 (S_.2.2.1 220 0 (S_.1 13 0 137 - 1).toNat).toNat ≠ -1) ∨ (S_.2.2.1 221 0 (S_.1 13 0 137 - 1).toNat ≠ 1 ∧ S_.2.2.1 218 0 (S_.2.2.1 220 0 (S_.1 13 0 137 - 1).toNat).toNat ≠ -1) then 4000 + S_.1 13 0 137 else jrk S_ (S_.2.2.1 221 0 (S_.1 13 0 137 - 1).toNat) (S_.2.2.1 220 0 (S_.1 13 0 137 - 1).toNat)
noncomputable def mea_ (N_ : Int) (S_ : sm_S) : Nat := 20000 * inc N_ S_ + (tpv_ S_).toNat
theorem jrk_b {F_ N_ s_ w_ : Int} {S_ : sm_S} (hI_ : gi S_) (h_ : jgd F_ N_ S_ s_ w_) (hF_ : 1 ≤ F_) : 0 ≤ jrk S_ s_ w_ := by
  unfold jrk
  have c_ : 0 ≤ S_.2.2.1 211 0 w_.toNat := (hI_.2 211 0 _).1
  rcases h_ with h_ | h_
  · rw [if_pos h_.1]; omega
  · rw [if_neg (by omega)]; omega
theorem jsk_c {F_ N_ : Int} {S_ : sm_S} (hI_ : gi S_) (h_ : jsk F_ N_ S_) (hF_ : 1 ≤ F_) : S_.1 13 0 137 ≤ 3043 := by
  by_cases z_ : S_.1 13 0 137 ≤ 3043
  · exact z_
  · have q_ := h_ 3043 (by omega) (by omega)
    have r_ := jrk_b hI_ q_.1 hF_
    omega
theorem tpv_b {F_ N_ : Int} {S_ : sm_S} (hI_ : gi S_) (h_ : jsk F_ N_ S_) (hF_ : 1 ≤ F_) (hc_ : 0 ≤ S_.1 13 0 137) : 0 ≤ tpv_ S_ ∧ tpv_ S_ ≤ 7043 := by
  have c_ := jsk_c hI_ h_ hF_
  unfold tpv_
  split
  · omega
  · split
    · omega
    · have q_ := h_ (S_.1 13 0 137 - 1) (by omega) (by omega)
      have r_ := jrk_b hI_ q_.1 hF_
      omega
/-- the_ same rows for_ tasks: only the_ rows of_ gates change -/
theorem jgd_cg {F_ N_ s_ w_ : Int} {S_ S'_ : sm_S} (h_ : jgd F_ N_ S_ s_ w_) (e2_ : S'_.2.2.1 202 0 = S_.2.2.1 202 0) (e3_ : S'_.2.2.1 203 0 = S_.2.2.1 203 0) (e10 : S'_.2.2.1 210 0 = S_.2.2.1 210 0) : jgd F_ N_ S'_ s_ w_ := by
  unfold jgd
  rw [e2_, e3_, e10]
  exact h_
theorem jrk_cg {s_ w_ : Int} {S_ S'_ : sm_S} (e11 : S'_.2.2.1 211 0 = S_.2.2.1 211 0) : jrk S'_ s_ w_ = jrk S_ s_ w_ := by
  unfold jrk
  rw [e11]
theorem jsk_cg {F_ N_ : Int} {S_ S'_ : sm_S} (h_ : jsk F_ N_ S_) (ej_ : S'_.1 13 0 137 = S_.1 13 0 137) (e20_ : S'_.2.2.1 220 0 = S_.2.2.1 220 0) (e21_ : S'_.2.2.1 221 0 = S_.2.2.1 221 0) (e2_ : S'_.2.2.1 202 0 = S_.2.2.1 202 0) (e3_ : S'_.2.2.1 203 0 = S_.2.2.1 203 0) (e10 : S'_.2.2.1 210 0 = S_.2.2.1 210 0) (e11 : S'_.2.2.1 211 0 = S_.2.2.1 211 0) : jsk F_ N_ S'_ := fun i_ a_ b_ => by
  rw [ej_] at b_
  rw [e20_, e21_, jrk_cg e11]
  exact ⟨jgd_cg (h_ i_ a_ b_).1 e2_ e3_ e10, (h_ i_ a_ b_).2⟩
theorem jsk_ap {F_ N_ s_ w_ : Int} {S_ S'_ : sm_S} (h_ : jsk F_ N_ S_) (a_ : jap s_ w_ S_ S'_) (hc_ : 0 ≤ S_.1 13 0 137) (g_ : jgd F_ N_ S_ s_ w_) (r_ : jrk S_ s_ w_ + S_.1 13 0 137 ≤ 3042) (e2_ : S'_.2.2.1 202 0 = S_.2.2.1 202 0) (e3_ : S'_.2.2.1 203 0 = S_.2.2.1 203 0) (e10 : S'_.2.2.1 210 0 = S_.2.2.1 210 0) (e11 : S'_.2.2.1 211 0 = S_.2.2.1 211 0) : jsk F_ N_ S'_ := fun i_ i0_ i1_ => by
  rw [a_.1] at i1_
  rw [a_.2.1, a_.2.2, jrk_cg e11]
  by_cases z_ : i_.toNat = (S_.1 13 0 137).toNat
  · rw [if_pos z_, if_pos z_]
    exact ⟨jgd_cg g_ e2_ e3_ e10, by omega⟩
  · rw [if_neg z_, if_neg z_]
    exact ⟨jgd_cg (h_ i_ i0_ (by omega)).1 e2_ e3_ e10, (h_ i_ i0_ (by omega)).2⟩
theorem inc_cg {N_ : Int} {S_ S'_ : sm_S} (e1_ : S'_.2.2.1 218 0 = S_.2.2.1 218 0) (e2_ : S'_.2.2.1 219 0 = S_.2.2.1 219 0) : inc N_ S'_ = inc N_ S_ := by
  unfold inc
  rw [e1_, e2_]
theorem inc_g {N_ w_ v_ : Int} {S_ S'_ : sm_S} (hw_ : 0 ≤ w_ ∧ w_ < 2 * N_) (h0_ : S_.2.2.1 218 0 w_.toNat = -1) (hv_ : v_ ≠ -1) (e1_ : ∀ j_, S'_.2.2.1 218 0 j_ = if j_ = w_.toNat then v_ else S_.2.2.1 218 0 j_) (e2_ : S'_.2.2.1 219 0 = S_.2.2.1 219 0) : inc N_ S'_ + 1 = inc N_ S_ := by
  have u_ := cn1_up (f := isn (S'_.2.2.1 218 0)) (g := isn (S_.2.2.1 218 0)) (j := w_.toNat) (fun z_ => by have := isn_1.mp z_; rw [e1_, if_pos rfl] at this; exact hv_ this) (isn_1.mpr h0_) (fun k_ hk_ => by unfold isn; rw [e1_, if_neg hk_]) (n := (2 * N_).toNat) (by omega)
  unfold inc
  rw [e2_]
  omega
theorem inc_t {N_ w_ v_ : Int} {S_ S'_ : sm_S} (hw_ : 0 ≤ w_ ∧ w_ < N_) (h0_ : S_.2.2.1 219 0 w_.toNat = -1) (hv_ : v_ ≠ -1) (e1_ : ∀ j_, S'_.2.2.1 219 0 j_ = if j_ = w_.toNat then v_ else S_.2.2.1 219 0 j_) (e2_ : S'_.2.2.1 218 0 = S_.2.2.1 218 0) : inc N_ S'_ + 1 = inc N_ S_ := by
  have u_ := cn1_up (f := isn (S'_.2.2.1 219 0)) (g := isn (S_.2.2.1 219 0)) (j := w_.toNat) (fun z_ => by have := isn_1.mp z_; rw [e1_, if_pos rfl] at this; exact hv_ this) (isn_1.mpr h0_) (fun k_ hk_ => by unfold isn; rw [e1_, if_neg hk_]) (n := N_.toNat) (by omega)
  unfold inc
  rw [e2_]
  omega
theorem nok_up {F_ g_ g'_ v_ : Int} (h_ : nok F_ g_ v_) (hg_ : g_ ≤ g'_) : nok F_ g'_ v_ := by
  rcases h_ with h_ | h_
  · exact Or.inl h_
  · exact Or.inr ⟨h_.1, by omega⟩
/-- a_ gate is_ made: fewer things are_ left -/
theorem gst_g {F_ N_ w_ v_ : Int} {S_ S1_ S'_ : sm_S} (h_ : gst F_ N_ S_) (hw_ : 2 * F_ ≤ w_ ∧ w_ < 2 * N_) (hF_ : 0 ≤ F_) (h0_ : S_.2.2.1 218 0 w_.toNat = -1) (hv_ : v_ = F_ - 1 + S_.1 13 0 129 ∧ 0 ≤ v_) (eg_ : S'_.1 13 0 129 = S_.1 13 0 129 + 1) (e1_ : ∀ j_, S'_.2.2.1 218 0 j_ = if j_ = w_.toNat then v_ else S_.2.2.1 218 0 j_) (e2_ : S'_.2.2.1 219 0 = S_.2.2.1 219 0) (m_ : mad F_ S'_) : gst F_ N_ S'_ ∧ inc N_ S'_ + 1 = inc N_ S_ := by
  have u_ := inc_g (N_ := N_) ⟨by omega, hw_.2⟩ h0_ (by omega) e1_ e2_
  refine ⟨⟨by have := h_.1; omega, fun x_ x0_ x1_ => ?_, fun x_ x0_ x1_ => ?_, m_⟩, u_⟩
  · rw [e1_, eg_]
    split
    · right
      omega
    · exact nok_up (h_.2.1 x_ x0_ x1_) (by omega)
  · rw [e2_, eg_]
    exact nok_up (h_.2.2.1 x_ x0_ x1_) (by omega)
theorem gst_t {F_ N_ w_ v_ : Int} {S_ S1_ S'_ : sm_S} (h_ : gst F_ N_ S_) (hw_ : 1 ≤ w_ ∧ w_ < N_) (h0_ : S_.2.2.1 219 0 w_.toNat = -1) (hv_ : v_ = F_ - 1 + S_.1 13 0 129 ∧ 0 ≤ v_) (eg_ : S'_.1 13 0 129 = S_.1 13 0 129 + 1) (e1_ : ∀ j_, S'_.2.2.1 219 0 j_ = if j_ = w_.toNat then v_ else S_.2.2.1 219 0 j_) (e2_ : S'_.2.2.1 218 0 = S_.2.2.1 218 0) (m_ : mad F_ S'_) : gst F_ N_ S'_ ∧ inc N_ S'_ + 1 = inc N_ S_ := by
  have u_ := inc_t (N_ := N_) ⟨by omega, hw_.2⟩ h0_ (by omega) e1_ e2_
  refine ⟨⟨by have := h_.1; omega, fun x_ x0_ x1_ => ?_, fun x_ x0_ x1_ => ?_, m_⟩, u_⟩
  · rw [e2_, eg_]
    exact nok_up (h_.2.1 x_ x0_ x1_) (by omega)
  · rw [e1_, eg_]
    split
    · right
      omega
    · exact nok_up (h_.2.2.1 x_ x0_ x1_) (by omega)
theorem gst_cg {F_ N_ : Int} {S_ S'_ : sm_S} (h_ : gst F_ N_ S_) (e_ : S'_.1 13 0 129 = S_.1 13 0 129) (e1_ : S'_.2.2.1 218 0 = S_.2.2.1 218 0) (e2_ : S'_.2.2.1 219 0 = S_.2.2.1 219 0) (e6_ : S'_.2.2.1 216 0 = S_.2.2.1 216 0) (e7_ : S'_.2.2.1 217 0 = S_.2.2.1 217 0) (e5_ : S'_.2.2.1 185 0 = S_.2.2.1 185 0) (e106_ : S'_.1 13 0 106 = S_.1 13 0 106) (e134_ : S'_.1 13 0 134 = S_.1 13 0 134) : gst F_ N_ S'_ := by
  unfold gst mad
  rw [inc_cg e1_ e2_, e_, e1_, e2_, e6_, e7_, e5_, e106_, e134_]
  exact h_
theorem mea_c {F_ N_ : Int} {S_ S'_ : sm_S} (hI_ : gi S'_) (h_ : jsk F_ N_ S'_) (hF_ : 1 ≤ F_) (hc_ : 0 ≤ S'_.1 13 0 137) (u_ : inc N_ S'_ + 1 = inc N_ S_) : mea_ N_ S'_ < mea_ N_ S_ := by
  have q_ := tpv_b hI_ h_ hF_ hc_
  unfold mea_
  omega
/-! M_.sources -/
def vw_409 : sx_Wl := ([], [], [])
def vq_409 (F_ : Int) (N_ : Int) (d_ : Int) (S0_ : sm_S) (u_ : Option sm_V) (S1_ : sm_S) : Prop := S0_ = S1_ ∧ ∃ v_ : Int, u_ = some (.inl v_) ∧ (v_ = F_ - 1)
set_option maxHeartbeats 400000 in
set_option maxRecDepth 20000 in
theorem vc_409 {sc_ : Nat × (Nat → Int)} (F_ : Int) (N_ : Int) (d_ : Int) (S0_ : sm_S) (hI_ : gi S0_) (hd_ : dmp F_ N_ d_ S0_) : sm_T (mt_P sc_) 0 409 (0, [some (.inr (.inr (some (13, 0))))], [], S0_) (fun ro9_ => ∃ u_ S1_, ro9_ = (.inl u_, S1_, 0) ∧ vq_409 F_ N_ d_ S0_ u_ S1_) := by
  have hF_ : ai_fr (sx_W vw_409) S0_ S0_ := ai_fr_rf
  have d1_ := hd_.1
  have q9_ : S0_.2.2.1 154 0 d_.toNat + S0_.2.2.1 155 0 d_.toNat = F_ - 1 := by (obtain ⟨F1_, I9_, R9_, N1_, k1_, -⟩ := hd_.2; omega)
  have e1_ : S0_.2.2.1 154 0 (S0_.1 13 0 105).toNat = S0_.2.2.1 154 0 d_.toNat := by rw [d1_.2.2.1]
  have e2_ : S0_.2.2.1 155 0 (S0_.1 13 0 105).toNat = S0_.2.2.1 155 0 d_.toNat := by rw [d1_.2.2.1]
  have bx1_ : 0 ≤ S0_.1 13 0 105 ∧ S0_.1 13 0 105 ≤ 5 := hI_.1 13 0 105 rfl
  refine sm_T_go 4 (c1 := (8, [some (.inr (.inr (some (13, 0))))], [.inl (S0_.1 13 0 105), .inr (.inr (some (154, 0)))], S0_)) rfl ?_
  refine sm_T_iald (n := 6) rfl rfl (by omega) (by omega) ?_
  have bx2_ : 0 ≤ S0_.2.2.1 154 0 (S0_.1 13 0 105).toNat ∧ S0_.2.2.1 154 0 (S0_.1 13 0 105).toNat ≤ 12 := hI_.2 154 0 _
  refine sm_T_go 4 (c1 := (17, [some (.inr (.inr (some (13, 0))))], [.inl (S0_.1 13 0 105), .inr (.inr (some (155, 0))), .inl (S0_.2.2.1 154 0 (S0_.1 13 0 105).toNat)], S0_)) rfl ?_
  refine sm_T_iald (n := 6) rfl rfl (by omega) (by omega) ?_
  have bx3_ : 0 ≤ S0_.2.2.1 155 0 (S0_.1 13 0 105).toNat ∧ S0_.2.2.1 155 0 (S0_.1 13 0 105).toNat ≤ 6 := hI_.2 155 0 _
  refine sm_T_bin (w := (S0_.2.2.1 154 0 (S0_.1 13 0 105).toNat) + (S0_.2.2.1 155 0 (S0_.1 13 0 105).toNat)) rfl (bi_add (by omega) (by omega) (by omega)) ?_ -- pc_ 18
  refine sm_T_ri rfl ⟨_, _, rfl, rfl, _, rfl, ?_⟩
  omega
/-! M_.make -/
def vw_410 : sx_Wl := ([(13, 129)], [216, 217], [])
def vq_410 (c_ : Int) (a_ : Int) (b_ : Int) (e_ : Int) (F_ : Int) (N_ : Int) (d_ : Int) (S0_ : sm_S) (u_ : Option sm_V) (S1_ : sm_S) : Prop := ∃ v_ : Int, u_ = some (.inl v_) ∧ gi S1_ ∧ ai_fr (sx_W vw_410) S0_ S1_ ∧ (v_ = F_ - 1 + S0_.1 13 0 129 ∧ S1_.1 13 0 129 = S0_.1 13 0 129 + 1 ∧ mad F_ S1_)
set_option maxHeartbeats 1000000 in
set_option maxRecDepth 20000 in
theorem vc_410 {sc_ : Nat × (Nat → Int)} (c_ : Int) (a_ : Int) (b_ : Int) (e_ : Int) (F_ : Int) (N_ : Int) (d_ : Int) (S0_ : sm_S) (hI_ : gi S0_) (hd_ : dmp F_ N_ d_ S0_) (hg_ : 0 ≤ (S0_.1 13 0 129) ∧ (S0_.1 13 0 129) ≤ 3100) (hc_ : -1 ≤ c_ ∧ c_ ≤ 11 ∧ (0 ≤ c_ ∨ (S0_.1 13 0 134) = 1)) (ha_ : 0 ≤ a_ ∧ a_ < F_ - 1 + (S0_.1 13 0 129) ∧ -1 ≤ b_ ∧ b_ < F_ - 1 + (S0_.1 13 0 129) ∧ -1 ≤ e_ ∧ e_ < F_ - 1 + (S0_.1 13 0 129)) (hb_ : ∀ k9_ : Int, (k9_ = 1 ∨ k9_ = 2) → 0 ≤ c_ → k9_ < S0_.2.2.1 185 0 (12 * S0_.1 13 0 106 + c_).toNat → 0 ≤ (if k9_ = 1 then b_ else e_) ∧ (if k9_ = 1 then b_ else e_) < F_ - 1 + S0_.1 13 0 129) (hm9_ : mad F_ S0_) : sm_T (mt_P sc_) 1 410 (0, [some (.inr (.inr (some (13, 0)))), some (.inl c_), some (.inl a_), some (.inl b_), some (.inl e_)], [], S0_) (fun ro9_ => ∃ u_ S1_, ro9_ = (.inl u_, S1_, 0) ∧ vq_410 c_ a_ b_ e_ F_ N_ d_ S0_ u_ S1_) := by
  have hF_ : ai_fr (sx_W vw_410) S0_ S0_ := ai_fr_rf
  have d1_ := hd_.1
  have bx1_ : 0 ≤ S0_.1 13 0 129 ∧ S0_.1 13 0 129 ≤ 8191 := hI_.1 13 0 129 rfl
  refine sm_T_go 5 (c1 := (9, [some (.inr (.inr (some (13, 0)))), some (.inl c_), some (.inl a_), some (.inl b_), some (.inl e_)], [.inl c_, .inl (S0_.1 13 0 129), .inr (.inr (some (216, 0)))], S0_)) rfl ?_
  refine sm_T_iast (n := 8192) rfl rfl (by omega) (by omega) ?_
  have hIx2_ : gi (sm_aI S0_ 216 0 (S0_.1 13 0 129).toNat c_) := gi_aI hI_ (show (-1) ≤ c_ ∧ c_ ≤ 11 from ⟨by omega, by omega⟩)
  have hFx3_ : ai_fr (sx_W vw_410) S0_ (sm_aI S0_ 216 0 (S0_.1 13 0 129).toNat c_) := ai_fr_tr hF_ (ai_fr_aI rfl)
  refine sm_T_go 5 (c1 := (19, [some (.inr (.inr (some (13, 0)))), some (.inl c_), some (.inl a_), some (.inl b_), some (.inl e_)], [.inl (S0_.1 13 0 129), .inl 3, .inr (.inr (some (217, 0)))], sm_aI S0_ 216 0 (S0_.1 13 0 129).toNat c_)) rfl ?_
  refine sm_T_bin (w := 3 * (S0_.1 13 0 129)) rfl (bi_mul (by omega) (by omega) (by omega)) ?_ -- pc_ 19
  refine sm_T_go 1 (c1 := (21, [some (.inr (.inr (some (13, 0)))), some (.inl c_), some (.inl a_), some (.inl b_), some (.inl e_)], [.inl a_, .inl (3 * (S0_.1 13 0 129)), .inr (.inr (some (217, 0)))], sm_aI S0_ 216 0 (S0_.1 13 0 129).toNat c_)) rfl ?_
  refine sm_T_iast (n := 24576) rfl rfl (by omega) (by omega) ?_
  have hIx4_ : gi (sm_aI (sm_aI S0_ 216 0 (S0_.1 13 0 129).toNat c_) 217 0 (3 * (S0_.1 13 0 129)).toNat a_) := gi_aI hIx2_ (show (-2) ≤ a_ ∧ a_ ≤ 9000 from ⟨by omega, by omega⟩)
  have hFx5_ : ai_fr (sx_W vw_410) S0_ (sm_aI (sm_aI S0_ 216 0 (S0_.1 13 0 129).toNat c_) 217 0 (3 * (S0_.1 13 0 129)).toNat a_) := ai_fr_tr hFx3_ (ai_fr_aI rfl)
  refine sm_T_go 5 (c1 := (31, [some (.inr (.inr (some (13, 0)))), some (.inl c_), some (.inl a_), some (.inl b_), some (.inl e_)], [.inl (S0_.1 13 0 129), .inl 3, .inr (.inr (some (217, 0)))], sm_aI (sm_aI S0_ 216 0 (S0_.1 13 0 129).toNat c_) 217 0 (3 * (S0_.1 13 0 129)).toNat a_)) rfl ?_
  refine sm_T_bin (w := 3 * (S0_.1 13 0 129)) rfl (bi_mul (by omega) (by omega) (by omega)) ?_ -- pc_ 31
  refine sm_T_go 1 (c1 := (33, [some (.inr (.inr (some (13, 0)))), some (.inl c_), some (.inl a_), some (.inl b_), some (.inl e_)], [.inl 1, .inl (3 * (S0_.1 13 0 129)), .inr (.inr (some (217, 0)))], sm_aI (sm_aI S0_ 216 0 (S0_.1 13 0 129).toNat c_) 217 0 (3 * (S0_.1 13 0 129)).toNat a_)) rfl ?_
  refine sm_T_bin (w := 3 * (S0_.1 13 0 129) + 1) rfl (bi_add (by omega) (by omega) (by omega)) ?_ -- pc_ 33
  refine sm_T_go 1 (c1 := (35, [some (.inr (.inr (some (13, 0)))), some (.inl c_), some (.inl a_), some (.inl b_), some (.inl e_)], [.inl b_, .inl (3 * (S0_.1 13 0 129) + 1), .inr (.inr (some (217, 0)))], sm_aI (sm_aI S0_ 216 0 (S0_.1 13 0 129).toNat c_) 217 0 (3 * (S0_.1 13 0 129)).toNat a_)) rfl ?_
  refine sm_T_iast (n := 24576) rfl rfl (by omega) (by omega) ?_
  have hIx6_ : gi (sm_aI (sm_aI (sm_aI S0_ 216 0 (S0_.1 13 0 129).toNat c_) 217 0 (3 * (S0_.1 13 0 129)).toNat a_) 217 0 (3 * (S0_.1 13 0 129) + 1).toNat b_) := gi_aI hIx4_ (show (-2) ≤ b_ ∧ b_ ≤ 9000 from ⟨by omega, by omega⟩)
  have hFx7_ : ai_fr (sx_W vw_410) S0_ (sm_aI (sm_aI (sm_aI S0_ 216 0 (S0_.1 13 0 129).toNat c_) 217 0 (3 * (S0_.1 13 0 129)).toNat a_) 217 0 (3 * (S0_.1 13 0 129) + 1).toNat b_) := ai_fr_tr hFx5_ (ai_fr_aI rfl)
  refine sm_T_go 5 (c1 := (45, [some (.inr (.inr (some (13, 0)))), some (.inl c_), some (.inl a_), some (.inl b_), some (.inl e_)], [.inl (S0_.1 13 0 129), .inl 3, .inr (.inr (some (217, 0)))], sm_aI (sm_aI (sm_aI S0_ 216 0 (S0_.1 13 0 129).toNat c_) 217 0 (3 * (S0_.1 13 0 129)).toNat a_) 217 0 (3 * (S0_.1 13 0 129) + 1).toNat b_)) rfl ?_
  refine sm_T_bin (w := 3 * (S0_.1 13 0 129)) rfl (bi_mul (by omega) (by omega) (by omega)) ?_ -- pc_ 45
  refine sm_T_go 1 (c1 := (47, [some (.inr (.inr (some (13, 0)))), some (.inl c_), some (.inl a_), some (.inl b_), some (.inl e_)], [.inl 2, .inl (3 * (S0_.1 13 0 129)), .inr (.inr (some (217, 0)))], sm_aI (sm_aI (sm_aI S0_ 216 0 (S0_.1 13 0 129).toNat c_) 217 0 (3 * (S0_.1 13 0 129)).toNat a_) 217 0 (3 * (S0_.1 13 0 129) + 1).toNat b_)) rfl ?_
  refine sm_T_bin (w := 3 * (S0_.1 13 0 129) + 2) rfl (bi_add (by omega) (by omega) (by omega)) ?_ -- pc_ 47
  refine sm_T_go 1 (c1 := (50, [some (.inr (.inr (some (13, 0)))), some (.inl c_), some (.inl a_), some (.inl b_), some (.inl e_)], [.inl e_, .inl (3 * (S0_.1 13 0 129) + 2), .inr (.inr (some (217, 0)))], sm_aI (sm_aI (sm_aI S0_ 216 0 (S0_.1 13 0 129).toNat c_) 217 0 (3 * (S0_.1 13 0 129)).toNat a_) 217 0 (3 * (S0_.1 13 0 129) + 1).toNat b_)) rfl ?_
  refine sm_T_iast (n := 24576) rfl rfl (by omega) (by omega) ?_
  have hIx8_ : gi (sm_aI (sm_aI (sm_aI (sm_aI S0_ 216 0 (S0_.1 13 0 129).toNat c_) 217 0 (3 * (S0_.1 13 0 129)).toNat a_) 217 0 (3 * (S0_.1 13 0 129) + 1).toNat b_) 217 0 (3 * (S0_.1 13 0 129) + 2).toNat e_) := gi_aI hIx6_ (show (-2) ≤ e_ ∧ e_ ≤ 9000 from ⟨by omega, by omega⟩)
  have hFx9_ : ai_fr (sx_W vw_410) S0_ (sm_aI (sm_aI (sm_aI (sm_aI S0_ 216 0 (S0_.1 13 0 129).toNat c_) 217 0 (3 * (S0_.1 13 0 129)).toNat a_) 217 0 (3 * (S0_.1 13 0 129) + 1).toNat b_) 217 0 (3 * (S0_.1 13 0 129) + 2).toNat e_) := ai_fr_tr hFx7_ (ai_fr_aI rfl)
  refine sm_T_go 4 (c1 := (57, [some (.inr (.inr (some (13, 0)))), some (.inl c_), some (.inl a_), some (.inl b_), some (.inl e_)], [.inl 1, .inl (S0_.1 13 0 129), .inr (.inr (some (13, 0)))], sm_aI (sm_aI (sm_aI (sm_aI S0_ 216 0 (S0_.1 13 0 129).toNat c_) 217 0 (3 * (S0_.1 13 0 129)).toNat a_) 217 0 (3 * (S0_.1 13 0 129) + 1).toNat b_) 217 0 (3 * (S0_.1 13 0 129) + 2).toNat e_)) rfl ?_
  refine sm_T_bin (w := (S0_.1 13 0 129) + 1) rfl (bi_add (by omega) (by omega) (by omega)) ?_ -- pc_ 57
  have hIx10_ : gi (sm_pI (sm_aI (sm_aI (sm_aI (sm_aI S0_ 216 0 (S0_.1 13 0 129).toNat c_) 217 0 (3 * (S0_.1 13 0 129)).toNat a_) 217 0 (3 * (S0_.1 13 0 129) + 1).toNat b_) 217 0 (3 * (S0_.1 13 0 129) + 2).toNat e_) 13 0 129 ((S0_.1 13 0 129) + 1)) := gi_pI hIx8_ (show 0 ≤ (S0_.1 13 0 129) + 1 ∧ (S0_.1 13 0 129) + 1 ≤ 8191 from ⟨by omega, by omega⟩)
  have hFx11_ : ai_fr (sx_W vw_410) S0_ (sm_pI (sm_aI (sm_aI (sm_aI (sm_aI S0_ 216 0 (S0_.1 13 0 129).toNat c_) 217 0 (3 * (S0_.1 13 0 129)).toNat a_) 217 0 (3 * (S0_.1 13 0 129) + 1).toNat b_) 217 0 (3 * (S0_.1 13 0 129) + 2).toNat e_) 13 0 129 ((S0_.1 13 0 129) + 1)) := ai_fr_tr hFx9_ (ai_fr_pI rfl)
  refine sm_T_go 2 (c1 := (62, [some (.inr (.inr (some (13, 0)))), some (.inl c_), some (.inl a_), some (.inl b_), some (.inl e_)], [.inr (.inr (some (13, 0)))], sm_pI (sm_aI (sm_aI (sm_aI (sm_aI S0_ 216 0 (S0_.1 13 0 129).toNat c_) 217 0 (3 * (S0_.1 13 0 129)).toNat a_) 217 0 (3 * (S0_.1 13 0 129) + 1).toNat b_) 217 0 (3 * (S0_.1 13 0 129) + 2).toNat e_) 13 0 129 ((S0_.1 13 0 129) + 1))) rfl ?_
  refine sm_T_cal (d1 := 0) (Q1 := vq_409 F_ N_ d_ (sm_pI (sm_aI (sm_aI (sm_aI (sm_aI S0_ 216 0 (S0_.1 13 0 129).toNat c_) 217 0 (3 * (S0_.1 13 0 129)).toNat a_) 217 0 (3 * (S0_.1 13 0 129) + 1).toNat b_) 217 0 (3 * (S0_.1 13 0 129) + 2).toNat e_) 13 0 129 ((S0_.1 13 0 129) + 1))) rfl rfl (by decide) (vc_409 F_ N_ d_ (sm_pI (sm_aI (sm_aI (sm_aI (sm_aI S0_ 216 0 (S0_.1 13 0 129).toNat c_) 217 0 (3 * (S0_.1 13 0 129)).toNat a_) 217 0 (3 * (S0_.1 13 0 129) + 1).toNat b_) 217 0 (3 * (S0_.1 13 0 129) + 2).toNat e_) 13 0 129 ((S0_.1 13 0 129) + 1)) hIx10_ (by exact dmp_fr (w_ := ([(13, 129)], [216, 217], [])) hd_ (ai_fr_tr (ai_fr_tr (ai_fr_tr (ai_fr_tr (ai_fr_aI rfl) (ai_fr_aI rfl)) (ai_fr_aI rfl)) (ai_fr_aI rfl)) (ai_fr_pI rfl)))) (fun u_ Sx12_ px15_ => ?_)
  obtain ⟨rfl, vx17_, rfl, px15_⟩ := px15_
  have e62_ := px15_
  refine sm_T_go 2 (c1 := (69, [some (.inr (.inr (some (13, 0)))), some (.inl c_), some (.inl a_), some (.inl b_), some (.inl e_)], [.inl ((S0_.1 13 0 129) + 1), .inl vx17_], sm_pI (sm_aI (sm_aI (sm_aI (sm_aI S0_ 216 0 (S0_.1 13 0 129).toNat c_) 217 0 (3 * (S0_.1 13 0 129)).toNat a_) 217 0 (3 * (S0_.1 13 0 129) + 1).toNat b_) 217 0 (3 * (S0_.1 13 0 129) + 2).toNat e_) 13 0 129 ((S0_.1 13 0 129) + 1))) rfl ?_
  refine sm_T_bin (w := vx17_ + (S0_.1 13 0 129) + 1) rfl (bi_add (by omega) (by omega) (by omega)) ?_ -- pc_ 69
  refine sm_T_go 1 (c1 := (71, [some (.inr (.inr (some (13, 0)))), some (.inl c_), some (.inl a_), some (.inl b_), some (.inl e_)], [.inl 1, .inl (vx17_ + (S0_.1 13 0 129) + 1)], sm_pI (sm_aI (sm_aI (sm_aI (sm_aI S0_ 216 0 (S0_.1 13 0 129).toNat c_) 217 0 (3 * (S0_.1 13 0 129)).toNat a_) 217 0 (3 * (S0_.1 13 0 129) + 1).toNat b_) 217 0 (3 * (S0_.1 13 0 129) + 2).toNat e_) 13 0 129 ((S0_.1 13 0 129) + 1))) rfl ?_
  refine sm_T_bin (w := vx17_ + (S0_.1 13 0 129)) rfl (bi_sub (by omega) (by omega) (by omega)) ?_ -- pc_ 71
  refine sm_T_ri rfl ⟨_, _, rfl, _, rfl, hIx10_, hFx11_, ?_⟩
  refine ⟨by ((try simp only [rd_eq, rd_ne, rf_eq, rf_nk, rf_nt, rd_fa, rd_af, rd_fl, rd_al, rd_lf, rd_la, rd_leq, rd_lne, rd_fr, rd_ar, ne_eq, Nat.reduceEqDiff, not_false_eq_true]); omega), by (try simp only [rd_eq, rd_ne, rf_eq, rf_nk, rf_nt, rd_fa, rd_af, rd_fl, rd_al, rd_lf, rd_la, rd_leq, rd_lne, rd_fr, rd_ar, ne_eq, Nat.reduceEqDiff, not_false_eq_true]), fun g9_ u0_ u1_ => ?_⟩
  (try simp only [rd_eq, rd_ne, rf_eq, rf_nk, rf_nt, rd_fa, rd_af, rd_fl, rd_al, rd_lf, rd_la, rd_leq, rd_lne, rd_fr, rd_ar, ne_eq, Nat.reduceEqDiff, not_false_eq_true] at *)
  (try simp only [rd_eq, rd_ne, rf_eq, rf_nk, rf_nt, rd_fa, rd_af, rd_fl, rd_al, rd_lf, rd_la, rd_leq, rd_lne, rd_fr, rd_ar, ne_eq, Nat.reduceEqDiff, not_false_eq_true])
  by_cases z9_ : g9_.toNat = (S0_.1 13 0 129).toNat
  · rw [if_pos z9_]
    refine ⟨by omega, fun k9_ v0_ v1_ => ?_⟩
    have K9_ : k9_ = 0 ∨ k9_ = 1 ∨ k9_ = 2 := by omega
    rcases K9_ with K9_ | K9_ | K9_ <;> subst K9_
    · rw [if_neg (by omega), if_neg (by omega), if_pos (by omega)]; exact ⟨by omega, fun _ => by omega⟩
    · rw [if_neg (by omega), if_pos (by omega)]; exact ⟨by omega, fun v2_ => by (have w9_ := hb_ 1 (Or.inl rfl) (by omega) (by omega); rw [if_pos rfl] at w9_; omega)⟩
    · rw [if_pos (by omega)]; exact ⟨by omega, fun v2_ => by (have w9_ := hb_ 2 (Or.inr rfl) (by omega) (by omega); simp only [if_neg (show ¬ ((2 : Int) = 1) by decide)] at w9_; omega)⟩
  · rw [if_neg z9_]
    have w9_ := hm9_ g9_ u0_ (by omega)
    refine ⟨w9_.1, fun k9_ v0_ v1_ => ?_⟩
    rw [if_neg (by omega), if_neg (by omega), if_neg (by omega)]
    exact w9_.2 k9_ v0_ v1_
/-! M_.turned -/
def vw_411 : sx_Wl := ([(13, 129), (13, 134)], [216, 217], [])
def vq_411 (a_ : Int) (F_ : Int) (N_ : Int) (d_ : Int) (S0_ : sm_S) (u_ : Option sm_V) (S1_ : sm_S) : Prop := ∃ v_ : Int, u_ = some (.inl v_) ∧ gi S1_ ∧ ai_fr (sx_W vw_411) S0_ S1_ ∧ (v_ = F_ - 1 + S0_.1 13 0 129 ∧ S1_.1 13 0 129 = S0_.1 13 0 129 + 1 ∧ mad F_ S1_)
set_option maxHeartbeats 1000000 in
set_option maxRecDepth 20000 in
theorem vc_411 {sc_ : Nat × (Nat → Int)} (a_ : Int) (F_ : Int) (N_ : Int) (d_ : Int) (S0_ : sm_S) (hI_ : gi S0_) (hd_ : dmp F_ N_ d_ S0_) (hg_ : 0 ≤ (S0_.1 13 0 129) ∧ (S0_.1 13 0 129) ≤ 3100) (ha_ : 0 ≤ a_ ∧ a_ < F_ - 1 + (S0_.1 13 0 129)) (hv_ : (S0_.1 13 0 107) = -1 ∨ S0_.2.2.1 185 0 (12 * S0_.1 13 0 106 + S0_.1 13 0 107).toNat = 1) (hm9_ : mad F_ S0_) : sm_T (mt_P sc_) 2 411 (0, [some (.inr (.inr (some (13, 0)))), some (.inl a_)], [], S0_) (fun ro9_ => ∃ u_ S1_, ro9_ = (.inl u_, S1_, 0) ∧ vq_411 a_ F_ N_ d_ S0_ u_ S1_) := by
  have hF_ : ai_fr (sx_W vw_411) S0_ S0_ := ai_fr_rf
  have d1_ := hd_.1
  have b34_ : 0 ≤ S0_.1 13 0 134 ∧ S0_.1 13 0 134 ≤ 1 := hI_.1 13 0 134 rfl
  have bx1_ : 0 ≤ S0_.1 13 0 134 ∧ S0_.1 13 0 134 ≤ 1 := hI_.1 13 0 134 rfl
  refine sm_T_go 3 (c1 := (5, [some (.inr (.inr (some (13, 0)))), some (.inl a_)], [.inl (S0_.1 13 0 134), .inr (.inr (some (13, 0)))], S0_)) rfl ?_
  refine sm_T_b0 (a := 1) (z := 11) rfl (fun cx2_ => ?_) (fun cx2_ => ?_)
  · have cx2_ : (S0_.1 13 0 134) ≠ 0 := of_decide_eq_true cx2_
    have hIx3_ : gi (sm_pI S0_ 13 0 134 1) := gi_pI hI_ (show 0 ≤ 1 ∧ 1 ≤ 1 from ⟨by omega, by omega⟩)
    have hFx4_ : ai_fr (sx_W vw_411) S0_ (sm_pI S0_ 13 0 134 1) := ai_fr_tr hF_ (ai_fr_pI rfl)
    have bx5_ : (-1) ≤ S0_.1 13 0 107 ∧ S0_.1 13 0 107 ≤ 11 := hI_.1 13 0 107 rfl
    refine sm_T_go 9 (c1 := (32, [some (.inr (.inr (some (13, 0)))), some (.inl a_)], [.inl (-1), .inl (-1), .inl a_, .inl (S0_.1 13 0 107), .inr (.inr (some (13, 0)))], sm_pI S0_ 13 0 134 1)) rfl ?_
    refine sm_T_cal (d1 := 1) (Q1 := vq_410 (S0_.1 13 0 107) a_ (-1) (-1) F_ N_ d_ (sm_pI S0_ 13 0 134 1)) rfl rfl (by decide) (vc_410 (S0_.1 13 0 107) a_ (-1) (-1) F_ N_ d_ (sm_pI S0_ 13 0 134 1) hIx3_ (by exact dmp_fr (w_ := ([(13, 134)], [], [])) hd_ (ai_fr_pI rfl)) (by ((try simp only [rd_eq, rd_ne, rf_eq, rf_nk, rf_nt, rd_fa, rd_af, rd_fl, rd_al, rd_lf, rd_la, rd_leq, rd_lne, rd_fr, rd_ar, ne_eq, Nat.reduceEqDiff, not_false_eq_true]); omega)) (by ((try simp only [rd_eq, rd_ne, rf_eq, rf_nk, rf_nt, rd_fa, rd_af, rd_fl, rd_al, rd_lf, rd_la, rd_leq, rd_lne, rd_fr, rd_ar, ne_eq, Nat.reduceEqDiff, not_false_eq_true]); refine ⟨by omega, by omega, ?_⟩; first | exact Or.inr trivial | exact Or.inr rfl | exact Or.inl (by omega))) (by ((try simp only [rd_eq, rd_ne, rf_eq, rf_nk, rf_nt, rd_fa, rd_af, rd_fl, rd_al, rd_lf, rd_la, rd_leq, rd_lne, rd_fr, rd_ar, ne_eq, Nat.reduceEqDiff, not_false_eq_true]); omega)) (by (intro k9_ K9_ c9_ s9_; (try simp only [rd_eq, rd_ne, rf_eq, rf_nk, rf_nt, rd_fa, rd_af, rd_fl, rd_al, rd_lf, rd_la, rd_leq, rd_lne, rd_fr, rd_ar, ne_eq, Nat.reduceEqDiff, not_false_eq_true] at *); exfalso; omega)) (by (intro g9_ u0_ u1_; (try simp only [rd_eq, rd_ne, rf_eq, rf_nk, rf_nt, rd_fa, rd_af, rd_fl, rd_al, rd_lf, rd_la, rd_leq, rd_lne, rd_fr, rd_ar, ne_eq, Nat.reduceEqDiff, not_false_eq_true] at *); have w9_ := hm9_ g9_ u0_ u1_; (try simp only [rd_eq, rd_ne, rf_eq, rf_nk, rf_nt, rd_fa, rd_af, rd_fl, rd_al, rd_lf, rd_la, rd_leq, rd_lne, rd_fr, rd_ar, ne_eq, Nat.reduceEqDiff, not_false_eq_true]); exact ⟨by first | exact Or.inr trivial | exact Or.inr rfl | exact w9_.1 | omega, w9_.2⟩))) (fun u_ Sx6_ px9_ => ?_)
    obtain ⟨vx11_, rfl, hIx7_, hFx8_, px9_⟩ := px9_
    have hFx10_ : ai_fr (sx_W vw_411) S0_ Sx6_ := ai_fr_tr hFx4_ (fr_le hFx8_ rfl)
    have e32_ := px9_
    refine sm_T_ri rfl ⟨_, _, rfl, _, rfl, hIx7_, hFx10_, ?_⟩
    have w9_ := e32_
    (try simp only [rd_eq, rd_ne, rf_eq, rf_nk, rf_nt, rd_fa, rd_af, rd_fl, rd_al, rd_lf, rd_la, rd_leq, rd_lne, rd_fr, rd_ar, ne_eq, Nat.reduceEqDiff, not_false_eq_true] at *)
    exact w9_
  · have cx2_ : ¬ ((S0_.1 13 0 134) ≠ 0) := of_decide_eq_false cx2_
    have bx12_ : (-1) ≤ S0_.1 13 0 107 ∧ S0_.1 13 0 107 ≤ 11 := hI_.1 13 0 107 rfl
    refine sm_T_go 3 (c1 := (13, [some (.inr (.inr (some (13, 0)))), some (.inl a_)], [.inl (-1), .inl (S0_.1 13 0 107), .inr (.inr (some (13, 0)))], S0_)) rfl ?_
    refine sm_T_br (a := 1) (z := 7) rfl (fun cx13_ => ?_) (fun cx13_ => ?_)
    · have cx13_ : (S0_.1 13 0 107) ≠ (-1) := of_decide_eq_true cx13_
      have hIx14_ : gi (sm_pI S0_ 13 0 134 0) := gi_pI hI_ (show 0 ≤ 0 ∧ 0 ≤ 1 from ⟨by omega, by omega⟩)
      have hFx15_ : ai_fr (sx_W vw_411) S0_ (sm_pI S0_ 13 0 134 0) := ai_fr_tr hF_ (ai_fr_pI rfl)
      refine sm_T_go 8 (c1 := (32, [some (.inr (.inr (some (13, 0)))), some (.inl a_)], [.inl (-1), .inl (-1), .inl a_, .inl (S0_.1 13 0 107), .inr (.inr (some (13, 0)))], sm_pI S0_ 13 0 134 0)) rfl ?_
      refine sm_T_cal (d1 := 1) (Q1 := vq_410 (S0_.1 13 0 107) a_ (-1) (-1) F_ N_ d_ (sm_pI S0_ 13 0 134 0)) rfl rfl (by decide) (vc_410 (S0_.1 13 0 107) a_ (-1) (-1) F_ N_ d_ (sm_pI S0_ 13 0 134 0) hIx14_ (by exact dmp_fr (w_ := ([(13, 134)], [], [])) hd_ (ai_fr_pI rfl)) (by ((try simp only [rd_eq, rd_ne, rf_eq, rf_nk, rf_nt, rd_fa, rd_af, rd_fl, rd_al, rd_lf, rd_la, rd_leq, rd_lne, rd_fr, rd_ar, ne_eq, Nat.reduceEqDiff, not_false_eq_true]); omega)) (by ((try simp only [rd_eq, rd_ne, rf_eq, rf_nk, rf_nt, rd_fa, rd_af, rd_fl, rd_al, rd_lf, rd_la, rd_leq, rd_lne, rd_fr, rd_ar, ne_eq, Nat.reduceEqDiff, not_false_eq_true]); refine ⟨by omega, by omega, ?_⟩; first | exact Or.inr trivial | exact Or.inr rfl | exact Or.inl (by omega))) (by ((try simp only [rd_eq, rd_ne, rf_eq, rf_nk, rf_nt, rd_fa, rd_af, rd_fl, rd_al, rd_lf, rd_la, rd_leq, rd_lne, rd_fr, rd_ar, ne_eq, Nat.reduceEqDiff, not_false_eq_true]); omega)) (by (intro k9_ K9_ c9_ s9_; (try simp only [rd_eq, rd_ne, rf_eq, rf_nk, rf_nt, rd_fa, rd_af, rd_fl, rd_al, rd_lf, rd_la, rd_leq, rd_lne, rd_fr, rd_ar, ne_eq, Nat.reduceEqDiff, not_false_eq_true] at *); exfalso; omega)) (by (intro g9_ u0_ u1_; (try simp only [rd_eq, rd_ne, rf_eq, rf_nk, rf_nt, rd_fa, rd_af, rd_fl, rd_al, rd_lf, rd_la, rd_leq, rd_lne, rd_fr, rd_ar, ne_eq, Nat.reduceEqDiff, not_false_eq_true] at *); have w9_ := hm9_ g9_ u0_ u1_; (try simp only [rd_eq, rd_ne, rf_eq, rf_nk, rf_nt, rd_fa, rd_af, rd_fl, rd_al, rd_lf, rd_la, rd_leq, rd_lne, rd_fr, rd_ar, ne_eq, Nat.reduceEqDiff, not_false_eq_true]); exact ⟨by first | exact Or.inr trivial | exact Or.inr rfl | exact w9_.1 | omega, w9_.2⟩))) (fun u_ Sx16_ px19_ => ?_)
      obtain ⟨vx21_, rfl, hIx17_, hFx18_, px19_⟩ := px19_
      have hFx20_ : ai_fr (sx_W vw_411) S0_ Sx16_ := ai_fr_tr hFx15_ (fr_le hFx18_ rfl)
      have e32_ := px19_
      refine sm_T_ri rfl ⟨_, _, rfl, _, rfl, hIx17_, hFx20_, ?_⟩
      have w9_ := e32_
      (try simp only [rd_eq, rd_ne, rf_eq, rf_nk, rf_nt, rd_fa, rd_af, rd_fl, rd_al, rd_lf, rd_la, rd_leq, rd_lne, rd_fr, rd_ar, ne_eq, Nat.reduceEqDiff, not_false_eq_true] at *)
      exact w9_
    · have cx13_ : ¬ ((S0_.1 13 0 107) ≠ (-1)) := of_decide_eq_false cx13_
      have hIx22_ : gi (sm_pI S0_ 13 0 134 1) := gi_pI hI_ (show 0 ≤ 1 ∧ 1 ≤ 1 from ⟨by omega, by omega⟩)
      have hFx23_ : ai_fr (sx_W vw_411) S0_ (sm_pI S0_ 13 0 134 1) := ai_fr_tr hF_ (ai_fr_pI rfl)
      refine sm_T_go 9 (c1 := (32, [some (.inr (.inr (some (13, 0)))), some (.inl a_)], [.inl (-1), .inl (-1), .inl a_, .inl (S0_.1 13 0 107), .inr (.inr (some (13, 0)))], sm_pI S0_ 13 0 134 1)) rfl ?_
      refine sm_T_cal (d1 := 1) (Q1 := vq_410 (S0_.1 13 0 107) a_ (-1) (-1) F_ N_ d_ (sm_pI S0_ 13 0 134 1)) rfl rfl (by decide) (vc_410 (S0_.1 13 0 107) a_ (-1) (-1) F_ N_ d_ (sm_pI S0_ 13 0 134 1) hIx22_ (by exact dmp_fr (w_ := ([(13, 134)], [], [])) hd_ (ai_fr_pI rfl)) (by ((try simp only [rd_eq, rd_ne, rf_eq, rf_nk, rf_nt, rd_fa, rd_af, rd_fl, rd_al, rd_lf, rd_la, rd_leq, rd_lne, rd_fr, rd_ar, ne_eq, Nat.reduceEqDiff, not_false_eq_true]); omega)) (by ((try simp only [rd_eq, rd_ne, rf_eq, rf_nk, rf_nt, rd_fa, rd_af, rd_fl, rd_al, rd_lf, rd_la, rd_leq, rd_lne, rd_fr, rd_ar, ne_eq, Nat.reduceEqDiff, not_false_eq_true]); refine ⟨by omega, by omega, ?_⟩; first | exact Or.inr trivial | exact Or.inr rfl | exact Or.inl (by omega))) (by ((try simp only [rd_eq, rd_ne, rf_eq, rf_nk, rf_nt, rd_fa, rd_af, rd_fl, rd_al, rd_lf, rd_la, rd_leq, rd_lne, rd_fr, rd_ar, ne_eq, Nat.reduceEqDiff, not_false_eq_true]); omega)) (by (intro k9_ K9_ c9_ s9_; (try simp only [rd_eq, rd_ne, rf_eq, rf_nk, rf_nt, rd_fa, rd_af, rd_fl, rd_al, rd_lf, rd_la, rd_leq, rd_lne, rd_fr, rd_ar, ne_eq, Nat.reduceEqDiff, not_false_eq_true] at *); exfalso; omega)) (by (intro g9_ u0_ u1_; (try simp only [rd_eq, rd_ne, rf_eq, rf_nk, rf_nt, rd_fa, rd_af, rd_fl, rd_al, rd_lf, rd_la, rd_leq, rd_lne, rd_fr, rd_ar, ne_eq, Nat.reduceEqDiff, not_false_eq_true] at *); have w9_ := hm9_ g9_ u0_ u1_; (try simp only [rd_eq, rd_ne, rf_eq, rf_nk, rf_nt, rd_fa, rd_af, rd_fl, rd_al, rd_lf, rd_la, rd_leq, rd_lne, rd_fr, rd_ar, ne_eq, Nat.reduceEqDiff, not_false_eq_true]); exact ⟨by first | exact Or.inr trivial | exact Or.inr rfl | exact w9_.1 | omega, w9_.2⟩))) (fun u_ Sx24_ px27_ => ?_)
      obtain ⟨vx29_, rfl, hIx25_, hFx26_, px27_⟩ := px27_
      have hFx28_ : ai_fr (sx_W vw_411) S0_ Sx24_ := ai_fr_tr hFx23_ (fr_le hFx26_ rfl)
      have e32_ := px27_
      refine sm_T_ri rfl ⟨_, _, rfl, _, rfl, hIx25_, hFx28_, ?_⟩
      have w9_ := e32_
      (try simp only [rd_eq, rd_ne, rf_eq, rf_nk, rf_nt, rd_fa, rd_af, rd_fl, rd_al, rd_lf, rd_la, rd_leq, rd_lne, rd_fr, rd_ar, ne_eq, Nat.reduceEqDiff, not_false_eq_true] at *)
      exact w9_
/-! M_.job -/
def vw_412 : sx_Wl := ([(13, 137)], [220, 221], [])
def vq_412 (s_ : Int) (w_ : Int) (S0_ : sm_S) (u_ : Option sm_V) (S1_ : sm_S) : Prop := u_ = none ∧ gi S1_ ∧ ai_fr (sx_W vw_412) S0_ S1_ ∧ (jap s_ w_ S0_ S1_)
set_option maxHeartbeats 400000 in
set_option maxRecDepth 20000 in
theorem vc_412 {sc_ : Nat × (Nat → Int)} (s_ : Int) (w_ : Int) (S0_ : sm_S) (hI_ : gi S0_) (hj_ : (S0_.1 13 0 137) ≤ 8190) (hs_ : 0 ≤ s_ ∧ s_ ≤ 1 ∧ 0 ≤ w_ ∧ w_ ≤ 4095) : sm_T (mt_P sc_) 0 412 (0, [some (.inr (.inr (some (13, 0)))), some (.inl s_), some (.inl w_)], [], S0_) (fun ro9_ => ∃ u_ S1_, ro9_ = (.inl u_, S1_, 0) ∧ vq_412 s_ w_ S0_ u_ S1_) := by
  have hF_ : ai_fr (sx_W vw_412) S0_ S0_ := ai_fr_rf
  have bx1_ : 0 ≤ S0_.1 13 0 137 ∧ S0_.1 13 0 137 ≤ 8191 := hI_.1 13 0 137 rfl
  refine sm_T_go 5 (c1 := (9, [some (.inr (.inr (some (13, 0)))), some (.inl s_), some (.inl w_)], [.inl w_, .inl (S0_.1 13 0 137), .inr (.inr (some (220, 0)))], S0_)) rfl ?_
  refine sm_T_iast (n := 8192) rfl rfl (by omega) (by omega) ?_
  have hIx2_ : gi (sm_aI S0_ 220 0 (S0_.1 13 0 137).toNat w_) := gi_aI hI_ (show 0 ≤ w_ ∧ w_ ≤ 4095 from ⟨by omega, by omega⟩)
  have hFx3_ : ai_fr (sx_W vw_412) S0_ (sm_aI S0_ 220 0 (S0_.1 13 0 137).toNat w_) := ai_fr_tr hF_ (ai_fr_aI rfl)
  refine sm_T_go 5 (c1 := (19, [some (.inr (.inr (some (13, 0)))), some (.inl s_), some (.inl w_)], [.inl s_, .inl (S0_.1 13 0 137), .inr (.inr (some (221, 0)))], sm_aI S0_ 220 0 (S0_.1 13 0 137).toNat w_)) rfl ?_
  refine sm_T_iast (n := 8192) rfl rfl (by omega) (by omega) ?_
  have hIx4_ : gi (sm_aI (sm_aI S0_ 220 0 (S0_.1 13 0 137).toNat w_) 221 0 (S0_.1 13 0 137).toNat s_) := gi_aI hIx2_ (show 0 ≤ s_ ∧ s_ ≤ 1 from ⟨by omega, by omega⟩)
  have hFx5_ : ai_fr (sx_W vw_412) S0_ (sm_aI (sm_aI S0_ 220 0 (S0_.1 13 0 137).toNat w_) 221 0 (S0_.1 13 0 137).toNat s_) := ai_fr_tr hFx3_ (ai_fr_aI rfl)
  refine sm_T_go 4 (c1 := (26, [some (.inr (.inr (some (13, 0)))), some (.inl s_), some (.inl w_)], [.inl 1, .inl (S0_.1 13 0 137), .inr (.inr (some (13, 0)))], sm_aI (sm_aI S0_ 220 0 (S0_.1 13 0 137).toNat w_) 221 0 (S0_.1 13 0 137).toNat s_)) rfl ?_
  refine sm_T_bin (w := (S0_.1 13 0 137) + 1) rfl (bi_add (by omega) (by omega) (by omega)) ?_ -- pc_ 26
  have hIx6_ : gi (sm_pI (sm_aI (sm_aI S0_ 220 0 (S0_.1 13 0 137).toNat w_) 221 0 (S0_.1 13 0 137).toNat s_) 13 0 137 ((S0_.1 13 0 137) + 1)) := gi_pI hIx4_ (show 0 ≤ (S0_.1 13 0 137) + 1 ∧ (S0_.1 13 0 137) + 1 ≤ 8191 from ⟨by omega, by omega⟩)
  have hFx7_ : ai_fr (sx_W vw_412) S0_ (sm_pI (sm_aI (sm_aI S0_ 220 0 (S0_.1 13 0 137).toNat w_) 221 0 (S0_.1 13 0 137).toNat s_) 13 0 137 ((S0_.1 13 0 137) + 1)) := ai_fr_tr hFx5_ (ai_fr_pI rfl)
  refine sm_T_go 1 (c1 := (30, [some (.inr (.inr (some (13, 0)))), some (.inl s_), some (.inl w_)], [], sm_pI (sm_aI (sm_aI S0_ 220 0 (S0_.1 13 0 137).toNat w_) 221 0 (S0_.1 13 0 137).toNat s_) 13 0 137 ((S0_.1 13 0 137) + 1))) rfl ?_
  refine sm_T_rv rfl ⟨_, _, rfl, rfl, hIx6_, hFx7_, ?_⟩
  refine ⟨?_, fun j9_ => ?_, fun j9_ => ?_⟩ <;> (try simp only [rd_eq, rd_ne, rf_eq, rf_nk, rf_nt, rd_fa, rd_af, rd_fl, rd_al, rd_lf, rd_la, rd_leq, rd_lne, rd_fr, rd_ar, ne_eq, Nat.reduceEqDiff, not_false_eq_true])
/-! M_.isLeaf -/
def vw_413 : sx_Wl := ([], [], [])
def vq_413 (n_ : Int) (F_ : Int) (S0_ : sm_S) (u_ : Option sm_V) (S1_ : sm_S) : Prop := S0_ = S1_ ∧ ∃ v_ : Int, u_ = some (.inl v_) ∧ ((v_ = 0 ∧ F_ ≤ n_ ∧ S0_.2.2.1 203 0 n_.toNat = 0) ∨ (v_ = 1 ∧ (n_ < F_ ∨ S0_.2.2.1 203 0 n_.toNat = 1)))
set_option maxHeartbeats 400000 in
set_option maxRecDepth 20000 in
theorem vc_413 {sc_ : Nat × (Nat → Int)} (n_ : Int) (F_ : Int) (S0_ : sm_S) (hI_ : gi S0_) (hf_ : S0_.2.2.1 160 0 (S0_.1 13 0 105).toNat = F_) (hn_ : 0 ≤ n_ ∧ n_ ≤ 2047) : sm_T (mt_P sc_) 1 413 (0, [some (.inr (.inr (some (13, 0)))), some (.inl n_)], [], S0_) (fun ro9_ => ∃ u_ S1_, ro9_ = (.inl u_, S1_, 0) ∧ vq_413 n_ F_ S0_ u_ S1_) := by
  have hF_ : ai_fr (sx_W vw_413) S0_ S0_ := ai_fr_rf
  refine sm_T_go 2 (c1 := (2, [some (.inr (.inr (some (13, 0)))), some (.inl n_)], [.inl n_, .inr (.inr (some (13, 0)))], S0_)) rfl ?_
  refine sm_T_cal (d1 := 0) (Q1 := vq_395 n_ F_ S0_) rfl rfl (by decide) (vc_395 n_ F_ S0_ hI_ (by exact hf_) (by exact hn_)) (fun u_ Sx1_ px4_ => ?_)
  obtain ⟨rfl, vx6_, rfl, px4_⟩ := px4_
  have e2_ := px4_
  refine sm_T_b0 (a := 1) (z := 7) rfl (fun cx7_ => ?_) (fun cx7_ => ?_)
  · have cx7_ : vx6_ ≠ 0 := of_decide_eq_true cx7_
    refine sm_T_go 1 (c1 := (13, [some (.inr (.inr (some (13, 0)))), some (.inl n_)], [.inl 0], S0_)) rfl ?_
    refine sm_T_rz rfl (by omega) ⟨_, _, rfl, rfl, _, rfl, ?_⟩
    omega
  · have cx7_ : ¬ (vx6_ ≠ 0) := of_decide_eq_false cx7_
    refine sm_T_go 2 (c1 := (13, [some (.inr (.inr (some (13, 0)))), some (.inl n_)], [.inl 1], S0_)) rfl ?_
    refine sm_T_rz rfl (by omega) ⟨_, _, rfl, rfl, _, rfl, ?_⟩
    omega
/-! M_.leafNet -/
def vw_414 : sx_Wl := ([], [], [])
def vq_414 (n_ : Int) (F_ : Int) (S0_ : sm_S) (u_ : Option sm_V) (S1_ : sm_S) : Prop := S0_ = S1_ ∧ ∃ v_ : Int, u_ = some (.inl v_) ∧ (v_ = lnf F_ S0_ n_ ∧ -2 ≤ v_ ∧ v_ ≤ 9000)
set_option maxHeartbeats 400000 in
set_option maxRecDepth 20000 in
theorem vc_414 {sc_ : Nat × (Nat → Int)} (n_ : Int) (F_ : Int) (S0_ : sm_S) (hI_ : gi S0_) (hf_ : S0_.2.2.1 160 0 (S0_.1 13 0 105).toNat = F_) (hn_ : 0 ≤ n_ ∧ n_ ≤ 2047) : sm_T (mt_P sc_) 0 414 (0, [some (.inr (.inr (some (13, 0)))), some (.inl n_)], [], S0_) (fun ro9_ => ∃ u_ S1_, ro9_ = (.inl u_, S1_, 0) ∧ vq_414 n_ F_ S0_ u_ S1_) := by
  have hF_ : ai_fr (sx_W vw_414) S0_ S0_ := ai_fr_rf
  have bx1_ : 0 ≤ S0_.1 13 0 105 ∧ S0_.1 13 0 105 ≤ 5 := hI_.1 13 0 105 rfl
  refine sm_T_go 5 (c1 := (9, [some (.inr (.inr (some (13, 0)))), some (.inl n_)], [.inl (S0_.1 13 0 105), .inr (.inr (some (160, 0))), .inl n_], S0_)) rfl ?_
  refine sm_T_iald (n := 6) rfl rfl (by omega) (by omega) ?_
  have bx2_ : 0 ≤ S0_.2.2.1 160 0 (S0_.1 13 0 105).toNat ∧ S0_.2.2.1 160 0 (S0_.1 13 0 105).toNat ≤ 19 := hI_.2 160 0 _
  refine sm_T_br (a := 3) (z := 9) rfl (fun cx3_ => ?_) (fun cx3_ => ?_)
  · have cx3_ : (S0_.2.2.1 160 0 (S0_.1 13 0 105).toNat) ≤ n_ := of_decide_eq_true cx3_
    refine sm_T_go 4 (c1 := (25, [some (.inr (.inr (some (13, 0)))), some (.inl n_)], [.inl n_, .inl 2, .inr (.inr (some (218, 0)))], S0_)) rfl ?_
    refine sm_T_bin (w := 2 * n_) rfl (bi_mul (by omega) (by omega) (by omega)) ?_ -- pc_ 25
    refine sm_T_iald (n := 4096) rfl rfl (by omega) (by omega) ?_
    have bx4_ : (-2) ≤ S0_.2.2.1 218 0 (2 * n_).toNat ∧ S0_.2.2.1 218 0 (2 * n_).toNat ≤ 9000 := hI_.2 218 0 _
    refine sm_T_ri rfl ⟨_, _, rfl, rfl, _, rfl, ?_⟩
    refine ⟨?_, by omega, by omega⟩
    unfold lnf
    first | rw [if_pos (by omega)] | rw [if_neg (by omega)]
  · have cx3_ : ¬ ((S0_.2.2.1 160 0 (S0_.1 13 0 105).toNat) ≤ n_) := of_decide_eq_false cx3_
    refine sm_T_go 2 (c1 := (15, [some (.inr (.inr (some (13, 0)))), some (.inl n_)], [.inl 1, .inl n_], S0_)) rfl ?_
    refine sm_T_bin (w := n_ - 1) rfl (bi_sub (by omega) (by omega) (by omega)) ?_ -- pc_ 15
    refine sm_T_go 1 (c1 := (27, [some (.inr (.inr (some (13, 0)))), some (.inl n_)], [.inl (n_ - 1)], S0_)) rfl ?_
    refine sm_T_ri rfl ⟨_, _, rfl, rfl, _, rfl, ?_⟩
    refine ⟨?_, by omega, by omega⟩
    unfold lnf
    first | rw [if_pos (by omega)] | rw [if_neg (by omega)]
/-! M_.netOfInput -/
def vw_415 : sx_Wl := ([], [], [])
def vq_415 (x_ : Int) (t_ : Int) (F_ : Int) (S0_ : sm_S) (u_ : Option sm_V) (S1_ : sm_S) : Prop := S0_ = S1_ ∧ ∃ v_ : Int, u_ = some (.inl v_) ∧ (v_ = noi F_ S0_ x_ t_ ∧ -2 ≤ v_ ∧ v_ ≤ 9000)
set_option maxHeartbeats 400000 in
set_option maxRecDepth 20000 in
theorem vc_415 {sc_ : Nat × (Nat → Int)} (x_ : Int) (t_ : Int) (F_ : Int) (S0_ : sm_S) (hI_ : gi S0_) (hf_ : S0_.2.2.1 160 0 (S0_.1 13 0 105).toNat = F_) (hn_ : 0 ≤ x_ ∧ x_ ≤ 2046 ∧ 0 ≤ t_ ∧ t_ ≤ 1) : sm_T (mt_P sc_) 2 415 (0, [some (.inr (.inr (some (13, 0)))), some (.inl x_), some (.inl t_)], [], S0_) (fun ro9_ => ∃ u_ S1_, ro9_ = (.inl u_, S1_, 0) ∧ vq_415 x_ t_ F_ S0_ u_ S1_) := by
  have hF_ : ai_fr (sx_W vw_415) S0_ S0_ := ai_fr_rf
  refine sm_T_go 2 (c1 := (2, [some (.inr (.inr (some (13, 0)))), some (.inl x_), some (.inl t_)], [.inl x_, .inr (.inr (some (13, 0)))], S0_)) rfl ?_
  refine sm_T_cal (d1 := 1) (Q1 := vq_413 x_ F_ S0_) rfl rfl (by decide) (vc_413 x_ F_ S0_ hI_ (by exact hf_) (by omega)) (fun u_ Sx1_ px4_ => ?_)
  obtain ⟨rfl, vx6_, rfl, px4_⟩ := px4_
  have e2_ := px4_
  refine sm_T_b0 (a := 1) (z := 16) rfl (fun cx7_ => ?_) (fun cx7_ => ?_)
  · have cx7_ : vx6_ ≠ 0 := of_decide_eq_true cx7_
    refine sm_T_go 1 (c1 := (22, [some (.inr (.inr (some (13, 0)))), some (.inl x_), some (.inl t_)], [.inl t_], S0_)) rfl ?_
    refine sm_T_b0 (a := 1) (z := 11) rfl (fun cx8_ => ?_) (fun cx8_ => ?_)
    · have cx8_ : t_ ≠ 0 := of_decide_eq_true cx8_
      refine sm_T_go 3 (c1 := (38, [some (.inr (.inr (some (13, 0)))), some (.inl x_), some (.inl t_)], [.inl x_, .inr (.inr (some (219, 0)))], S0_)) rfl ?_
      refine sm_T_iald (n := 2048) rfl rfl (by omega) (by omega) ?_
      have bx9_ : (-2) ≤ S0_.2.2.1 219 0 x_.toNat ∧ S0_.2.2.1 219 0 x_.toNat ≤ 9000 := hI_.2 219 0 _
      refine sm_T_ri rfl ⟨_, _, rfl, rfl, _, rfl, ?_⟩
      refine ⟨?_, by omega, by omega⟩
      unfold noi
      first | rw [if_pos ⟨by omega, by omega⟩] | (rw [if_neg (by omega)]; first | (rw [if_pos (by omega)]; exact e27_.1) | rw [if_neg (by omega)])
    · have cx8_ : ¬ (t_ ≠ 0) := of_decide_eq_false cx8_
      refine sm_T_go 2 (c1 := (27, [some (.inr (.inr (some (13, 0)))), some (.inl x_), some (.inl t_)], [.inl x_, .inr (.inr (some (13, 0)))], S0_)) rfl ?_
      refine sm_T_cal (d1 := 0) (Q1 := vq_414 x_ F_ S0_) rfl rfl (by decide) (vc_414 x_ F_ S0_ hI_ (by exact hf_) (by omega)) (fun u_ Sx10_ px13_ => ?_)
      obtain ⟨rfl, vx15_, rfl, px13_⟩ := px13_
      have e27_ := px13_
      refine sm_T_go 1 (c1 := (39, [some (.inr (.inr (some (13, 0)))), some (.inl x_), some (.inl t_)], [.inl vx15_], S0_)) rfl ?_
      refine sm_T_ri rfl ⟨_, _, rfl, rfl, _, rfl, ?_⟩
      refine ⟨?_, by omega, by omega⟩
      unfold noi
      first | rw [if_pos ⟨by omega, by omega⟩] | (rw [if_neg (by omega)]; first | (rw [if_pos (by omega)]; exact e27_.1) | rw [if_neg (by omega)])
  · have cx7_ : ¬ (vx6_ ≠ 0) := of_decide_eq_false cx7_
    refine sm_T_go 4 (c1 := (14, [some (.inr (.inr (some (13, 0)))), some (.inl x_), some (.inl t_)], [.inl x_, .inl 2, .inr (.inr (some (218, 0)))], S0_)) rfl ?_
    refine sm_T_bin (w := 2 * x_) rfl (bi_mul (by omega) (by omega) (by omega)) ?_ -- pc_ 14
    refine sm_T_go 1 (c1 := (16, [some (.inr (.inr (some (13, 0)))), some (.inl x_), some (.inl t_)], [.inl t_, .inl (2 * x_), .inr (.inr (some (218, 0)))], S0_)) rfl ?_
    refine sm_T_bin (w := 2 * x_ + t_) rfl (bi_add (by omega) (by omega) (by omega)) ?_ -- pc_ 16
    refine sm_T_iald (n := 4096) rfl rfl (by omega) (by omega) ?_
    have bx16_ : (-2) ≤ S0_.2.2.1 218 0 (2 * x_ + t_).toNat ∧ S0_.2.2.1 218 0 (2 * x_ + t_).toNat ≤ 9000 := hI_.2 218 0 _
    refine sm_T_go 1 (c1 := (39, [some (.inr (.inr (some (13, 0)))), some (.inl x_), some (.inl t_)], [.inl (S0_.2.2.1 218 0 (2 * x_ + t_).toNat)], S0_)) rfl ?_
    refine sm_T_ri rfl ⟨_, _, rfl, rfl, _, rfl, ?_⟩
    refine ⟨?_, by omega, by omega⟩
    unfold noi
    first | rw [if_pos ⟨by omega, by omega⟩] | (rw [if_neg (by omega)]; first | (rw [if_pos (by omega)]; exact e27_.1) | rw [if_neg (by omega)])
/-! M_.askFor -/
def vw_416 : sx_Wl := ([(13, 137)], [220, 221], [])
def vq_416 (x_ : Int) (t_ : Int) (F_ : Int) (S0_ : sm_S) (u_ : Option sm_V) (S1_ : sm_S) : Prop := u_ = none ∧ gi S1_ ∧ ai_fr (sx_W vw_416) S0_ S1_ ∧ (((x_ < F_ ∨ S0_.2.2.1 203 0 x_.toNat = 1) ∧ t_ = 1 ∧ jap 1 x_ S0_ S1_) ∨ (((F_ ≤ x_ ∧ S0_.2.2.1 203 0 x_.toNat = 0) ∨ t_ = 0) ∧ jap 0 (2 * x_ + t_) S0_ S1_))
set_option maxHeartbeats 400000 in
set_option maxRecDepth 20000 in
theorem vc_416 {sc_ : Nat × (Nat → Int)} (x_ : Int) (t_ : Int) (F_ : Int) (S0_ : sm_S) (hI_ : gi S0_) (hf_ : S0_.2.2.1 160 0 (S0_.1 13 0 105).toNat = F_) (hn_ : 0 ≤ x_ ∧ x_ ≤ 2046 ∧ 0 ≤ t_ ∧ t_ ≤ 1) (hj_ : (S0_.1 13 0 137) ≤ 8190) : sm_T (mt_P sc_) 2 416 (0, [some (.inr (.inr (some (13, 0)))), some (.inl x_), some (.inl t_)], [], S0_) (fun ro9_ => ∃ u_ S1_, ro9_ = (.inl u_, S1_, 0) ∧ vq_416 x_ t_ F_ S0_ u_ S1_) := by
  have hF_ : ai_fr (sx_W vw_416) S0_ S0_ := ai_fr_rf
  refine sm_T_go 2 (c1 := (2, [some (.inr (.inr (some (13, 0)))), some (.inl x_), some (.inl t_)], [.inl x_, .inr (.inr (some (13, 0)))], S0_)) rfl ?_
  refine sm_T_cal (d1 := 1) (Q1 := vq_413 x_ F_ S0_) rfl rfl (by decide) (vc_413 x_ F_ S0_ hI_ (by exact hf_) (by omega)) (fun u_ Sx1_ px4_ => ?_)
  obtain ⟨rfl, vx6_, rfl, px4_⟩ := px4_
  have e2_ := px4_
  refine sm_T_b0 (a := 0) (z := 17) rfl (fun cx7_ => ?_) (fun cx7_ => ?_)
  · have cx7_ : vx6_ = 0 := of_decide_eq_true cx7_
    refine sm_T_go 4 (c1 := (26, [some (.inr (.inr (some (13, 0)))), some (.inl x_), some (.inl t_)], [.inl x_, .inl 2, .inl 0, .inr (.inr (some (13, 0)))], S0_)) rfl ?_
    refine sm_T_bin (w := 2 * x_) rfl (bi_mul (by omega) (by omega) (by omega)) ?_ -- pc_ 26
    refine sm_T_go 1 (c1 := (28, [some (.inr (.inr (some (13, 0)))), some (.inl x_), some (.inl t_)], [.inl t_, .inl (2 * x_), .inl 0, .inr (.inr (some (13, 0)))], S0_)) rfl ?_
    refine sm_T_bin (w := 2 * x_ + t_) rfl (bi_add (by omega) (by omega) (by omega)) ?_ -- pc_ 28
    refine sm_T_cal (d1 := 0) (Q1 := vq_412 0 (2 * x_ + t_) S0_) rfl rfl (by decide) (vc_412 0 (2 * x_ + t_) S0_ hI_ (by omega) (by omega)) (fun u_ Sx8_ px11_ => ?_)
    obtain ⟨rfl, hIx9_, hFx10_, px11_⟩ := px11_
    have hFx12_ : ai_fr (sx_W vw_416) S0_ Sx8_ := ai_fr_tr hF_ (fr_le hFx10_ rfl)
    have e29_ := px11_
    refine sm_T_rv rfl ⟨_, _, rfl, rfl, hIx9_, hFx12_, ?_⟩
    first | exact Or.inl ⟨by omega, by omega, e16_⟩ | exact Or.inr ⟨by omega, e29_⟩
  · have cx7_ : ¬ (vx6_ = 0) := of_decide_eq_false cx7_
    refine sm_T_go 2 (c1 := (10, [some (.inr (.inr (some (13, 0)))), some (.inl x_), some (.inl t_)], [.inl 1, .inl t_], S0_)) rfl ?_
    refine sm_T_br (a := 1) (z := 12) rfl (fun cx13_ => ?_) (fun cx13_ => ?_)
    · have cx13_ : t_ ≠ 1 := of_decide_eq_true cx13_
      refine sm_T_go 4 (c1 := (26, [some (.inr (.inr (some (13, 0)))), some (.inl x_), some (.inl t_)], [.inl x_, .inl 2, .inl 0, .inr (.inr (some (13, 0)))], S0_)) rfl ?_
      refine sm_T_bin (w := 2 * x_) rfl (bi_mul (by omega) (by omega) (by omega)) ?_ -- pc_ 26
      refine sm_T_go 1 (c1 := (28, [some (.inr (.inr (some (13, 0)))), some (.inl x_), some (.inl t_)], [.inl t_, .inl (2 * x_), .inl 0, .inr (.inr (some (13, 0)))], S0_)) rfl ?_
      refine sm_T_bin (w := 2 * x_ + t_) rfl (bi_add (by omega) (by omega) (by omega)) ?_ -- pc_ 28
      refine sm_T_cal (d1 := 0) (Q1 := vq_412 0 (2 * x_ + t_) S0_) rfl rfl (by decide) (vc_412 0 (2 * x_ + t_) S0_ hI_ (by omega) (by omega)) (fun u_ Sx14_ px17_ => ?_)
      obtain ⟨rfl, hIx15_, hFx16_, px17_⟩ := px17_
      have hFx18_ : ai_fr (sx_W vw_416) S0_ Sx14_ := ai_fr_tr hF_ (fr_le hFx16_ rfl)
      have e29_ := px17_
      refine sm_T_rv rfl ⟨_, _, rfl, rfl, hIx15_, hFx18_, ?_⟩
      first | exact Or.inl ⟨by omega, by omega, e16_⟩ | exact Or.inr ⟨by omega, e29_⟩
    · have cx13_ : ¬ (t_ ≠ 1) := of_decide_eq_false cx13_
      refine sm_T_go 3 (c1 := (16, [some (.inr (.inr (some (13, 0)))), some (.inl x_), some (.inl t_)], [.inl x_, .inl 1, .inr (.inr (some (13, 0)))], S0_)) rfl ?_
      refine sm_T_cal (d1 := 0) (Q1 := vq_412 1 x_ S0_) rfl rfl (by decide) (vc_412 1 x_ S0_ hI_ (by omega) (by omega)) (fun u_ Sx19_ px22_ => ?_)
      obtain ⟨rfl, hIx20_, hFx21_, px22_⟩ := px22_
      have hFx23_ : ai_fr (sx_W vw_416) S0_ Sx19_ := ai_fr_tr hF_ (fr_le hFx21_ rfl)
      have e16_ := px22_
      refine sm_T_go 1 (c1 := (32, [some (.inr (.inr (some (13, 0)))), some (.inl x_), some (.inl t_)], [], Sx19_)) rfl ?_
      refine sm_T_rv rfl ⟨_, _, rfl, rfl, hIx20_, hFx23_, ?_⟩
      first | exact Or.inl ⟨by omega, by omega, e16_⟩ | exact Or.inr ⟨by omega, e29_⟩
