/-! 99.zn4d -/
section
/-! Mapper.tableOver -/
end
/-! 99.zn5a -/
section
/-! views of cells; written by wip/p55/gen/vg -/

/-! views of_ cells -/
theorem vsh {x_ k_ : Int} (hx_ : 0 ≤ x_ ∧ x_ ≤ 1) (hk_ : 0 ≤ k_ ∧ k_ ≤ 2) : 0 ≤ i_shl x_ k_ ∧ i_shl x_ k_ < 2 ^ 3 := by
  have a_ : x_ = 0 ∨ x_ = 1 := by omega
  have b_ : k_ = 0 ∨ k_ = 1 ∨ k_ = 2 := by omega
  rcases a_ with a_ | a_ <;> rcases b_ with b_ | b_ | b_ <;> rw [a_, b_] <;> decide
theorem vpw {e_ : Int} (h_ : e_ = 2 ∨ e_ = 3) : (e_ = 2 ∧ i_shl 1 e_ = 4 ∧ i_shl 2 e_ = 8) ∨ (e_ = 3 ∧ i_shl 1 e_ = 8 ∧ i_shl 6 e_ = 48) := by
  rcases h_ with h_ | h_ <;> rw [h_]
  · left; decide
  · right; decide
theorem vor {v_ e_ : Int} (hv_ : 0 ≤ v_ ∧ v_ < 48) (h_ : e_ = 2 ∨ e_ = 3) : (e_ = 2 ∧ i_shr v_ e_ = v_ / 4) ∨ (e_ = 3 ∧ i_shr v_ e_ = v_ / 8) := by
  rcases h_ with h_ | h_
  · left; exact ⟨h_, by rw [h_, i_shrv (by decide) (by decide) (by omega)]; rfl⟩
  · right; exact ⟨h_, by rw [h_, i_shrv (by decide) (by decide) (by omega)]; rfl⟩
/-! Mapper.viewCells -/
end
/-! 99.zn6a -/
section
/-! ways of making a literal; written by wip/p55/gen/vg -/

/-! ways of_ making a_ literal -/
theorem tbit {v_ e_ k_ : Int} (hv_ : 0 ≤ v_ ∧ v_ < 48) (he_ : e_ = 2 ∨ e_ = 3) (hk_ : 0 ≤ k_ ∧ k_ < e_) : i_shr (i_and v_ (i_shl 1 e_ - 1)) k_ % 2 = i_shr v_ k_ % 2 := by
  have c2_ : ∀ j_ : Fin 48, ∀ i_ : Fin 2, i_shr (i_and ((j_.val : Nat) : Int) (i_shl 1 2 - 1)) ((i_.val : Nat) : Int) % 2 = i_shr ((j_.val : Nat) : Int) ((i_.val : Nat) : Int) % 2 := by decide +kernel
  have c3_ : ∀ j_ : Fin 48, ∀ i_ : Fin 3, i_shr (i_and ((j_.val : Nat) : Int) (i_shl 1 3 - 1)) ((i_.val : Nat) : Int) % 2 = i_shr ((j_.val : Nat) : Int) ((i_.val : Nat) : Int) % 2 := by decide +kernel
  have hv1_ : ((v_.toNat : Nat) : Int) = v_ := by omega
  have hk1_ : ((k_.toNat : Nat) : Int) = k_ := by omega
  rcases he_ with he_ | he_
  · have q_ := c2_ ⟨v_.toNat, by omega⟩ ⟨k_.toNat, by omega⟩
    simp only [hv1_, hk1_] at q_
    rw [he_]; exact q_
  · have q_ := c3_ ⟨v_.toNat, by omega⟩ ⟨k_.toNat, by omega⟩
    simp only [hv1_, hk1_] at q_
    rw [he_]; exact q_
theorem mcs_b {P_ : Int → Prop} {S_ : sm_S} (g_ : mcs P_ S_) {i_ k_ : Int} (hi_ : 0 ≤ i_ ∧ i_ < S_.1 6 0 11) (hk_ : 0 ≤ k_ ∧ k_ ≤ 2) (hn_ : k_ = 2 → S_.2.2.1 65 0 (3 * i_ + 2).toNat ≠ -1) : P_ (S_.2.2.1 65 0 (3 * i_ + k_).toNat) := by
  have q_ := g_ i_.toNat (by omega)
  have c_ : k_ = 0 ∨ k_ = 1 ∨ k_ = 2 := by omega
  rcases c_ with c_ | c_ | c_
  · rw [show (3 * i_ + k_).toNat = 3 * i_.toNat by omega]; exact q_.1
  · rw [show (3 * i_ + k_).toNat = 3 * i_.toNat + 1 by omega]; exact q_.2.1
  · have w_ := hn_ c_
    rw [show (3 * i_ + 2).toNat = 3 * i_.toNat + 2 by omega] at w_
    rw [show (3 * i_ + k_).toNat = 3 * i_.toNat + 2 by omega]
    exact q_.2.2.resolve_left w_
/-- a_ part may_ be_ made: node x_, turned or not; inverter iv_ -/
def wpt (F_ n_ iv_ : Int) (u_ r_ need : Nat → Int) (x_ t_ : Int) : Prop := npd n_ u_ x_ ∧ imq ((x_ < F_ ∨ r_ x_.toNat ≠ 0) ∧ t_ ≠ 0) (iv_ ≠ -1) ∧ imq (F_ ≤ x_ ∧ r_ x_.toNat = 0) (need (2 * x_ + t_).toNat < 268435456)
/-- a_ literal has_ no_ way_, or a_ cell with its_ parts -/
def wo3 (F_ n_ : Int) (ll_ : Nat) (S_ : sm_S) (l_ : Nat) : Prop := (S_.2.2.1 62 0 l_ = -1 ∧ S_.2.2.1 61 0 l_ = 268435456) ∨ (0 ≤ S_.2.2.1 62 0 l_ ∧ S_.2.2.1 61 0 l_ < 268435456 ∧ ∀ k_ : Nat, (k_ : Int) < S_.2.2.1 55 (0 + ll_) (S_.2.2.1 62 0 l_).toNat → wpt F_ n_ (S_.1 5 ll_ 2) (S_.2.2.1 59 0) (S_.2.2.1 60 0) (S_.2.2.1 61 0) (S_.2.2.1 64 0 (3 * l_ + k_)) (i_shr (S_.2.2.1 63 0 l_) (k_ : Int) % 2))
/-- only literal l_ has_ changed -/
def wfl (l_ : Nat) (S_ S'_ : sm_S) : Prop := (∀ j_, j_ ≠ l_ → S'_.2.2.1 61 0 j_ = S_.2.2.1 61 0 j_ ∧ S'_.2.2.1 62 0 j_ = S_.2.2.1 62 0 j_ ∧ S'_.2.2.1 63 0 j_ = S_.2.2.1 63 0 j_) ∧ ∀ j_, (j_ < 3 * l_ ∨ 3 * l_ + 3 ≤ j_) → S'_.2.2.1 64 0 j_ = S_.2.2.1 64 0 j_
theorem wfl_rf {l_ : Nat} {S_ : sm_S} : wfl l_ S_ S_ := ⟨fun _ _ => ⟨rfl, rfl, rfl⟩, fun _ _ => rfl⟩
theorem wpt_cg {F_ n_ iv_ : Int} {u_ r_ f_ g_ : Nat → Int} {x_ t_ : Int} (h_ : wpt F_ n_ iv_ u_ r_ f_ x_ t_) (ht_ : 0 ≤ t_ ∧ t_ ≤ 1) (e_ : ∀ j_ : Nat, (j_ : Int) < 2 * n_ → g_ j_ = f_ j_) : wpt F_ n_ iv_ u_ r_ g_ x_ t_ := by
  obtain ⟨a_, b_, c_⟩ := h_
  refine ⟨a_, b_, fun q_ => ?_⟩
  have a1_ := a_.1
  have a2_ := a_.2.1
  rw [e_ _ (by omega)]
  exact c_ q_
/-- another literal's way_ stays -/
theorem wo3_cg {F_ n_ : Int} {ll_ l_ m_ : Nat} {S_ S'_ : sm_S} (h_ : wo3 F_ n_ ll_ S_ l_) (g_ : wfl m_ S_ S'_) (ne_ : l_ ≠ m_) (hm_ : 2 * n_ ≤ (m_ : Int)) (e5_ : S'_.1 5 ll_ 2 = S_.1 5 ll_ 2) (e55_ : S'_.2.2.1 55 (0 + ll_) = S_.2.2.1 55 (0 + ll_)) (e59_ : S'_.2.2.1 59 0 = S_.2.2.1 59 0) (e60_ : S'_.2.2.1 60 0 = S_.2.2.1 60 0) (c55_ : ∀ k_, S_.2.2.1 55 (0 + ll_) k_ ≤ 3) : wo3 F_ n_ ll_ S'_ l_ := by
  unfold wo3
  rw [(g_.1 l_ ne_).1, (g_.1 l_ ne_).2.1, (g_.1 l_ ne_).2.2, e5_, e55_, e59_, e60_]
  rcases h_ with h_ | h_
  · exact Or.inl h_
  · refine Or.inr ⟨h_.1, h_.2.1, fun k_ hk_ => ?_⟩
    have w_ := c55_ (S_.2.2.1 62 0 l_).toNat
    rw [g_.2 (3 * l_ + k_) (by omega)]
    exact wpt_cg (h_.2.2 k_ hk_) (by omega) (fun j_ hj_ => (g_.1 j_ (by omega)).1)
/-! Mapper.offer -/
end
/-! 99.zn7a -/
section
/-! ways by a cut; written by wip/p55/gen/vg -/

/-! all_ ways of_ a_ node -/
/-- only the_ two_ literals of_ node n_ have changed -/
def wfn (n_ : Nat) (S_ S'_ : sm_S) : Prop := (∀ j_, j_ ≠ 2 * n_ → j_ ≠ 2 * n_ + 1 → S'_.2.2.1 61 0 j_ = S_.2.2.1 61 0 j_ ∧ S'_.2.2.1 62 0 j_ = S_.2.2.1 62 0 j_ ∧ S'_.2.2.1 63 0 j_ = S_.2.2.1 63 0 j_) ∧ ∀ j_, (j_ < 6 * n_ ∨ 6 * n_ + 6 ≤ j_) → S'_.2.2.1 64 0 j_ = S_.2.2.1 64 0 j_
theorem wfn_rf {n_ : Nat} {S_ : sm_S} : wfn n_ S_ S_ := ⟨fun _ _ _ => ⟨rfl, rfl, rfl⟩, fun _ _ => rfl⟩
theorem wfn_tr {n_ : Nat} {S_ S'_ S2_ : sm_S} (h_ : wfn n_ S_ S'_) (g_ : wfn n_ S'_ S2_) : wfn n_ S_ S2_ := ⟨fun j_ h1_ h2_ => ⟨(g_.1 j_ h1_ h2_).1.trans (h_.1 j_ h1_ h2_).1, (g_.1 j_ h1_ h2_).2.1.trans (h_.1 j_ h1_ h2_).2.1, (g_.1 j_ h1_ h2_).2.2.trans (h_.1 j_ h1_ h2_).2.2⟩, fun j_ hj_ => (g_.2 j_ hj_).trans (h_.2 j_ hj_)⟩
theorem wfn_l {n_ l_ : Nat} {S_ S'_ : sm_S} (h_ : wfl l_ S_ S'_) (e_ : l_ = 2 * n_ ∨ l_ = 2 * n_ + 1) : wfn n_ S_ S'_ := ⟨fun j_ h1_ h2_ => h_.1 j_ (by omega), fun j_ hj_ => h_.2 j_ (by omega)⟩
theorem wfn_fr {w_ : sx_Wl} {n_ : Nat} {S_ S'_ : sm_S} (g_ : ai_fr (sx_W w_) S_ S'_) (a1_ : (sx_W w_).2.1 61 = false := by rfl) (a2_ : (sx_W w_).2.1 62 = false := by rfl) (a3_ : (sx_W w_).2.1 63 = false := by rfl) (a4_ : (sx_W w_).2.1 64 = false := by rfl) : wfn n_ S_ S'_ := ⟨fun j_ _ _ => ⟨(g_.2.2 61 a1_ 0 j_).1, (g_.2.2 62 a2_ 0 j_).1, (g_.2.2 63 a3_ 0 j_).1⟩, fun j_ _ => (g_.2.2 64 a4_ 0 j_).1⟩
/-- a_ literal's way_, whatever it_ is_ -/
def wok (F_ n_ : Int) (ll_ : Nat) (S_ : sm_S) (l_ m_ : Nat) : Prop := wo3 F_ n_ ll_ S_ l_ ∨ (S_.2.2.1 62 0 l_ = -2 ∧ S_.2.2.1 61 0 l_ < 268435456 ∧ S_.1 5 ll_ 2 ≠ -1 ∧ 0 ≤ S_.2.2.1 62 0 m_)
theorem wo3_fr {w_ : sx_Wl} {F_ n_ : Int} {ll_ l_ : Nat} {S_ S'_ : sm_S} (h_ : wo3 F_ n_ ll_ S_ l_) (g_ : ai_fr (sx_W w_) S_ S'_) (a1_ : (sx_W w_).2.1 61 = false := by rfl) (a2_ : (sx_W w_).2.1 62 = false := by rfl) (a3_ : (sx_W w_).2.1 63 = false := by rfl) (a4_ : (sx_W w_).2.1 64 = false := by rfl) (a5_ : (sx_W w_).2.1 55 = false := by rfl) (a6_ : (sx_W w_).2.1 59 = false := by rfl) (a7_ : (sx_W w_).2.1 60 = false := by rfl) (f5_ : (sx_W w_).1 5 2 = false := by rfl) : wo3 F_ n_ ll_ S'_ l_ := by
  unfold wo3
  rw [fr_arr g_ a1_, fr_arr g_ a2_, fr_arr g_ a3_, fr_arr g_ a4_, fr_arr g_ a5_, fr_arr g_ a6_, fr_arr g_ a7_, g_.1 5 ll_ 2 f5_]
  exact h_
/-! Mapper.tryCut -/
end
/-! 99.zn8a -/
section
/-! all ways of a node; written by wip/p55/gen/vg -/

theorem mkd_fr {w_ : sx_Wl} {dd_ F_ : Nat} {S_ S'_ : sm_S} (h_ : mkd dd_ F_ S_ (S_.2.2.1 59 0)) (g_ : ai_fr (sx_W w_) S_ S'_) (h2_ : (sx_W w_).1 3 2 = false := by rfl) (h3_ : (sx_W w_).1 3 3 = false := by rfl) (h4_ : (sx_W w_).1 3 4 = false := by rfl) (a1_ : (sx_W w_).2.1 42 = false := by rfl) (a2_ : (sx_W w_).2.1 43 = false := by rfl) (a3_ : (sx_W w_).2.1 44 = false := by rfl) (a4_ : (sx_W w_).2.1 45 = false := by rfl) (a5_ : (sx_W w_).2.1 46 = false := by rfl) (a6_ : (sx_W w_).2.1 59 = false := by rfl) : mkd dd_ F_ S'_ (S'_.2.2.1 59 0) := by
  unfold mkd srp rtv
  rw [g_.1 3 dd_ 2 h2_, g_.1 3 dd_ 3 h3_, g_.1 3 dd_ 4 h4_, fr_arr g_ a1_, fr_arr g_ a2_, fr_arr g_ a3_, fr_arr g_ a4_, fr_arr g_ a5_, fr_arr g_ a6_]
  exact h_
/-- a_ literal of_ node n_ gets the_ inverted way_ of_ the_ other -/
theorem wok_iv {F_ n_ : Int} {ll_ l_ m_ : Nat} {S_ : sm_S} {z_ : Int} (h_ : wo3 F_ n_ ll_ S_ l_) (g_ : wo3 F_ n_ ll_ S_ m_) (ne_ : m_ ≠ l_) (hl_ : 2 * n_ ≤ (l_ : Int)) (iv_ : S_.1 5 ll_ 2 ≠ -1) (hz_ : z_ < S_.2.2.1 61 0 l_) (hm_ : S_.2.2.1 61 0 m_ ≤ z_) (c61_ : S_.2.2.1 61 0 l_ ≤ 268435456) (c55_ : ∀ k_, S_.2.2.1 55 (0 + ll_) k_ ≤ 3) :
    wok F_ n_ ll_ (sm_aI (sm_aI S_ 61 0 l_ z_) 62 0 l_ (-2)) l_ m_ ∧ wok F_ n_ ll_ (sm_aI (sm_aI S_ 61 0 l_ z_) 62 0 l_ (-2)) m_ l_ ∧ wfl l_ S_ (sm_aI (sm_aI S_ 61 0 l_ z_) 62 0 l_ (-2)) := by
  have r61_ : ∀ j_, (sm_aI (sm_aI S_ 61 0 l_ z_) 62 0 l_ (-2)).2.2.1 61 0 j_ = if j_ = l_ then z_ else S_.2.2.1 61 0 j_ := fun j_ => by rw [rd_ne (by decide), rd_eq]
  have r62_ : ∀ j_, (sm_aI (sm_aI S_ 61 0 l_ z_) 62 0 l_ (-2)).2.2.1 62 0 j_ = if j_ = l_ then -2 else S_.2.2.1 62 0 j_ := fun j_ => by rw [rd_eq, rd_ne (by decide)]
  have w_ : wfl l_ S_ (sm_aI (sm_aI S_ 61 0 l_ z_) 62 0 l_ (-2)) := by
    refine ⟨fun j_ hj_ => ?_, fun j_ hj_ => ?_⟩
    · rw [r61_, r62_, if_neg hj_, if_neg hj_, rd_ne (by decide), rd_ne (by decide)]; exact ⟨rfl, rfl, rfl⟩
    · rw [rd_ne (by decide), rd_ne (by decide)]
  refine ⟨Or.inr ⟨by rw [r62_, if_pos rfl], by rw [r61_, if_pos rfl]; omega, iv_, ?_⟩, Or.inl (wo3_cg g_ w_ ne_ hl_ rfl (by rw [rd_ne_ (by decide), rd_ne_ (by decide)]) (by rw [rd_ne_ (by decide), rd_ne_ (by decide)]) (by rw [rd_ne_ (by decide), rd_ne_ (by decide)]) c55_), w_⟩
  rw [r62_, if_neg ne_]
  rcases g_ with g_ | g_
  · omega
  · exact g_.1
/-! Mapper.findWays -/
end
/-! 99.zn9a -/
section
/-! tasks; written by wip/p55/gen/vg -/

/-! nets to_ be_ made: tasks -/
/-- literal 2 x_ + t_ can_ be_ made -/
def lwy (f_ : Int) (c_ : Nat → Int) (x_ t_ : Int) : Prop := (x_ < f_ ∧ t_ = 0) ∨ (f_ ≤ x_ ∧ c_ (2 * x_ + t_).toNat ≠ -1)
/-- a_ task that can_ be_ done -/
def gtk (f_ N_ iv_ : Int) (u_ c_ : Nat → Int) (t_ : Int) : Prop := 3 ≤ t_ ∧ t_ < 3 * N_ ∧ u_ (t_ / 3).toNat = 1 ∧ ((t_ % 3 = 2 ∧ iv_ ≠ -1 ∧ lwy f_ c_ (t_ / 3) 0) ∨ (t_ % 3 ≤ 1 ∧ lwy f_ c_ (t_ / 3) (t_ % 3)))
/-- tasks below have lower ranks -/
def grk (c_ : Nat → Int) (t_ : Int) : Int := 3 * (t_ / 3) + if t_ % 3 = 2 then 2 else if c_ (2 * (t_ / 3) + t_ % 3).toNat = -2 then 1 else 0
def pno (c_ inp_ : Nat → Int) (t_ : Int) : Int := if t_ % 3 = 2 then 1 else if c_ (2 * (t_ / 3) + t_ % 3).toNat < 0 then 1 else inp_ (c_ (2 * (t_ / 3) + t_ % 3).toNat).toNat
def ptn (nd_ : Nat → Int) (t_ k_ : Int) : Int := nd_ (6 * (t_ / 3) + 3 * (t_ % 3) + k_).toNat
def ptv (f_ : Int) (r_ c_ tu_ nd_ : Nat → Int) (t_ k_ : Int) : Int := if t_ % 3 = 2 then 3 * (t_ / 3) else if c_ (2 * (t_ / 3) + t_ % 3).toNat < 0 then 3 * (t_ / 3) + 1 - t_ % 3 else 3 * ptn nd_ t_ k_ + (if ptn nd_ t_ k_ < f_ ∨ r_ (ptn nd_ t_ k_).toNat ≠ 0 then 2 * (i_shr (tu_ (2 * (t_ / 3) + t_ % 3).toNat) k_ % 2) else i_shr (tu_ (2 * (t_ / 3) + t_ % 3).toNat) k_ % 2)
/-- all_ ways are_ found -/
def wal (f_ N_ : Int) (ll_ : Nat) (S_ : sm_S) : Prop := ∀ n_ : Nat, f_ ≤ (n_ : Int) → (n_ : Int) < N_ → S_.2.2.1 59 0 n_ = 1 → wok f_ n_ ll_ S_ (2 * n_) (2 * n_ + 1) ∧ wok f_ n_ ll_ S_ (2 * n_ + 1) (2 * n_) ∧ imq (S_.2.2.1 60 0 n_ ≠ 0) (S_.2.2.1 61 0 (2 * n_) < 268435456)
theorem grk_b (c_ : Nat → Int) (t_ : Int) : 3 * (t_ / 3) ≤ grk c_ t_ ∧ grk c_ t_ ≤ 3 * (t_ / 3) + 2 := by
  unfold grk
  split
  · omega
  · split <;> omega
theorem wok_c {f_ n_ : Int} {ll_ l_ m_ : Nat} {S_ : sm_S} (h_ : wok f_ n_ ll_ S_ l_ m_) (g_ : S_.2.2.1 61 0 l_ < 268435456) : S_.2.2.1 62 0 l_ ≠ -1 := by
  rcases h_ with (h_ | h_) | h_
  · omega
  · omega
  · omega
theorem wal_c {f_ N_ : Int} {ll_ : Nat} {S_ : sm_S} (h_ : wal f_ N_ ll_ S_) {x_ t_ : Int} (hf_ : 1 ≤ f_) (h1_ : f_ ≤ x_) (h2_ : x_ < N_) (hu_ : S_.2.2.1 59 0 x_.toNat = 1) (ht_ : 0 ≤ t_ ∧ t_ ≤ 1) (hn_ : S_.2.2.1 61 0 (2 * x_ + t_).toNat < 268435456) : S_.2.2.1 62 0 (2 * x_ + t_).toNat ≠ -1 := by
  have w_ := h_ x_.toNat (by omega) (by omega) hu_
  have c_ : t_ = 0 ∨ t_ = 1 := by omega
  rcases c_ with c_ | c_
  · rw [show (2 * x_ + t_).toNat = 2 * x_.toNat by omega] at hn_ ⊢
    exact wok_c w_.1 hn_
  · rw [show (2 * x_ + t_).toNat = 2 * x_.toNat + 1 by omega] at hn_ ⊢
    exact wok_c w_.2.1 hn_
theorem wal_w {f_ N_ : Int} {ll_ : Nat} {S_ : sm_S} (h_ : wal f_ N_ ll_ S_) {x_ t_ : Int} (hf_ : 1 ≤ f_) (h1_ : f_ ≤ x_) (h2_ : x_ < N_) (hu_ : S_.2.2.1 59 0 x_.toNat = 1) (ht_ : 0 ≤ t_ ∧ t_ ≤ 1) : wok f_ x_ ll_ S_ (2 * x_ + t_).toNat (2 * x_ + 1 - t_).toNat := by
  have w_ := h_ x_.toNat (by omega) (by omega) hu_
  rw [show ((x_.toNat : Nat) : Int) = x_ by omega] at w_
  have c_ : t_ = 0 ∨ t_ = 1 := by omega
  rcases c_ with c_ | c_
  · rw [show (2 * x_ + t_).toNat = 2 * x_.toNat by omega, show (2 * x_ + 1 - t_).toNat = 2 * x_.toNat + 1 by omega]; exact w_.1
  · rw [show (2 * x_ + t_).toNat = 2 * x_.toNat + 1 by omega, show (2 * x_ + 1 - t_).toNat = 2 * x_.toNat by omega]; exact w_.2.1
/-- a_ part of_ a_ task can_ be_ done -/
theorem gtk_p {f_ N_ : Int} {ll_ : Nat} {S_ : sm_S} {t_ k_ : Int} (h_ : wal f_ N_ ll_ S_) (hf_ : 1 ≤ f_) (g_ : gtk f_ N_ (S_.1 5 ll_ 2) (S_.2.2.1 59 0) (S_.2.2.1 62 0) t_) (hi_ : ¬ (t_ / 3 < f_ ∧ t_ % 3 = 0)) (hk_ : 0 ≤ k_ ∧ k_ < pno (S_.2.2.1 62 0) (S_.2.2.1 55 (0 + ll_)) t_) :
    gtk f_ N_ (S_.1 5 ll_ 2) (S_.2.2.1 59 0) (S_.2.2.1 62 0) (ptv f_ (S_.2.2.1 60 0) (S_.2.2.1 62 0) (S_.2.2.1 63 0) (S_.2.2.1 64 0) t_ k_) ∧ grk (S_.2.2.1 62 0) (ptv f_ (S_.2.2.1 60 0) (S_.2.2.1 62 0) (S_.2.2.1 63 0) (S_.2.2.1 64 0) t_ k_) < grk (S_.2.2.1 62 0) t_ := by
  obtain ⟨g1_, g2_, g3_, g4_⟩ := g_
  rcases g4_ with ⟨g4_, g5_, g6_⟩ | ⟨g4_, g6_⟩
  · have e_ : ptv f_ (S_.2.2.1 60 0) (S_.2.2.1 62 0) (S_.2.2.1 63 0) (S_.2.2.1 64 0) t_ k_ = 3 * (t_ / 3) := by unfold ptv; rw [if_pos g4_]
    rw [e_]
    refine ⟨⟨by omega, by omega, by rw [show 3 * (t_ / 3) / 3 = t_ / 3 by omega]; exact g3_, Or.inr ⟨by omega, by rw [show 3 * (t_ / 3) / 3 = t_ / 3 by omega, show 3 * (t_ / 3) % 3 = 0 by omega]; exact g6_⟩⟩, ?_⟩
    have r1_ : grk (S_.2.2.1 62 0) t_ = 3 * (t_ / 3) + 2 := by unfold grk; rw [if_pos g4_]
    rw [r1_]
    unfold grk
    rw [if_neg (by omega)]
    split <;> omega
  · have g7_ : f_ ≤ t_ / 3 ∧ S_.2.2.1 62 0 (2 * (t_ / 3) + t_ % 3).toNat ≠ -1 := by
      rcases g6_ with g6_ | g6_
      · exact absurd g6_ hi_
      · exact g6_
    have g8_ := wal_w h_ hf_ g7_.1 (by omega) g3_ (t_ := t_ % 3) (by omega)
    have n2_ : ¬ t_ % 3 = 2 := by omega
    rcases g8_ with (g8_ | g8_) | g8_
    · exact absurd g8_.1 g7_.2
    · have nc : ¬ S_.2.2.1 62 0 (2 * (t_ / 3) + t_ % 3).toNat < 0 := by have := g8_.1; omega
      unfold pno at hk_
      rw [if_neg n2_, if_neg nc] at hk_
      have p_ := g8_.2.2 k_.toNat (by omega)
      rw [show 3 * (2 * (t_ / 3) + t_ % 3).toNat + k_.toNat = (6 * (t_ / 3) + 3 * (t_ % 3) + k_).toNat by omega, show ((k_.toNat : Nat) : Int) = k_ by omega] at p_
      have e_ : ptv f_ (S_.2.2.1 60 0) (S_.2.2.1 62 0) (S_.2.2.1 63 0) (S_.2.2.1 64 0) t_ k_ = 3 * ptn (S_.2.2.1 64 0) t_ k_ + (if ptn (S_.2.2.1 64 0) t_ k_ < f_ ∨ S_.2.2.1 60 0 (ptn (S_.2.2.1 64 0) t_ k_).toNat ≠ 0 then 2 * (i_shr (S_.2.2.1 63 0 (2 * (t_ / 3) + t_ % 3).toNat) k_ % 2) else i_shr (S_.2.2.1 63 0 (2 * (t_ / 3) + t_ % 3).toNat) k_ % 2) := by unfold ptv; rw [if_neg n2_, if_neg nc]
      rw [e_]
      obtain ⟨x_, hx_⟩ : ∃ x_, x_ = ptn (S_.2.2.1 64 0) t_ k_ := ⟨_, rfl⟩
      obtain ⟨b_, hb_⟩ : ∃ b_, b_ = i_shr (S_.2.2.1 63 0 (2 * (t_ / 3) + t_ % 3).toNat) k_ % 2 := ⟨_, rfl⟩
      unfold ptn at hx_
      rw [← hx_, ← hb_] at p_
      unfold ptn
      rw [← hx_, ← hb_]
      have b1_ : b_ = 0 ∨ b_ = 1 := by omega
      obtain ⟨⟨p1_, p2_, p3_⟩, p4_, p5_⟩ := p_
      have rk_ : grk (S_.2.2.1 62 0) t_ ≥ 3 * (t_ / 3) := (grk_b _ _).1
      by_cases lf_ : x_ < f_ ∨ S_.2.2.1 60 0 x_.toNat ≠ 0
      · rw [if_pos lf_]
        have d1_ : (3 * x_ + 2 * b_) / 3 = x_ := by omega
        have lw_ : lwy f_ (S_.2.2.1 62 0) x_ 0 := by
          by_cases xf_ : x_ < f_
          · exact Or.inl ⟨xf_, rfl⟩
          · right
            have rt_ : S_.2.2.1 60 0 x_.toNat ≠ 0 := lf_.resolve_left xf_
            have w_ := (h_ x_.toNat (by omega) (by omega) p3_).2.2 rt_
            refine ⟨by omega, wal_c h_ hf_ (by omega) (by omega) p3_ (by omega) ?_⟩
            rw [show (2 * x_ + 0).toNat = 2 * x_.toNat by omega]; exact w_
        refine ⟨⟨by omega, by omega, by rw [d1_]; exact p3_, ?_⟩, ?_⟩
        · rw [d1_]
          rcases b1_ with b1_ | b1_
          · right
            rw [show (3 * x_ + 2 * b_) % 3 = 0 by omega]
            exact ⟨by decide, lw_⟩
          · left
            exact ⟨by omega, p4_ ⟨lf_, by omega⟩, lw_⟩
        · have q_ := (grk_b (S_.2.2.1 62 0) (3 * x_ + 2 * b_)).2
          rw [d1_] at q_
          omega
      · rw [if_neg lf_]
        have d1_ : (3 * x_ + b_) / 3 = x_ := by omega
        have d2_ : (3 * x_ + b_) % 3 = b_ := by omega
        have xf_ : f_ ≤ x_ ∧ S_.2.2.1 60 0 x_.toNat = 0 := by omega
        have w_ := p5_ xf_
        refine ⟨⟨by omega, by omega, by rw [d1_]; exact p3_, Or.inr ?_⟩, ?_⟩
        · rw [d1_, d2_]
          exact ⟨by omega, Or.inr ⟨xf_.1, wal_c h_ hf_ xf_.1 (by omega) p3_ (by omega) w_⟩⟩
        · have q_ := (grk_b (S_.2.2.1 62 0) (3 * x_ + b_)).2
          rw [d1_] at q_
          omega
    · have nc : S_.2.2.1 62 0 (2 * (t_ / 3) + t_ % 3).toNat < 0 := by have := g8_.1; omega
      have e_ : ptv f_ (S_.2.2.1 60 0) (S_.2.2.1 62 0) (S_.2.2.1 63 0) (S_.2.2.1 64 0) t_ k_ = 3 * (t_ / 3) + 1 - t_ % 3 := by unfold ptv; rw [if_neg n2_, if_pos nc]
      rw [e_]
      have d1_ : (3 * (t_ / 3) + 1 - t_ % 3) / 3 = t_ / 3 := by omega
      have d2_ : (3 * (t_ / 3) + 1 - t_ % 3) % 3 = 1 - t_ % 3 := by omega
      have w_ := g8_.2.2.2
      have iw_ : 2 * (t_ / 3) + (1 - t_ % 3) = 2 * (t_ / 3) + 1 - t_ % 3 := by omega
      refine ⟨⟨by omega, by omega, by rw [d1_]; exact g3_, Or.inr ⟨by omega, by rw [d1_, d2_]; exact Or.inr ⟨g7_.1, by rw [iw_]; omega⟩⟩⟩, ?_⟩
      have r1_ : grk (S_.2.2.1 62 0) t_ = 3 * (t_ / 3) + 1 := by unfold grk; rw [if_neg n2_, if_pos g8_.1]
      rw [r1_]
      unfold grk
      rw [d1_, d2_, iw_, if_neg (by omega), if_neg (by omega)]
      omega
theorem wok_fr {w_ : sx_Wl} {F_ n_ : Int} {ll_ l_ m_ : Nat} {S_ S'_ : sm_S} (h_ : wok F_ n_ ll_ S_ l_ m_) (g_ : ai_fr (sx_W w_) S_ S'_) (a1_ : (sx_W w_).2.1 61 = false := by rfl) (a2_ : (sx_W w_).2.1 62 = false := by rfl) (a3_ : (sx_W w_).2.1 63 = false := by rfl) (a4_ : (sx_W w_).2.1 64 = false := by rfl) (a5_ : (sx_W w_).2.1 55 = false := by rfl) (a6_ : (sx_W w_).2.1 59 = false := by rfl) (a7_ : (sx_W w_).2.1 60 = false := by rfl) (f5_ : (sx_W w_).1 5 2 = false := by rfl) : wok F_ n_ ll_ S'_ l_ m_ := by
  rcases h_ with h_ | h_
  · exact Or.inl (wo3_fr h_ g_ a1_ a2_ a3_ a4_ a5_ a6_ a7_ f5_)
  · right
    rw [fr_arr g_ a1_, fr_arr g_ a2_, g_.1 5 ll_ 2 f5_]
    exact h_
theorem wal_fr {w_ : sx_Wl} {f_ N_ : Int} {ll_ : Nat} {S_ S'_ : sm_S} (h_ : wal f_ N_ ll_ S_) (g_ : ai_fr (sx_W w_) S_ S'_) (a1_ : (sx_W w_).2.1 61 = false := by rfl) (a2_ : (sx_W w_).2.1 62 = false := by rfl) (a3_ : (sx_W w_).2.1 63 = false := by rfl) (a4_ : (sx_W w_).2.1 64 = false := by rfl) (a5_ : (sx_W w_).2.1 55 = false := by rfl) (a6_ : (sx_W w_).2.1 59 = false := by rfl) (a7_ : (sx_W w_).2.1 60 = false := by rfl) (f5_ : (sx_W w_).1 5 2 = false := by rfl) : wal f_ N_ ll_ S'_ := fun n_ h1_ h2_ h3_ => by
  rw [fr_arr g_ a6_] at h3_
  have q_ := h_ n_ h1_ h2_ h3_
  rw [fr_arr g_ a7_, fr_arr g_ a1_]
  exact ⟨wok_fr q_.1 g_ a1_ a2_ a3_ a4_ a5_ a6_ a7_ f5_, wok_fr q_.2.1 g_ a1_ a2_ a3_ a4_ a5_ a6_ a7_ f5_, q_.2.2⟩
/-! Mapper.partsOf -/
def vw_111 : sx_Wl := ([], [], [])
def vq_111 (a1_ : Int) (ll_ : Nat) (S0_ : sm_S) (u_ : Option sm_V) (S1_ : sm_S) : Prop := S0_ = S1_ ∧ ∃ v_ : Int, u_ = some (.inl v_) ∧ (v_ = pno (S0_.2.2.1 62 0) (S0_.2.2.1 55 (0 + ll_)) a1_ ∧ 0 ≤ v_ ∧ v_ ≤ 3)
set_option maxHeartbeats 400000 in
theorem vc_111 {sc_ : Nat × (Nat → Int)} (a1_ : Int) (ll_ : Nat) (S0_ : sm_S) (hI_ : gi S0_) (hc_ : S0_.2.1 6 0 1 = some ll_) (h1_ : 0 ≤ a1_ ∧ a1_ ≤ 3038) : sm_T (mt_P sc_) 0 111 (0, [some (.inr (.inr (some (6, 0)))), some (.inl a1_), none], [], S0_) (fun ro9_ => ∃ u_ S1_, ro9_ = (.inl u_, S1_, 0) ∧ vq_111 a1_ ll_ S0_ u_ S1_) := by
  have hF_ : ai_fr (sx_W vw_111) S0_ S0_ := ai_fr_rf
  refine sm_T_go 2 (c1 := (2, [some (.inr (.inr (some (6, 0)))), some (.inl a1_), none], [.inl 3, .inl a1_], S0_)) rfl ?_
  refine sm_T_bin (w := (a1_ % 3)) rfl (bi_rem (by omega) (by omega) (by omega) (by omega)) ?_ -- pc_ 2
  refine sm_T_go 1 (c1 := (4, [some (.inr (.inr (some (6, 0)))), some (.inl a1_), none], [.inl 2, .inl (a1_ % 3)], S0_)) rfl ?_
  refine sm_T_br (a := 1) (z := 8) rfl (fun cx1_ => ?_) (fun cx1_ => ?_)
  · have cx1_ : (a1_ % 3) ≠ 2 := of_decide_eq_true cx1_
    refine sm_T_go 5 (c1 := (19, [some (.inr (.inr (some (6, 0)))), some (.inl a1_), none], [.inl 3, .inl a1_, .inl 2, .inr (.inr (some (62, 0)))], S0_)) rfl ?_
    refine sm_T_bin (w := (a1_ / 3)) rfl (bi_div (by omega) (by omega) (by omega) (by omega)) ?_ -- pc_ 19
    refine sm_T_bin (w := 2 * (a1_ / 3)) rfl (bi_mul (by omega) (by omega) (by omega)) ?_ -- pc_ 20
    refine sm_T_go 2 (c1 := (23, [some (.inr (.inr (some (6, 0)))), some (.inl a1_), none], [.inl 3, .inl a1_, .inl (2 * (a1_ / 3)), .inr (.inr (some (62, 0)))], S0_)) rfl ?_
    refine sm_T_bin (w := (a1_ % 3)) rfl (bi_rem (by omega) (by omega) (by omega) (by omega)) ?_ -- pc_ 23
    refine sm_T_bin (w := 2 * (a1_ / 3) + (a1_ % 3)) rfl (bi_add (by omega) (by omega) (by omega)) ?_ -- pc_ 24
    refine sm_T_iald (n := 2026) rfl rfl (by omega) (by omega) ?_
    have bx2_ : (-2) ≤ S0_.2.2.1 62 0 (2 * (a1_ / 3) + (a1_ % 3)).toNat ∧ S0_.2.2.1 62 0 (2 * (a1_ / 3) + (a1_ % 3)).toNat ≤ 11 := hI_.2 62 0 _
    refine sm_T_go 2 (c1 := (28, [some (.inr (.inr (some (6, 0)))), some (.inl a1_), some (.inl (S0_.2.2.1 62 0 (2 * (a1_ / 3) + (a1_ % 3)).toNat))], [.inl (S0_.2.2.1 62 0 (2 * (a1_ / 3) + (a1_ % 3)).toNat)], S0_)) rfl ?_
    refine sm_T_b0 (a := 3) (z := 7) rfl (fun cx3_ => ?_) (fun cx3_ => ?_)
    · have cx3_ : 0 ≤ (S0_.2.2.1 62 0 (2 * (a1_ / 3) + (a1_ % 3)).toNat) := of_decide_eq_true cx3_
      refine sm_T_go 1 (c1 := (36, [some (.inr (.inr (some (6, 0)))), some (.inl a1_), some (.inl (S0_.2.2.1 62 0 (2 * (a1_ / 3) + (a1_ % 3)).toNat))], [.inr (.inr (some (6, 0)))], S0_)) rfl ?_
      refine sm_T_gr rfl rfl ((hF_.2.1 6 0 1 rfl).trans hc_) ?_
      refine sm_T_go 2 (c1 := (43, [some (.inr (.inr (some (6, 0)))), some (.inl a1_), some (.inl (S0_.2.2.1 62 0 (2 * (a1_ / 3) + (a1_ % 3)).toNat))], [.inl (S0_.2.2.1 62 0 (2 * (a1_ / 3) + (a1_ % 3)).toNat), .inr (.inr (some (55, (0 + ll_))))], S0_)) rfl ?_
      refine sm_T_iald (n := 12) rfl rfl (by omega) (by omega) ?_
      have bx4_ : 0 ≤ S0_.2.2.1 55 (0 + ll_) (S0_.2.2.1 62 0 (2 * (a1_ / 3) + (a1_ % 3)).toNat).toNat ∧ S0_.2.2.1 55 (0 + ll_) (S0_.2.2.1 62 0 (2 * (a1_ / 3) + (a1_ % 3)).toNat).toNat ≤ 3 := hI_.2 55 (0 + ll_) _
      refine sm_T_ri rfl ⟨_, _, rfl, rfl, _, rfl, ?_⟩
      refine ⟨?_, by omega⟩
      unfold pno
      first | (rw [if_pos (by omega)]) | (rw [if_neg (by omega), if_pos (by omega)]) | (rw [if_neg (by omega), if_neg (by omega)])
    · have cx3_ : ¬ (0 ≤ (S0_.2.2.1 62 0 (2 * (a1_ / 3) + (a1_ % 3)).toNat)) := of_decide_eq_false cx3_
      refine sm_T_go 2 (c1 := (44, [some (.inr (.inr (some (6, 0)))), some (.inl a1_), some (.inl (S0_.2.2.1 62 0 (2 * (a1_ / 3) + (a1_ % 3)).toNat))], [.inl 1], S0_)) rfl ?_
      refine sm_T_ri rfl ⟨_, _, rfl, rfl, _, rfl, ?_⟩
      refine ⟨?_, by omega⟩
      unfold pno
      first | (rw [if_pos (by omega)]) | (rw [if_neg (by omega), if_pos (by omega)]) | (rw [if_neg (by omega), if_neg (by omega)])
  · have cx1_ : ¬ ((a1_ % 3) ≠ 2) := of_decide_eq_false cx1_
    refine sm_T_go 7 (c1 := (44, [some (.inr (.inr (some (6, 0)))), some (.inl a1_), some (.inl (-2))], [.inl 1], S0_)) rfl ?_
    refine sm_T_ri rfl ⟨_, _, rfl, rfl, _, rfl, ?_⟩
    refine ⟨?_, by omega⟩
    unfold pno
    first | (rw [if_pos (by omega)]) | (rw [if_neg (by omega), if_pos (by omega)]) | (rw [if_neg (by omega), if_neg (by omega)])
end
/-! 99.zn9b -/
section
/-! Mapper.partAt -/
def vw_112 : sx_Wl := ([], [], [])
def vq_112 (a1_ : Int) (k_ : Int) (dd_ : Nat) (S0_ : sm_S) (u_ : Option sm_V) (S1_ : sm_S) : Prop := S0_ = S1_ ∧ ∃ v_ : Int, u_ = some (.inl v_) ∧ (v_ = ptv (1 + S0_.1 3 dd_ 1 + S0_.1 3 dd_ 2) (S0_.2.2.1 60 0) (S0_.2.2.1 62 0) (S0_.2.2.1 63 0) (S0_.2.2.1 64 0) a1_ k_)
set_option maxHeartbeats 400000 in
theorem vc_112 {sc_ : Nat × (Nat → Int)} (a1_ : Int) (k_ : Int) (dd_ : Nat) (S0_ : sm_S) (hI_ : gi S0_) (hd_ : S0_.2.1 6 0 0 = some dd_) (h1_ : 0 ≤ a1_ ∧ a1_ ≤ 3038) (h2_ : 0 ≤ k_ ∧ k_ ≤ 2) : sm_T (mt_P sc_) 2 112 (0, [some (.inr (.inr (some (6, 0)))), some (.inl a1_), some (.inl k_), none, none, none, none, none], [], S0_) (fun ro9_ => ∃ u_ S1_, ro9_ = (.inl u_, S1_, 0) ∧ vq_112 a1_ k_ dd_ S0_ u_ S1_) := by
  have hF_ : ai_fr (sx_W vw_112) S0_ S0_ := ai_fr_rf
  refine sm_T_go 2 (c1 := (2, [some (.inr (.inr (some (6, 0)))), some (.inl a1_), some (.inl k_), none, none, none, none, none], [.inl 3, .inl a1_], S0_)) rfl ?_
  refine sm_T_bin (w := (a1_ / 3)) rfl (bi_div (by omega) (by omega) (by omega) (by omega)) ?_ -- pc_ 2
  refine sm_T_go 3 (c1 := (6, [some (.inr (.inr (some (6, 0)))), some (.inl a1_), some (.inl k_), some (.inl (a1_ / 3)), none, none, none, none], [.inl 3, .inl a1_], S0_)) rfl ?_
  refine sm_T_bin (w := (a1_ % 3)) rfl (bi_rem (by omega) (by omega) (by omega) (by omega)) ?_ -- pc_ 6
  refine sm_T_go 3 (c1 := (12, [some (.inr (.inr (some (6, 0)))), some (.inl a1_), some (.inl k_), some (.inl (a1_ / 3)), some (.inl (a1_ % 3)), none, none, none], [.inl 2, .inl (a1_ % 3)], S0_)) rfl ?_
  refine sm_T_br (a := 1) (z := 7) rfl (fun cx1_ => ?_) (fun cx1_ => ?_)
  · have cx1_ : (a1_ % 3) ≠ 2 := of_decide_eq_true cx1_
    refine sm_T_go 2 (c1 := (21, [some (.inr (.inr (some (6, 0)))), some (.inl a1_), some (.inl k_), some (.inl (a1_ / 3)), some (.inl (a1_ % 3)), none, none, none], [.inl (a1_ / 3), .inl 2], S0_)) rfl ?_
    refine sm_T_bin (w := 2 * (a1_ / 3)) rfl (bi_mul (by omega) (by omega) (by omega)) ?_ -- pc_ 21
    refine sm_T_go 1 (c1 := (24, [some (.inr (.inr (some (6, 0)))), some (.inl a1_), some (.inl k_), some (.inl (a1_ / 3)), some (.inl (a1_ % 3)), none, none, none], [.inl (a1_ % 3), .inl (2 * (a1_ / 3))], S0_)) rfl ?_
    refine sm_T_bin (w := 2 * (a1_ / 3) + (a1_ % 3)) rfl (bi_add (by omega) (by omega) (by omega)) ?_ -- pc_ 24
    refine sm_T_go 4 (c1 := (33, [some (.inr (.inr (some (6, 0)))), some (.inl a1_), some (.inl k_), some (.inl (a1_ / 3)), some (.inl (a1_ % 3)), some (.inl (2 * (a1_ / 3) + (a1_ % 3))), none, none], [.inl (2 * (a1_ / 3) + (a1_ % 3)), .inr (.inr (some (62, 0)))], S0_)) rfl ?_
    refine sm_T_iald (n := 2026) rfl rfl (by omega) (by omega) ?_
    have bx2_ : (-2) ≤ S0_.2.2.1 62 0 (2 * (a1_ / 3) + (a1_ % 3)).toNat ∧ S0_.2.2.1 62 0 (2 * (a1_ / 3) + (a1_ % 3)).toNat ≤ 11 := hI_.2 62 0 _
    refine sm_T_b0 (a := 3) (z := 12) rfl (fun cx3_ => ?_) (fun cx3_ => ?_)
    · have cx3_ : 0 ≤ (S0_.2.2.1 62 0 (2 * (a1_ / 3) + (a1_ % 3)).toNat) := of_decide_eq_true cx3_
      refine sm_T_go 4 (c1 := (53, [some (.inr (.inr (some (6, 0)))), some (.inl a1_), some (.inl k_), some (.inl (a1_ / 3)), some (.inl (a1_ % 3)), some (.inl (2 * (a1_ / 3) + (a1_ % 3))), none, none], [.inl (2 * (a1_ / 3) + (a1_ % 3)), .inl 3, .inr (.inr (some (64, 0)))], S0_)) rfl ?_
      refine sm_T_bin (w := 6 * (a1_ / 3) + 3 * (a1_ % 3)) rfl (bi_mul (by omega) (by omega) (by omega)) ?_ -- pc_ 53
      refine sm_T_go 1 (c1 := (55, [some (.inr (.inr (some (6, 0)))), some (.inl a1_), some (.inl k_), some (.inl (a1_ / 3)), some (.inl (a1_ % 3)), some (.inl (2 * (a1_ / 3) + (a1_ % 3))), none, none], [.inl k_, .inl (6 * (a1_ / 3) + 3 * (a1_ % 3)), .inr (.inr (some (64, 0)))], S0_)) rfl ?_
      refine sm_T_bin (w := 6 * (a1_ / 3) + 3 * (a1_ % 3) + k_) rfl (bi_add (by omega) (by omega) (by omega)) ?_ -- pc_ 55
      refine sm_T_iald (n := 6078) rfl rfl (by omega) (by omega) ?_
      have bx4_ : 0 ≤ S0_.2.2.1 64 0 (6 * (a1_ / 3) + 3 * (a1_ % 3) + k_).toNat ∧ S0_.2.2.1 64 0 (6 * (a1_ / 3) + 3 * (a1_ % 3) + k_).toNat ≤ 1012 := hI_.2 64 0 _
      refine sm_T_go 4 (c1 := (65, [some (.inr (.inr (some (6, 0)))), some (.inl a1_), some (.inl k_), some (.inl (a1_ / 3)), some (.inl (a1_ % 3)), some (.inl (2 * (a1_ / 3) + (a1_ % 3))), some (.inl (S0_.2.2.1 64 0 (6 * (a1_ / 3) + 3 * (a1_ % 3) + k_).toNat)), none], [.inl (2 * (a1_ / 3) + (a1_ % 3)), .inr (.inr (some (63, 0)))], S0_)) rfl ?_
      refine sm_T_iald (n := 2026) rfl rfl (by omega) (by omega) ?_
      have bx5_ : 0 ≤ S0_.2.2.1 63 0 (2 * (a1_ / 3) + (a1_ % 3)).toNat ∧ S0_.2.2.1 63 0 (2 * (a1_ / 3) + (a1_ % 3)).toNat ≤ 15 := hI_.2 63 0 _
      refine sm_T_go 1 (c1 := (67, [some (.inr (.inr (some (6, 0)))), some (.inl a1_), some (.inl k_), some (.inl (a1_ / 3)), some (.inl (a1_ % 3)), some (.inl (2 * (a1_ / 3) + (a1_ % 3))), some (.inl (S0_.2.2.1 64 0 (6 * (a1_ / 3) + 3 * (a1_ % 3) + k_).toNat)), none], [.inl k_, .inl (S0_.2.2.1 63 0 (2 * (a1_ / 3) + (a1_ % 3)).toNat)], S0_)) rfl ?_
      refine sm_T_bin (w := (i_shr (S0_.2.2.1 63 0 (2 * (a1_ / 3) + (a1_ % 3)).toNat) k_)) rfl rfl ?_ -- pc_ 67
      have bx6_ := i_shr_p (x_ := (S0_.2.2.1 63 0 (2 * (a1_ / 3) + (a1_ % 3)).toNat)) (e_ := k_) (by omega) (by omega) (by omega)
      refine sm_T_go 1 (c1 := (69, [some (.inr (.inr (some (6, 0)))), some (.inl a1_), some (.inl k_), some (.inl (a1_ / 3)), some (.inl (a1_ % 3)), some (.inl (2 * (a1_ / 3) + (a1_ % 3))), some (.inl (S0_.2.2.1 64 0 (6 * (a1_ / 3) + 3 * (a1_ % 3) + k_).toNat)), none], [.inl 1, .inl (i_shr (S0_.2.2.1 63 0 (2 * (a1_ / 3) + (a1_ % 3)).toNat) k_)], S0_)) rfl ?_
      refine sm_T_bin (w := ((i_shr (S0_.2.2.1 63 0 (2 * (a1_ / 3) + (a1_ % 3)).toNat) k_) % 2)) rfl (bi_msk (k := 1) (by decide)) ?_ -- pc_ 69
      refine sm_T_go 3 (c1 := (75, [some (.inr (.inr (some (6, 0)))), some (.inl a1_), some (.inl k_), some (.inl (a1_ / 3)), some (.inl (a1_ % 3)), some (.inl (2 * (a1_ / 3) + (a1_ % 3))), some (.inl (S0_.2.2.1 64 0 (6 * (a1_ / 3) + 3 * (a1_ % 3) + k_).toNat)), some (.inl ((i_shr (S0_.2.2.1 63 0 (2 * (a1_ / 3) + (a1_ % 3)).toNat) k_) % 2))], [.inl (S0_.2.2.1 64 0 (6 * (a1_ / 3) + 3 * (a1_ % 3) + k_).toNat), .inl 3], S0_)) rfl ?_
      refine sm_T_bin (w := 3 * (S0_.2.2.1 64 0 (6 * (a1_ / 3) + 3 * (a1_ % 3) + k_).toNat)) rfl (bi_mul (by omega) (by omega) (by omega)) ?_ -- pc_ 75
      refine sm_T_go 2 (c1 := (79, [some (.inr (.inr (some (6, 0)))), some (.inl a1_), some (.inl k_), some (.inl (a1_ / 3)), some (.inl (a1_ % 3)), some (.inl (2 * (a1_ / 3) + (a1_ % 3))), some (.inl (S0_.2.2.1 64 0 (6 * (a1_ / 3) + 3 * (a1_ % 3) + k_).toNat)), some (.inl ((i_shr (S0_.2.2.1 63 0 (2 * (a1_ / 3) + (a1_ % 3)).toNat) k_) % 2))], [.inl (S0_.2.2.1 64 0 (6 * (a1_ / 3) + 3 * (a1_ % 3) + k_).toNat), .inr (.inr (some (6, 0))), .inl (3 * (S0_.2.2.1 64 0 (6 * (a1_ / 3) + 3 * (a1_ % 3) + k_).toNat))], S0_)) rfl ?_
      refine sm_T_cal (d1 := 1) (Q1 := vq_94 (S0_.2.2.1 64 0 (6 * (a1_ / 3) + 3 * (a1_ % 3) + k_).toNat) dd_ S0_) rfl rfl (by decide) (vc_94 (S0_.2.2.1 64 0 (6 * (a1_ / 3) + 3 * (a1_ % 3) + k_).toNat) dd_ S0_ hI_ (by exact hd_) (by omega)) (fun u_ Sx7_ px10_ => ?_)
      obtain ⟨rfl, vx12_, rfl, px10_⟩ := px10_
      have lf9_ := px10_
      refine sm_T_b0 (a := 0) (z := 10) rfl (fun cx13_ => ?_) (fun cx13_ => ?_)
      · have cx13_ : vx12_ = 0 := of_decide_eq_true cx13_
        refine sm_T_go 1 (c1 := (94, [some (.inr (.inr (some (6, 0)))), some (.inl a1_), some (.inl k_), some (.inl (a1_ / 3)), some (.inl (a1_ % 3)), some (.inl (2 * (a1_ / 3) + (a1_ % 3))), some (.inl (S0_.2.2.1 64 0 (6 * (a1_ / 3) + 3 * (a1_ % 3) + k_).toNat)), some (.inl ((i_shr (S0_.2.2.1 63 0 (2 * (a1_ / 3) + (a1_ % 3)).toNat) k_) % 2))], [.inl ((i_shr (S0_.2.2.1 63 0 (2 * (a1_ / 3) + (a1_ % 3)).toNat) k_) % 2), .inl (3 * (S0_.2.2.1 64 0 (6 * (a1_ / 3) + 3 * (a1_ % 3) + k_).toNat))], S0_)) rfl ?_
        refine sm_T_bin (w := 3 * (S0_.2.2.1 64 0 (6 * (a1_ / 3) + 3 * (a1_ % 3) + k_).toNat) + ((i_shr (S0_.2.2.1 63 0 (2 * (a1_ / 3) + (a1_ % 3)).toNat) k_) % 2)) rfl (bi_add (by omega) (by omega) (by omega)) ?_ -- pc_ 94
        refine sm_T_ri rfl ⟨_, _, rfl, rfl, _, rfl, ?_⟩
        unfold ptv ptn
        rw [if_neg (by omega), if_neg (by omega)]
        first | (rw [if_pos (by omega)]) | (rw [if_neg (by omega)])
      · have cx13_ : ¬ (vx12_ = 0) := of_decide_eq_false cx13_
        refine sm_T_go 2 (c1 := (88, [some (.inr (.inr (some (6, 0)))), some (.inl a1_), some (.inl k_), some (.inl (a1_ / 3)), some (.inl (a1_ % 3)), some (.inl (2 * (a1_ / 3) + (a1_ % 3))), some (.inl (S0_.2.2.1 64 0 (6 * (a1_ / 3) + 3 * (a1_ % 3) + k_).toNat)), some (.inl ((i_shr (S0_.2.2.1 63 0 (2 * (a1_ / 3) + (a1_ % 3)).toNat) k_) % 2))], [.inl ((i_shr (S0_.2.2.1 63 0 (2 * (a1_ / 3) + (a1_ % 3)).toNat) k_) % 2), .inl 2, .inl (3 * (S0_.2.2.1 64 0 (6 * (a1_ / 3) + 3 * (a1_ % 3) + k_).toNat))], S0_)) rfl ?_
        refine sm_T_bin (w := 2 * ((i_shr (S0_.2.2.1 63 0 (2 * (a1_ / 3) + (a1_ % 3)).toNat) k_) % 2)) rfl (bi_mul (by omega) (by omega) (by omega)) ?_ -- pc_ 88
        refine sm_T_go 1 (c1 := (94, [some (.inr (.inr (some (6, 0)))), some (.inl a1_), some (.inl k_), some (.inl (a1_ / 3)), some (.inl (a1_ % 3)), some (.inl (2 * (a1_ / 3) + (a1_ % 3))), some (.inl (S0_.2.2.1 64 0 (6 * (a1_ / 3) + 3 * (a1_ % 3) + k_).toNat)), some (.inl ((i_shr (S0_.2.2.1 63 0 (2 * (a1_ / 3) + (a1_ % 3)).toNat) k_) % 2))], [.inl (2 * ((i_shr (S0_.2.2.1 63 0 (2 * (a1_ / 3) + (a1_ % 3)).toNat) k_) % 2)), .inl (3 * (S0_.2.2.1 64 0 (6 * (a1_ / 3) + 3 * (a1_ % 3) + k_).toNat))], S0_)) rfl ?_
        refine sm_T_bin (w := 3 * (S0_.2.2.1 64 0 (6 * (a1_ / 3) + 3 * (a1_ % 3) + k_).toNat) + 2 * ((i_shr (S0_.2.2.1 63 0 (2 * (a1_ / 3) + (a1_ % 3)).toNat) k_) % 2)) rfl (bi_add (by omega) (by omega) (by omega)) ?_ -- pc_ 94
        refine sm_T_ri rfl ⟨_, _, rfl, rfl, _, rfl, ?_⟩
        unfold ptv ptn
        rw [if_neg (by omega), if_neg (by omega)]
        first | (rw [if_pos (by omega)]) | (rw [if_neg (by omega)])
    · have cx3_ : ¬ (0 ≤ (S0_.2.2.1 62 0 (2 * (a1_ / 3) + (a1_ % 3)).toNat)) := of_decide_eq_false cx3_
      refine sm_T_go 2 (c1 := (39, [some (.inr (.inr (some (6, 0)))), some (.inl a1_), some (.inl k_), some (.inl (a1_ / 3)), some (.inl (a1_ % 3)), some (.inl (2 * (a1_ / 3) + (a1_ % 3))), none, none], [.inl (a1_ / 3), .inl 3], S0_)) rfl ?_
      refine sm_T_bin (w := 3 * (a1_ / 3)) rfl (bi_mul (by omega) (by omega) (by omega)) ?_ -- pc_ 39
      refine sm_T_go 1 (c1 := (41, [some (.inr (.inr (some (6, 0)))), some (.inl a1_), some (.inl k_), some (.inl (a1_ / 3)), some (.inl (a1_ % 3)), some (.inl (2 * (a1_ / 3) + (a1_ % 3))), none, none], [.inl 1, .inl (3 * (a1_ / 3))], S0_)) rfl ?_
      refine sm_T_bin (w := 3 * (a1_ / 3) + 1) rfl (bi_add (by omega) (by omega) (by omega)) ?_ -- pc_ 41
      refine sm_T_go 1 (c1 := (44, [some (.inr (.inr (some (6, 0)))), some (.inl a1_), some (.inl k_), some (.inl (a1_ / 3)), some (.inl (a1_ % 3)), some (.inl (2 * (a1_ / 3) + (a1_ % 3))), none, none], [.inl (a1_ % 3), .inl (3 * (a1_ / 3) + 1)], S0_)) rfl ?_
      refine sm_T_bin (w := 3 * (a1_ / 3) - (a1_ % 3) + 1) rfl (bi_sub (by omega) (by omega) (by omega)) ?_ -- pc_ 44
      refine sm_T_ri rfl ⟨_, _, rfl, rfl, _, rfl, ?_⟩
      unfold ptv
      rw [if_neg (by omega), if_pos (by omega)]
      omega
  · have cx1_ : ¬ ((a1_ % 3) ≠ 2) := of_decide_eq_false cx1_
    refine sm_T_go 2 (c1 := (17, [some (.inr (.inr (some (6, 0)))), some (.inl a1_), some (.inl k_), some (.inl (a1_ / 3)), some (.inl (a1_ % 3)), none, none, none], [.inl (a1_ / 3), .inl 3], S0_)) rfl ?_
    refine sm_T_bin (w := 3 * (a1_ / 3)) rfl (bi_mul (by omega) (by omega) (by omega)) ?_ -- pc_ 17
    refine sm_T_ri rfl ⟨_, _, rfl, rfl, _, rfl, ?_⟩
    unfold ptv
    rw [if_pos (by omega)]
end
/-! 99.zo1a -/
section
/-! tasks done; written by wip/p55/gen/vg -/

/-! tasks done -/
theorem gtk_iv {f_ N_ : Int} {ll_ : Nat} {S_ : sm_S} {t_ : Int} (h_ : wal f_ N_ ll_ S_) (hf_ : 1 ≤ f_) (g_ : gtk f_ N_ (S_.1 5 ll_ 2) (S_.2.2.1 59 0) (S_.2.2.1 62 0) t_) (hi_ : ¬ (t_ / 3 < f_ ∧ t_ % 3 = 0)) (q_ : t_ % 3 = 2 ∨ S_.2.2.1 62 0 (2 * (t_ / 3) + t_ % 3).toNat < 0) : S_.1 5 ll_ 2 ≠ -1 := by
  obtain ⟨g1_, g2_, g3_, g4_⟩ := g_
  rcases g4_ with ⟨g4_, g5_, g6_⟩ | ⟨g4_, g6_⟩
  · exact g5_
  · have g7_ : f_ ≤ t_ / 3 ∧ S_.2.2.1 62 0 (2 * (t_ / 3) + t_ % 3).toNat ≠ -1 := by
      rcases g6_ with g6_ | g6_
      · exact absurd g6_ hi_
      · exact g6_
    have g8_ := wal_w h_ hf_ g7_.1 (by omega) g3_ (t_ := t_ % 3) (by omega)
    rcases g8_ with (g8_ | g8_) | g8_
    · exact absurd g8_.1 g7_.2
    · have := g8_.1; omega
    · exact g8_.2.2.1
/-! Mapper.missingPart -/
end
/-! 99.zo1b -/
section
/-! Mapper.finishTask -/
end
