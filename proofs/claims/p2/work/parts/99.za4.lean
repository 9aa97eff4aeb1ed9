/-! the graph in the reference; written by wip/p55/gen/vg -/

/-! the_ graph in the_ reference: chains -/
def rch (nx_ : Nat → Int) : Nat → Int → Int → Prop
  | 0, s_, t_ => s_ = t_
  | f_ + 1, s_, t_ => s_ = t_ ∨ (0 < s_ ∧ rch nx_ f_ (nx_ s_.toNat) t_)
def hsr (x_ y_ : Int) : Nat := ((1021 * x_ + y_) % 4096).toNat
def rcb (F_ N_ : Nat) (s_ : Int) : Prop := s_ = 0 ∨ ((F_ : Int) ≤ s_ ∧ s_ < (N_ : Int))
def rck (F_ : Nat) (G_ : pGr) (hd_ nx_ : Nat → Int) : Prop := (∀ c_, c_ < 4096 → rcb F_ (F_ + G_.length) (hd_ c_)) ∧ (∀ k_, k_ < G_.length → rcb F_ (F_ + k_) (nx_ (F_ + k_))) ∧ ∀ (k_ : Nat) (x_ y_ : Int), G_[k_]? = some (x_, y_) → ∃ f_, rch nx_ f_ (hd_ (hsr x_ y_)) ((F_ + k_ : Nat) : Int)
theorem rch_up {F_ N_ : Nat} {nx_ ny_ : Nat → Int} (h1_ : ∀ k_, F_ ≤ k_ → k_ < N_ → rcb F_ k_ (nx_ k_)) (h2_ : ∀ k_, k_ < N_ → ny_ k_ = nx_ k_) : ∀ (f_ : Nat) (s_ t_ : Int), rcb F_ N_ s_ → rch nx_ f_ s_ t_ → rch ny_ f_ s_ t_
  | 0, s_, t_, _, h_ => h_
  | f_ + 1, s_, t_, hs_, h_ => by
    rcases h_ with h_ | ⟨h3_, h4_⟩
    · exact Or.inl h_
    · right
      refine ⟨h3_, ?_⟩
      rcases hs_ with z_ | ⟨z1_, z2_⟩
      · omega
      · have q_ := h1_ s_.toNat (by omega) (by omega)
        rw [h2_ s_.toNat (by omega)]
        refine rch_up h1_ h2_ f_ _ t_ ?_ h4_
        rcases q_ with q_ | q_
        · exact Or.inl q_
        · exact Or.inr (by omega)
theorem rch_0 {nx_ : Nat → Int} {f_ : Nat} {t_ : Int} (h_ : rch nx_ f_ 0 t_) : t_ = 0 := by
  cases f_ with
  | zero => exact h_.symm
  | succ f_ =>
    rcases h_ with h_ | h_
    · exact h_.symm
    · exact absurd h_.1 (by omega)
theorem rch_s {nx_ : Nat → Int} {f_ : Nat} {s_ t_ : Int} (h_ : rch nx_ f_ s_ t_) (hs_ : s_ ≠ t_) : 0 < s_ ∧ ∃ g_, rch nx_ g_ (nx_ s_.toNat) t_ := by
  cases f_ with
  | zero => exact absurd h_ hs_
  | succ f_ =>
    rcases h_ with h_ | h_
    · exact absurd h_ hs_
    · exact ⟨h_.1, f_, h_.2⟩
theorem hsr_lt {x_ y_ : Int} : hsr x_ y_ < 4096 := by
  unfold hsr
  omega
theorem rck_put {F_ : Nat} {G_ : pGr} {hd_ nx_ hd'_ nx'_ : Nat → Int} {a_ b_ : Int} (h_ : rck F_ G_ hd_ nx_) (hF_ : 1 ≤ F_) (e1_ : ∀ c_, hd'_ c_ = if c_ = hsr a_ b_ then ((F_ + G_.length : Nat) : Int) else hd_ c_) (e2_ : ∀ k_, nx'_ k_ = if k_ = F_ + G_.length then hd_ (hsr a_ b_) else nx_ k_) : rck F_ (G_ ++ [(a_, b_)]) hd'_ nx'_ := by
  have ln_ : (G_ ++ [(a_, b_)]).length = G_.length + 1 := by simp
  have up_ : ∀ (f_ : Nat) (s_ t_ : Int), rcb F_ (F_ + G_.length) s_ → rch nx_ f_ s_ t_ → rch nx'_ f_ s_ t_ := rch_up (fun k_ q1_ q2_ => by
    have q_ := h_.2.1 (k_ - F_) (by omega)
    rw [show F_ + (k_ - F_) = k_ by omega] at q_
    exact q_) (fun k_ hk_ => by rw [e2_, if_neg (by omega)])
  refine ⟨fun c_ hc_ => ?_, fun k_ hk_ => ?_, fun k_ x_ y_ e_ => ?_⟩
  · rw [e1_, ln_]
    by_cases z_ : c_ = hsr a_ b_
    · rw [if_pos z_]
      exact Or.inr (by omega)
    · rw [if_neg z_]
      rcases h_.1 c_ hc_ with q_ | q_
      · exact Or.inl q_
      · exact Or.inr (by omega)
  · rw [e2_]
    by_cases z_ : F_ + k_ = F_ + G_.length
    · rw [if_pos z_, z_]
      exact h_.1 _ hsr_lt
    · rw [if_neg z_]
      exact h_.2.1 k_ (by omega)
  · rcases ap_get e_ with ⟨z1_, z2_⟩ | ⟨z1_, z2_, z3_⟩
    · obtain ⟨f_, q_⟩ := h_.2.2 k_ x_ y_ z2_
      have q2_ := up_ f_ _ _ (h_.1 _ hsr_lt) q_
      rw [e1_]
      by_cases z_ : hsr x_ y_ = hsr a_ b_
      · rw [if_pos z_]
        refine ⟨f_ + 1, Or.inr ⟨by omega, ?_⟩⟩
        rw [Int.toNat_natCast, e2_, if_pos rfl, ← z_]
        exact q2_
      · rw [if_neg z_]
        exact ⟨f_, q2_⟩
    · rw [z1_, z2_, z3_, e1_, if_pos rfl]
      exact ⟨0, rfl⟩
/-- the_ reference's graph -/
def rgx (F_ : Nat) (G_ : pGr) (S_ : sm_S) : Prop := S_.1 13 0 38 = (F_ : Int) ∧ (1 ≤ F_ ∧ F_ ≤ 13) ∧ S_.1 13 0 37 = ((F_ + G_.length : Nat) : Int) ∧ G_.length ≤ 1001 ∧ (∀ (k_ : Nat) (x_ y_ : Int), G_[k_]? = some (x_, y_) → S_.2.2.1 140 0 (F_ + k_) = x_ ∧ S_.2.2.1 141 0 (F_ + k_) = y_) ∧ gnd G_ ∧ rck F_ G_ (S_.2.2.1 142 0) (S_.2.2.1 143 0)
def rgl (F_ : Nat) (G_ : pGr) (S_ : sm_S) : Prop := ∃ G1_, rgx F_ G1_ S_ ∧ ((G_.length ≤ 1001 ∧ G1_ = G_) ∨ (1001 < G_.length ∧ G1_.length = 1001))
theorem rgx_up {F_ : Nat} {G_ : pGr} {S_ S'_ : sm_S} {a_ b_ : Int} (h_ : rgx F_ G_ S_) (hl_ : G_.length < 1001) (hn_ : g_fd a_ b_ G_ 0 = none) (e0_ : S'_.1 13 0 38 = S_.1 13 0 38) (e4_ : S'_.1 13 0 37 = S_.1 13 0 37 + 1) (e42_ : ∀ k_, S'_.2.2.1 142 0 k_ = if k_ = hsr a_ b_ then ((F_ + G_.length : Nat) : Int) else S_.2.2.1 142 0 k_) (e43_ : ∀ k_, S'_.2.2.1 143 0 k_ = if k_ = F_ + G_.length then S_.2.2.1 142 0 (hsr a_ b_) else S_.2.2.1 143 0 k_) (e40_ : ∀ k_, S'_.2.2.1 140 0 k_ = if k_ = F_ + G_.length then a_ else S_.2.2.1 140 0 k_) (e41_ : ∀ k_, S'_.2.2.1 141 0 k_ = if k_ = F_ + G_.length then b_ else S_.2.2.1 141 0 k_) : rgx F_ (G_ ++ [(a_, b_)]) S'_ := by
  obtain ⟨x1_, x2_, x4_, x5_, x6_, x7_, x8_⟩ := h_
  refine ⟨e0_.trans x1_, x2_, ?_, ?_, fun k_ x_ y_ e_ => ?_, gnd_ap x7_ hn_, rck_put x8_ x2_.1 e42_ e43_⟩
  · rw [e4_, x4_]
    simp only [List.length_append, List.length_cons, List.length_nil]
    push_cast
    omega
  · simp only [List.length_append, List.length_cons, List.length_nil]
    omega
  · rw [e40_, e41_]
    rcases ap_get e_ with ⟨z1_, z2_⟩ | ⟨z1_, z2_, z3_⟩
    · rw [if_neg (by omega), if_neg (by omega)]
      exact x6_ k_ x_ y_ z2_
    · rw [if_pos (by omega), if_pos (by omega)]
      exact ⟨z2_.symm, z3_.symm⟩
theorem rgl_fr {w_ : sx_Wl} {F_ : Nat} {G_ : pGr} {S_ S'_ : sm_S} (h_ : rgl F_ G_ S_) (g_ : ai_fr (sx_W w_) S_ S'_) (h0_ : (sx_W w_).1 13 38 = false) (h1_ : (sx_W w_).1 13 37 = false) (h2_ : (sx_W w_).2.1 140 = false) (h3_ : (sx_W w_).2.1 141 = false) (h4_ : (sx_W w_).2.1 142 = false) (h5_ : (sx_W w_).2.1 143 = false) : rgl F_ G_ S'_ := by
  obtain ⟨G1_, x1_, x2_⟩ := h_
  refine ⟨G1_, ?_, x2_⟩
  unfold rgx at x1_ ⊢
  rw [g_.1 13 0 38 h0_, g_.1 13 0 37 h1_, fr_arr g_ h2_, fr_arr g_ h3_, fr_arr g_ h4_, fr_arr g_ h5_]
  exact x1_
/-- what an_ AND_ gives: out_ of_ the_ exact graph -/
theorem ar_go {F_ : Nat} {G_ G1_ : pGr} {S_ S1_ : sm_S} {A_ B_ x_ y_ v_ : Int} (hx_ : rgx F_ G1_ S_) (h0_ : (G_.length ≤ 1001 ∧ G1_ = G_) ∨ (1001 < G_.length ∧ G1_.length = 1001)) (hab_ : G_.length ≤ 1001 → x_ = A_ ∧ y_ = B_) (hr_ : (rgx F_ (g_an F_ G1_ x_ y_).2 S1_ ∧ v_ = (g_an F_ G1_ x_ y_).1) ∨ (G1_.length = 1001 ∧ (g_an F_ G1_ x_ y_).2.length = 1002 ∧ rgx F_ G1_ S1_)) : rgl F_ (g_an F_ G_ A_ B_).2 S1_ ∧ ((g_an F_ G_ A_ B_).2.length ≤ 1001 → v_ = (g_an F_ G_ A_ B_).1) := by
  have hm_ := g_an_le (F_ := F_) (G_ := G_) (a_ := A_) (b_ := B_)
  have hm1_ := g_an_le (F_ := F_) (G_ := G1_) (a_ := x_) (b_ := y_)
  rcases h0_ with ⟨z1_, z2_⟩ | ⟨z1_, z2_⟩
  · obtain ⟨e1_, e2_⟩ := hab_ z1_
    subst z2_
    subst e1_
    subst e2_
    rcases hr_ with ⟨r1_, r2_⟩ | ⟨r1_, r2_, r3_⟩
    · exact ⟨⟨_, r1_, Or.inl ⟨r1_.2.2.2.1, rfl⟩⟩, fun _ => r2_⟩
    · exact ⟨⟨_, r3_, Or.inr ⟨by omega, r1_⟩⟩, fun z_ => by omega⟩
  · refine ⟨?_, fun z_ => by omega⟩
    rcases hr_ with ⟨r1_, r2_⟩ | ⟨r1_, r2_, r3_⟩
    · have := r1_.2.2.2.1
      exact ⟨_, r1_, Or.inr ⟨by omega, by omega⟩⟩
    · exact ⟨_, r3_, Or.inr ⟨by omega, r1_⟩⟩
theorem rgl_b {F_ : Nat} {G_ : pGr} {S_ : sm_S} (h_ : rgl F_ G_ S_) : S_.1 13 0 38 = (F_ : Int) ∧ (1 ≤ F_ ∧ F_ ≤ 13) ∧ (F_ : Int) ≤ S_.1 13 0 37 ∧ S_.1 13 0 37 ≤ F_ + 1001 ∧ (S_.1 13 0 37 - S_.1 13 0 38 ≤ 1000 ↔ G_.length ≤ 1000) := by
  obtain ⟨G1_, x_, y_⟩ := h_
  have x3_ := x_.2.2.1
  have x1_ := x_.1
  have x4_ := x_.2.2.2.1
  refine ⟨x1_, x_.2.1, by omega, by omega, ?_⟩
  rcases y_ with ⟨y1_, y2_⟩ | ⟨y1_, y2_⟩
  · subst y2_
    omega
  · omega
