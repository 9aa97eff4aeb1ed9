/-! 99.za4 -/
section
/-! the graph in the reference; written by wip/p55/gen/vg -/

/-! the_ graph in the_ reference: chains -/
def rch (nx_ : Nat → Int) : Nat → Int → Int → Prop
  | 0, s_, t_ => s_ = t_
  | f_ + 1, s_, t_ => s_ = t_ ∨ (0 < s_ ∧ rch nx_ f_ (nx_ s_.toNat) t_)
def hsr (x_ y_ : Int) : Nat := ((1021 * x_ + y_) % 4096).toNat
def rcb (F_ N_ : Nat) (s_ : Int) : Prop := s_ = 0 ∨ ((F_ : Int) ≤ s_ ∧ s_ < (N_ : Int))
def rck (F_ : Nat) (G_ : pGr) (hd_ nx_ : Nat → Int) : Prop := (∀ c_, c_ < 4096 → rcb F_ (F_ + G_.length) (hd_ c_)) ∧ (∀ k_, k_ < G_.length → rcb F_ (F_ + k_) (nx_ (F_ + k_))) ∧ ∀ (k_ : Nat) (x_ y_ : Int), G_[k_]? = some (x_, y_) → ∃ f_, rch nx_ f_ (hd_ (hsr x_ y_)) ((F_ + k_ : Nat) : Int)
theorem rch_up {F_ N_ : Nat} {nx_ ny_ : Nat → Int} (h1_ : ∀ k_, F_ ≤ k_ → k_ < N_ → rcb F_ k_ (nx_ k_)) (h2_ : ∀ k_, k_ < N_ → ny_ k_ = nx_ k_) : ∀ (f_ : Nat) (s_ t_ : Int), rcb F_ N_ s_ → rch nx_ f_ s_ t_ → rch ny_ f_ s_ t_
  | 0, s_, t_, _, h_ => h_
  | f_ + 1, s_, t_, hs_, h_ => by
    rcases h_ with h_ | ⟨h3_, h4_⟩
    · exact Or.inl h_
    · right
      refine ⟨h3_, ?_⟩
      rcases hs_ with z_ | ⟨z1_, z2_⟩
      · omega
      · have q_ := h1_ s_.toNat (by omega) (by omega)
        rw [h2_ s_.toNat (by omega)]
        refine rch_up h1_ h2_ f_ _ t_ ?_ h4_
        rcases q_ with q_ | q_
        · exact Or.inl q_
        · exact Or.inr (by omega)
theorem rch_0 {nx_ : Nat → Int} {f_ : Nat} {t_ : Int} (h_ : rch nx_ f_ 0 t_) : t_ = 0 := by
  cases f_ with
  | zero => exact h_.symm
  | succ f_ =>
    rcases h_ with h_ | h_
    · exact h_.symm
    · exact absurd h_.1 (by omega)
theorem rch_s {nx_ : Nat → Int} {f_ : Nat} {s_ t_ : Int} (h_ : rch nx_ f_ s_ t_) (hs_ : s_ ≠ t_) : 0 < s_ ∧ ∃ g_, rch nx_ g_ (nx_ s_.toNat) t_ := by
  cases f_ with
  | zero => exact absurd h_ hs_
  | succ f_ =>
    rcases h_ with h_ | h_
    · exact absurd h_ hs_
    · exact ⟨h_.1, f_, h_.2⟩
theorem hsr_lt {x_ y_ : Int} : hsr x_ y_ < 4096 := by
  unfold hsr
  omega
theorem rck_put {F_ : Nat} {G_ : pGr} {hd_ nx_ hd'_ nx'_ : Nat → Int} {a_ b_ : Int} (h_ : rck F_ G_ hd_ nx_) (hF_ : 1 ≤ F_) (e1_ : ∀ c_, hd'_ c_ = if c_ = hsr a_ b_ then ((F_ + G_.length : Nat) : Int) else hd_ c_) (e2_ : ∀ k_, nx'_ k_ = if k_ = F_ + G_.length then hd_ (hsr a_ b_) else nx_ k_) : rck F_ (G_ ++ [(a_, b_)]) hd'_ nx'_ := by
  have ln_ : (G_ ++ [(a_, b_)]).length = G_.length + 1 := by simp
  have up_ : ∀ (f_ : Nat) (s_ t_ : Int), rcb F_ (F_ + G_.length) s_ → rch nx_ f_ s_ t_ → rch nx'_ f_ s_ t_ := rch_up (fun k_ q1_ q2_ => by
    have q_ := h_.2.1 (k_ - F_) (by omega)
    rw [show F_ + (k_ - F_) = k_ by omega] at q_
    exact q_) (fun k_ hk_ => by rw [e2_, if_neg (by omega)])
  refine ⟨fun c_ hc_ => ?_, fun k_ hk_ => ?_, fun k_ x_ y_ e_ => ?_⟩
  · rw [e1_, ln_]
    by_cases z_ : c_ = hsr a_ b_
    · rw [if_pos z_]
      exact Or.inr (by omega)
    · rw [if_neg z_]
      rcases h_.1 c_ hc_ with q_ | q_
      · exact Or.inl q_
      · exact Or.inr (by omega)
  · rw [e2_]
    by_cases z_ : F_ + k_ = F_ + G_.length
    · rw [if_pos z_, z_]
      exact h_.1 _ hsr_lt
    · rw [if_neg z_]
      exact h_.2.1 k_ (by omega)
  · rcases ap_get e_ with ⟨z1_, z2_⟩ | ⟨z1_, z2_, z3_⟩
    · obtain ⟨f_, q_⟩ := h_.2.2 k_ x_ y_ z2_
      have q2_ := up_ f_ _ _ (h_.1 _ hsr_lt) q_
      rw [e1_]
      by_cases z_ : hsr x_ y_ = hsr a_ b_
      · rw [if_pos z_]
        refine ⟨f_ + 1, Or.inr ⟨by omega, ?_⟩⟩
        rw [Int.toNat_natCast, e2_, if_pos rfl, ← z_]
        exact q2_
      · rw [if_neg z_]
        exact ⟨f_, q2_⟩
    · rw [z1_, z2_, z3_, e1_, if_pos rfl]
      exact ⟨0, rfl⟩
/-- the_ reference's graph -/
def rgx (F_ : Nat) (G_ : pGr) (S_ : sm_S) : Prop := S_.1 13 0 38 = (F_ : Int) ∧ (1 ≤ F_ ∧ F_ ≤ 13) ∧ S_.1 13 0 37 = ((F_ + G_.length : Nat) : Int) ∧ G_.length ≤ 1001 ∧ (∀ (k_ : Nat) (x_ y_ : Int), G_[k_]? = some (x_, y_) → S_.2.2.1 140 0 (F_ + k_) = x_ ∧ S_.2.2.1 141 0 (F_ + k_) = y_) ∧ gnd G_ ∧ rck F_ G_ (S_.2.2.1 142 0) (S_.2.2.1 143 0)
def rgl (F_ : Nat) (G_ : pGr) (S_ : sm_S) : Prop := ∃ G1_, rgx F_ G1_ S_ ∧ ((G_.length ≤ 1001 ∧ G1_ = G_) ∨ (1001 < G_.length ∧ G1_.length = 1001))
theorem rgx_up {F_ : Nat} {G_ : pGr} {S_ S'_ : sm_S} {a_ b_ : Int} (h_ : rgx F_ G_ S_) (hl_ : G_.length < 1001) (hn_ : g_fd a_ b_ G_ 0 = none) (e0_ : S'_.1 13 0 38 = S_.1 13 0 38) (e4_ : S'_.1 13 0 37 = S_.1 13 0 37 + 1) (e42_ : ∀ k_, S'_.2.2.1 142 0 k_ = if k_ = hsr a_ b_ then ((F_ + G_.length : Nat) : Int) else S_.2.2.1 142 0 k_) (e43_ : ∀ k_, S'_.2.2.1 143 0 k_ = if k_ = F_ + G_.length then S_.2.2.1 142 0 (hsr a_ b_) else S_.2.2.1 143 0 k_) (e40_ : ∀ k_, S'_.2.2.1 140 0 k_ = if k_ = F_ + G_.length then a_ else S_.2.2.1 140 0 k_) (e41_ : ∀ k_, S'_.2.2.1 141 0 k_ = if k_ = F_ + G_.length then b_ else S_.2.2.1 141 0 k_) : rgx F_ (G_ ++ [(a_, b_)]) S'_ := by
  obtain ⟨x1_, x2_, x4_, x5_, x6_, x7_, x8_⟩ := h_
  refine ⟨e0_.trans x1_, x2_, ?_, ?_, fun k_ x_ y_ e_ => ?_, gnd_ap x7_ hn_, rck_put x8_ x2_.1 e42_ e43_⟩
  · rw [e4_, x4_]
    simp only [List.length_append, List.length_cons, List.length_nil]
    push_cast
    omega
  · simp only [List.length_append, List.length_cons, List.length_nil]
    omega
  · rw [e40_, e41_]
    rcases ap_get e_ with ⟨z1_, z2_⟩ | ⟨z1_, z2_, z3_⟩
    · rw [if_neg (by omega), if_neg (by omega)]
      exact x6_ k_ x_ y_ z2_
    · rw [if_pos (by omega), if_pos (by omega)]
      exact ⟨z2_.symm, z3_.symm⟩
theorem rgl_fr {w_ : sx_Wl} {F_ : Nat} {G_ : pGr} {S_ S'_ : sm_S} (h_ : rgl F_ G_ S_) (g_ : ai_fr (sx_W w_) S_ S'_) (h0_ : (sx_W w_).1 13 38 = false) (h1_ : (sx_W w_).1 13 37 = false) (h2_ : (sx_W w_).2.1 140 = false) (h3_ : (sx_W w_).2.1 141 = false) (h4_ : (sx_W w_).2.1 142 = false) (h5_ : (sx_W w_).2.1 143 = false) : rgl F_ G_ S'_ := by
  obtain ⟨G1_, x1_, x2_⟩ := h_
  refine ⟨G1_, ?_, x2_⟩
  unfold rgx at x1_ ⊢
  rw [g_.1 13 0 38 h0_, g_.1 13 0 37 h1_, fr_arr g_ h2_, fr_arr g_ h3_, fr_arr g_ h4_, fr_arr g_ h5_]
  exact x1_
/-- what an_ AND_ gives: out_ of_ the_ exact graph -/
theorem ar_go {F_ : Nat} {G_ G1_ : pGr} {S_ S1_ : sm_S} {A_ B_ x_ y_ v_ : Int} (hx_ : rgx F_ G1_ S_) (h0_ : (G_.length ≤ 1001 ∧ G1_ = G_) ∨ (1001 < G_.length ∧ G1_.length = 1001)) (hab_ : G_.length ≤ 1001 → x_ = A_ ∧ y_ = B_) (hr_ : (rgx F_ (g_an F_ G1_ x_ y_).2 S1_ ∧ v_ = (g_an F_ G1_ x_ y_).1) ∨ (G1_.length = 1001 ∧ (g_an F_ G1_ x_ y_).2.length = 1002 ∧ rgx F_ G1_ S1_)) : rgl F_ (g_an F_ G_ A_ B_).2 S1_ ∧ ((g_an F_ G_ A_ B_).2.length ≤ 1001 → v_ = (g_an F_ G_ A_ B_).1) := by
  have hm_ := g_an_le (F_ := F_) (G_ := G_) (a_ := A_) (b_ := B_)
  have hm1_ := g_an_le (F_ := F_) (G_ := G1_) (a_ := x_) (b_ := y_)
  rcases h0_ with ⟨z1_, z2_⟩ | ⟨z1_, z2_⟩
  · obtain ⟨e1_, e2_⟩ := hab_ z1_
    subst z2_
    subst e1_
    subst e2_
    rcases hr_ with ⟨r1_, r2_⟩ | ⟨r1_, r2_, r3_⟩
    · exact ⟨⟨_, r1_, Or.inl ⟨r1_.2.2.2.1, rfl⟩⟩, fun _ => r2_⟩
    · exact ⟨⟨_, r3_, Or.inr ⟨by omega, r1_⟩⟩, fun z_ => by omega⟩
  · refine ⟨?_, fun z_ => by omega⟩
    rcases hr_ with ⟨r1_, r2_⟩ | ⟨r1_, r2_, r3_⟩
    · have := r1_.2.2.2.1
      exact ⟨_, r1_, Or.inr ⟨by omega, by omega⟩⟩
    · exact ⟨_, r3_, Or.inr ⟨by omega, r1_⟩⟩
theorem rgl_b {F_ : Nat} {G_ : pGr} {S_ : sm_S} (h_ : rgl F_ G_ S_) : S_.1 13 0 38 = (F_ : Int) ∧ (1 ≤ F_ ∧ F_ ≤ 13) ∧ (F_ : Int) ≤ S_.1 13 0 37 ∧ S_.1 13 0 37 ≤ F_ + 1001 ∧ (S_.1 13 0 37 - S_.1 13 0 38 ≤ 1000 ↔ G_.length ≤ 1000) := by
  obtain ⟨G1_, x_, y_⟩ := h_
  have x3_ := x_.2.2.1
  have x1_ := x_.1
  have x4_ := x_.2.2.2.1
  refine ⟨x1_, x_.2.1, by omega, by omega, ?_⟩
  rcases y_ with ⟨y1_, y2_⟩ | ⟨y1_, y2_⟩
  · subst y2_
    omega
  · omega
end
/-! 99.za5 -/
section
/-! evaluation word by word; written by wip/p55/gen/vg -/

/-! evaluation word by word: the_ code is_ held with its_ last word first -/
section EV_
variable {F_ I_ m_ : Nat} {A_ : pA} {X_ : Nat → gQ → gE → Option (gQ × gE)} {s0_ : gS}
def ev (F_ I_ : Nat) (A_ : pA) (X_ : Nat → gQ → gE → Option (gQ × gE)) (m_ : Nat) (s0_ : gS) (c_ : List Int) : Option gS := ec F_ I_ A_ X_ m_ c_.reverse s0_
theorem ev_n : ev F_ I_ A_ X_ m_ s0_ [] = some s0_ := rfl
theorem ev_c {w_ : Int} {c_ : List Int} {s_ : gS} (h_ : ev F_ I_ A_ X_ m_ s0_ c_ = some s_) : ev F_ I_ A_ X_ m_ s0_ (w_ :: c_) = ew F_ I_ A_ X_ m_ w_ s_ := by
  unfold ev at h_ ⊢
  rw [List.reverse_cons, ec_ap, h_]
  show ec F_ I_ A_ X_ m_ [w_] s_ = _
  rw [ec]
  cases ew F_ I_ A_ X_ m_ w_ s_ with
  | none => rfl
  | some s1_ => rfl
theorem ev_a {c_ d_ : List Int} {s_ : gS} (h_ : ev F_ I_ A_ X_ m_ s0_ c_ = some s_) : ev F_ I_ A_ X_ m_ s0_ (d_ ++ c_) = ev F_ I_ A_ X_ m_ s_ d_ := by
  unfold ev at h_ ⊢
  rw [List.reverse_append, ec_ap, h_]
theorem ev_op {k_ : Int} {c_ : List Int} {q_ : gQ} {E_ : gE} {O_ : gO} {V_ : gV} {x_ y_ : List Int} (h_ : ev F_ I_ A_ X_ m_ s0_ c_ = some (q_, E_, O_, y_ :: x_ :: V_)) (hk_ : 1 ≤ k_ ∧ k_ ≤ 5) (hl_ : x_.length = y_.length) (h1_ : 1 ≤ x_.length) : ev F_ I_ A_ X_ m_ s0_ (k_ :: c_) = some (((g_op F_ k_ q_.1 x_ y_).2, q_.2), E_, O_, (g_op F_ k_ q_.1 x_ y_).1 :: V_) := by
  rw [ev_c h_]
  have e_ : k_ % 32 = k_ := by omega
  have q1_ : e_op F_ k_ q_.1 (y_ :: x_ :: V_) = some ((g_op F_ k_ q_.1 x_ y_).2, (g_op F_ k_ q_.1 x_ y_).1 :: V_) := by
    unfold e_op
    rw [if_neg (by omega), if_neg (by omega), if_pos hk_]
    show (if x_.length = y_.length ∧ 1 ≤ x_.length then _ else none) = _
    rw [if_pos ⟨hl_, h1_⟩]
  unfold ew
  rw [e_, if_neg (by omega), if_pos (by omega)]
  show (match e_op F_ k_ q_.1 (y_ :: x_ :: V_) with
    | some r_ => some ((r_.1, q_.2), E_, O_, r_.2)
    | none => none) = _
  rw [q1_]
theorem ev_no {c_ : List Int} {q_ : gQ} {E_ : gE} {O_ : gO} {V_ : gV} {x_ : List Int} (h_ : ev F_ I_ A_ X_ m_ s0_ c_ = some (q_, E_, O_, x_ :: V_)) : ev F_ I_ A_ X_ m_ s0_ (6 :: c_) = some (q_, E_, O_, x_.map (fun z_ => i_xor z_ 1) :: V_) := by
  rw [ev_c h_]
  rfl
theorem ev_ch {c_ : List Int} {q_ : gQ} {E_ : gE} {O_ : gO} {V_ : gV} {a_ e_ : List Int} {b_ : Int} (h_ : ev F_ I_ A_ X_ m_ s0_ c_ = some (q_, E_, O_, e_ :: a_ :: [b_] :: V_)) (hl_ : a_.length = e_.length) (h1_ : 1 ≤ a_.length) : ev F_ I_ A_ X_ m_ s0_ (7 :: c_) = some (((g_ch F_ b_ q_.1 a_ e_).2, q_.2), E_, O_, (g_ch F_ b_ q_.1 a_ e_).1 :: V_) := by
  rw [ev_c h_]
  have q1_ : e_op F_ 7 q_.1 (e_ :: a_ :: [b_] :: V_) = some ((g_ch F_ b_ q_.1 a_ e_).2, (g_ch F_ b_ q_.1 a_ e_).1 :: V_) := by
    unfold e_op
    rw [if_neg (by decide), if_pos rfl]
    show (if a_.length = e_.length ∧ 1 ≤ a_.length then _ else none) = _
    rw [if_pos ⟨hl_, h1_⟩]
  unfold ew
  rw [if_neg (by decide), if_pos (by decide)]
  show (match e_op F_ 7 q_.1 (e_ :: a_ :: [b_] :: V_) with
    | some r_ => some ((r_.1, q_.2), E_, O_, r_.2)
    | none => none) = _
  rw [q1_]
theorem cw_d {k_ a_ d_ : Int} (hk_ : 0 ≤ k_ ∧ k_ < 32) (ha_ : 0 ≤ a_ ∧ a_ < 64) : cw k_ a_ d_ % 32 = k_ ∧ cw k_ a_ d_ / 32 % 64 = a_ ∧ cw k_ a_ d_ / 2048 = d_ := by
  unfold cw
  omega
theorem ew_ld {k_ a_ d_ : Int} {q_ : gQ} {E_ : gE} {O_ : gO} {V_ W_ : gV} (hk_ : 8 ≤ k_ ∧ k_ ≤ 11) (ha_ : 0 ≤ a_ ∧ a_ < 64) (h_ : e_ld A_ m_ k_ a_.toNat d_ E_ O_ V_ = some W_) : ew F_ I_ A_ X_ m_ (cw k_ a_ d_) (q_, E_, O_, V_) = some (q_, E_, O_, W_) := by
  obtain ⟨e1_, e2_, e3_⟩ := cw_d (k_ := k_) (a_ := a_) (d_ := d_) (by omega) ha_
  unfold ew
  rw [e1_, e2_, e3_, if_neg (by omega), if_neg (by omega), if_pos (by omega)]
  show (match e_ld A_ m_ k_ a_.toNat d_ E_ O_ V_ with
    | some V_ => some (q_, E_, O_, V_)
    | none => none) = _
  rw [h_]
theorem ev_cn {c_ : List Int} {q_ : gQ} {E_ : gE} {O_ : gO} {V_ : gV} {a_ d_ : Int} (h_ : ev F_ I_ A_ X_ m_ s0_ c_ = some (q_, E_, O_, V_)) (hV_ : V_.length < 512) (ha_ : 1 ≤ a_ ∧ a_ ≤ 8) (hd_ : 0 ≤ d_) : ev F_ I_ A_ X_ m_ s0_ (cw 8 a_ d_ :: c_) = some (q_, E_, O_, c_bt a_.toNat d_ :: V_) := by
  rw [ev_c h_]
  refine ew_ld (by decide) (by omega) ?_
  unfold e_ld
  rw [if_neg (by decide), if_neg (by omega), if_pos rfl, if_pos (by omega)]
theorem ev_ld {c_ : List Int} {q_ : gQ} {E_ : gE} {O_ : gO} {V_ : gV} {a_ d_ : Int} (h_ : ev F_ I_ A_ X_ m_ s0_ c_ = some (q_, E_, O_, V_)) (hV_ : V_.length < 512) (ha_ : 0 ≤ a_ ∧ a_ < A_.1 m_) (hm_ : A_.1 m_ ≤ 40) (hl_ : 1 ≤ (E_ a_.toNat).length ∧ (E_ a_.toNat).length ≤ 8) (hw_ : ((E_ a_.toNat).length : Int) = A_.2.2.2.1 (40 * m_ + a_.toNat)) : ev F_ I_ A_ X_ m_ s0_ (cw 9 a_ d_ :: c_) = some (q_, E_, O_, E_ a_.toNat :: V_) := by
  rw [ev_c h_]
  refine ew_ld (by decide) (by omega) ?_
  unfold e_ld
  rw [if_neg (by decide), if_neg (by omega), if_neg (by decide), if_pos rfl, if_pos ⟨by omega, hl_.1, hl_.2, hw_⟩]
theorem ev_pt {c_ : List Int} {q_ : gQ} {E_ : gE} {O_ : gO} {V_ : gV} {a_ d_ : Int} {o_ : Nat → List Int} (h_ : ev F_ I_ A_ X_ m_ s0_ c_ = some (q_, E_, O_, V_)) (hV_ : V_.length < 512) (ha_ : 0 ≤ a_ ∧ a_ < A_.1 m_) (hm_ : A_.1 m_ ≤ 40) (hO_ : O_ a_.toNat = some o_) (hd_ : 0 ≤ d_ ∧ d_ < A_.1 (A_.2.2.2.2 (40 * m_ + a_.toNat)).toNat) (h5_ : 0 ≤ A_.2.2.2.2 (40 * m_ + a_.toNat) ∧ A_.2.2.2.2 (40 * m_ + a_.toNat) < m_) (hl_ : 1 ≤ (o_ d_.toNat).length ∧ (o_ d_.toNat).length ≤ 8) (hw_ : ((o_ d_.toNat).length : Int) = A_.2.2.2.1 (40 * (A_.2.2.2.2 (40 * m_ + a_.toNat)).toNat + d_.toNat)) : ev F_ I_ A_ X_ m_ s0_ (cw 10 a_ d_ :: c_) = some (q_, E_, O_, o_ d_.toNat :: V_) := by
  rw [ev_c h_]
  refine ew_ld (by decide) (by omega) ?_
  unfold e_ld
  rw [if_neg (by decide), if_neg (by omega), if_neg (by decide), if_neg (by decide), if_pos rfl, hO_]
  show (if _ then _ else none) = _
  rw [if_pos ⟨by omega, hd_.1, hd_.2, h5_.1, h5_.2, hl_.1, hl_.2, hw_⟩]
theorem ev_bi {c_ : List Int} {q_ : gQ} {E_ : gE} {O_ : gO} {V_ : gV} {a_ : Int} {x_ : List Int} (h_ : ev F_ I_ A_ X_ m_ s0_ c_ = some (q_, E_, O_, x_ :: V_)) (ha_ : 0 ≤ a_ ∧ a_ < x_.length) (h8_ : x_.length ≤ 8) : ev F_ I_ A_ X_ m_ s0_ (cw 11 a_ 0 :: c_) = some (q_, E_, O_, [x_.getD a_.toNat 0] :: V_) := by
  rw [ev_c h_]
  refine ew_ld (by decide) (by omega) ?_
  unfold e_ld
  rw [if_pos rfl]
  show (if a_.toNat < x_.length then _ else none) = _
  rw [if_pos (by omega)]
end EV_
end
/-! 99.za6 -/
section
/-! literals are below the size of the graph; written by wip/p55/gen/vg -/

/-! literals are_ below the_ size of_ the_ graph -/
def lz (N_ : Nat) (z_ : Int) : Prop := 0 ≤ z_ ∧ z_ < 2 * (N_ : Int)
def lwl (N_ : Nat) (l_ : List Int) : Prop := ∀ z_, z_ ∈ l_ → lz N_ z_
def gwf (F_ : Nat) (G_ : pGr) : Prop := 1 ≤ F_ ∧ ∀ (k_ : Nat) (x_ y_ : Int), G_[k_]? = some (x_, y_) → 2 ≤ x_ ∧ x_ < y_ ∧ y_ < 2 * ((F_ + k_ : Nat) : Int)
theorem lz_up {N_ M_ : Nat} {z_ : Int} (h_ : N_ ≤ M_) (hz_ : lz N_ z_) : lz M_ z_ := by
  unfold lz at *
  omega
theorem lwl_up {N_ M_ : Nat} {l_ : List Int} (h_ : N_ ≤ M_) (hz_ : lwl N_ l_) : lwl M_ l_ := fun z_ q_ => lz_up h_ (hz_ z_ q_)
theorem lz_x {N_ : Nat} {z_ : Int} (h_ : N_ ≤ 1023) (hz_ : lz N_ z_) : lz N_ (i_xor z_ 1) := by
  unfold lz at *
  rw [i_x1 (by omega)]
  omega
def opw (F_ : Nat) (op_ : pGr → Int → Int → Int × pGr) : Prop := ∀ G_ a_ b_, gwf F_ G_ → lz (F_ + G_.length) a_ → lz (F_ + G_.length) b_ → F_ + (op_ G_ a_ b_).2.length ≤ 1023 → gwf F_ (op_ G_ a_ b_).2 ∧ lz (F_ + (op_ G_ a_ b_).2.length) (op_ G_ a_ b_).1
theorem a2_w {F_ : Nat} {G_ : pGr} {x_ y_ : Int} (hG_ : gwf F_ G_) (hx_ : lz (F_ + G_.length) x_) (hy_ : lz (F_ + G_.length) y_) (hxy_ : x_ ≤ y_) : gwf F_ (g_a2 F_ G_ x_ y_).2 ∧ lz (F_ + (g_a2 F_ G_ x_ y_).2.length) (g_a2 F_ G_ x_ y_).1 := by
  unfold g_a2
  split
  · exact ⟨hG_, Int.le_refl _, by have := hG_.1; push_cast; omega⟩
  · rename_i n0_
    split
    · exact ⟨hG_, hy_⟩
    · rename_i n1_
      split
      · rename_i k_ hk_
        have q_ := g_fd_b hk_
        exact ⟨hG_, by unfold lz; push_cast; omega⟩
      · refine ⟨⟨hG_.1, fun k_ u_ v_ e_ => ?_⟩, by unfold lz; simp only [List.length_append, List.length_cons, List.length_nil]; push_cast; omega⟩
        by_cases z_ : k_ < G_.length
        · rw [List.getElem?_append_left z_] at e_
          exact hG_.2 k_ u_ v_ e_
        · rw [List.getElem?_append_right (by omega)] at e_
          by_cases z2_ : k_ = G_.length
          · rw [z2_, Nat.sub_self, List.getElem?_cons_zero] at e_
            cases e_
            unfold lz at hx_ hy_
            have a1_ : x_ ≠ 0 := fun q_ => n0_ (Or.inl q_)
            have a2_ : x_ ≠ 1 := fun q_ => n1_ (Or.inl q_)
            have a3_ : x_ ≠ y_ := fun q_ => n1_ (Or.inr q_)
            rw [z2_]
            omega
          · rw [show k_ - G_.length = (k_ - G_.length - 1) + 1 by omega, List.getElem?_cons_succ] at e_
            simp at e_
theorem an_w {F_ : Nat} : opw F_ (g_an F_) := by
  intro G_ a_ b_ hG_ ha_ hb_ _
  unfold g_an
  split
  · exact a2_w hG_ ha_ hb_ (by omega)
  · exact a2_w hG_ hb_ ha_ (by omega)
theorem or_w {F_ : Nat} : opw F_ (g_or F_) := by
  intro G_ a_ b_ hG_ ha_ hb_ hl_
  have l1_ := (g_an_le (F_ := F_) (G_ := G_) (a_ := i_xor a_ 1) (b_ := i_xor b_ 1)).1
  have hl2_ : F_ + (g_an F_ G_ (i_xor a_ 1) (i_xor b_ 1)).2.length ≤ 1023 := hl_
  have e_ := an_w (F_ := F_) G_ (i_xor a_ 1) (i_xor b_ 1) hG_ (lz_x (by omega) ha_) (lz_x (by omega) hb_) hl2_
  exact ⟨e_.1, lz_x hl2_ e_.2⟩
theorem xo_w {F_ : Nat} : opw F_ (g_xo F_) := by
  intro G_ a_ b_ hG_ ha_ hb_ hl_
  have l1_ := (g_an_le (F_ := F_) (G_ := G_) (a_ := a_) (b_ := i_xor b_ 1)).1
  have l2_ := (g_an_le (F_ := F_) (G_ := (g_an F_ G_ a_ (i_xor b_ 1)).2) (a_ := i_xor a_ 1) (b_ := b_)).1
  have l3_ := g_or_le (F_ := F_) (G_ := (g_an F_ (g_an F_ G_ a_ (i_xor b_ 1)).2 (i_xor a_ 1) b_).2) (a_ := (g_an F_ G_ a_ (i_xor b_ 1)).1) (b_ := (g_an F_ (g_an F_ G_ a_ (i_xor b_ 1)).2 (i_xor a_ 1) b_).1)
  have hl2_ : F_ + (g_or F_ (g_an F_ (g_an F_ G_ a_ (i_xor b_ 1)).2 (i_xor a_ 1) b_).2 (g_an F_ G_ a_ (i_xor b_ 1)).1 (g_an F_ (g_an F_ G_ a_ (i_xor b_ 1)).2 (i_xor a_ 1) b_).1).2.length ≤ 1023 := hl_
  have e1_ := an_w (F_ := F_) G_ a_ (i_xor b_ 1) hG_ ha_ (lz_x (by omega) hb_) (by omega)
  have e2_ := an_w (F_ := F_) (g_an F_ G_ a_ (i_xor b_ 1)).2 (i_xor a_ 1) b_ e1_.1 (lz_up (by omega) (lz_x (by omega) ha_)) (lz_up (by omega) hb_) (by omega)
  exact or_w (F_ := F_) _ _ _ e2_.1 (lz_up (by omega) e1_.2) e2_.2 hl2_
theorem lwl_c {N_ : Nat} {a_ : Int} {l_ : List Int} : lwl N_ (a_ :: l_) ↔ lz N_ a_ ∧ lwl N_ l_ := by
  constructor
  · intro h_
    exact ⟨h_ a_ List.mem_cons_self, fun z_ hz_ => h_ z_ (List.mem_cons_of_mem _ hz_)⟩
  · rintro ⟨h1_, h2_⟩ z_ hz_
    rcases List.mem_cons.mp hz_ with q_ | q_
    · rw [q_]; exact h1_
    · exact h2_ z_ q_
theorem lwl_n {N_ : Nat} : lwl N_ [] := fun z_ hz_ => by simp at hz_
theorem z2_w {F_ : Nat} {op_ : pGr → Int → Int → Int × pGr} (h_ : opw F_ op_) (hle_ : ∀ G_ a_ b_, G_.length ≤ (op_ G_ a_ b_).2.length) : ∀ (x_ y_ : List Int) (G_ : pGr), gwf F_ G_ → lwl (F_ + G_.length) x_ → lwl (F_ + G_.length) y_ → F_ + (g_z2 op_ G_ x_ y_).2.length ≤ 1023 → gwf F_ (g_z2 op_ G_ x_ y_).2 ∧ lwl (F_ + (g_z2 op_ G_ x_ y_).2.length) (g_z2 op_ G_ x_ y_).1
  | a_ :: x_, b_ :: y_, G_, hG_, hx_, hy_, hl_ => by
    have l1_ := hle_ G_ a_ b_
    have l2_ := g_z2_le hle_ x_ y_ (op_ G_ a_ b_).2
    have hl2_ : F_ + (g_z2 op_ (op_ G_ a_ b_).2 x_ y_).2.length ≤ 1023 := hl_
    have e1_ := h_ G_ a_ b_ hG_ (lwl_c.mp hx_).1 (lwl_c.mp hy_).1 (by omega)
    have e2_ := z2_w h_ hle_ x_ y_ (op_ G_ a_ b_).2 e1_.1 (lwl_up (by omega) (lwl_c.mp hx_).2) (lwl_up (by omega) (lwl_c.mp hy_).2) hl2_
    exact ⟨e2_.1, lwl_c.mpr ⟨lz_up (Nat.add_le_add_left l2_ F_) e1_.2, e2_.2⟩⟩
  | [], y_, G_, hG_, _, _, _ => ⟨hG_, lwl_n⟩
  | a_ :: x_, [], G_, hG_, _, _, _ => ⟨hG_, lwl_n⟩
theorem s3_w {F_ : Nat} {G_ : pGr} {c_ a_ b_ : Int} (hG_ : gwf F_ G_) (hc_ : lz (F_ + G_.length) c_) (ha_ : lz (F_ + G_.length) a_) (hb_ : lz (F_ + G_.length) b_) (hl_ : F_ + (g_s3 F_ G_ c_ a_ b_).2.2.length ≤ 1023) : gwf F_ (g_s3 F_ G_ c_ a_ b_).2.2 ∧ lz (F_ + (g_s3 F_ G_ c_ a_ b_).2.2.length) (g_s3 F_ G_ c_ a_ b_).1 ∧ lz (F_ + (g_s3 F_ G_ c_ a_ b_).2.2.length) (g_s3 F_ G_ c_ a_ b_).2.1 := by
  obtain ⟨h_, hh_⟩ : ∃ h_, h_ = g_xo F_ G_ a_ b_ := ⟨_, rfl⟩
  obtain ⟨s_, hs_⟩ : ∃ s_, s_ = g_xo F_ h_.2 h_.1 c_ := ⟨_, rfl⟩
  obtain ⟨m_, hm_⟩ : ∃ m_, m_ = g_an F_ s_.2 a_ b_ := ⟨_, rfl⟩
  obtain ⟨t_, ht_⟩ : ∃ t_, t_ = g_an F_ m_.2 h_.1 c_ := ⟨_, rfl⟩
  obtain ⟨o_, ho_⟩ : ∃ o_, o_ = g_or F_ t_.2 m_.1 t_.1 := ⟨_, rfl⟩
  have e_ : g_s3 F_ G_ c_ a_ b_ = (s_.1, o_.1, o_.2) := by subst ho_ ht_ hm_ hs_ hh_; rfl
  rw [e_] at hl_ ⊢
  have hl_ : F_ + o_.2.length ≤ 1023 := hl_
  have l1_ : G_.length ≤ h_.2.length := by rw [hh_]; exact g_xo_le
  have l2_ : h_.2.length ≤ s_.2.length := by rw [hs_]; exact g_xo_le
  have l3_ : s_.2.length ≤ m_.2.length := by rw [hm_]; exact g_an_le.1
  have l4_ : m_.2.length ≤ t_.2.length := by rw [ht_]; exact g_an_le.1
  have l5_ : t_.2.length ≤ o_.2.length := by rw [ho_]; exact g_or_le
  have e1_ := xo_w (F_ := F_) G_ a_ b_ hG_ ha_ hb_ (by rw [← hh_]; omega)
  rw [← hh_] at e1_
  have e2_ := xo_w (F_ := F_) h_.2 h_.1 c_ e1_.1 e1_.2 (lz_up (by omega) hc_) (by rw [← hs_]; omega)
  rw [← hs_] at e2_
  have e3_ := an_w (F_ := F_) s_.2 a_ b_ e2_.1 (lz_up (by omega) ha_) (lz_up (by omega) hb_) (by rw [← hm_]; omega)
  rw [← hm_] at e3_
  have e4_ := an_w (F_ := F_) m_.2 h_.1 c_ e3_.1 (lz_up (by omega) e1_.2) (lz_up (by omega) hc_) (by rw [← ht_]; omega)
  rw [← ht_] at e4_
  have e5_ := or_w (F_ := F_) t_.2 m_.1 t_.1 e4_.1 (lz_up (by omega) e3_.2) e4_.2 (by rw [← ho_]; omega)
  rw [← ho_] at e5_
  exact ⟨e5_.1, lz_up (by show F_ + s_.2.length ≤ F_ + o_.2.length; omega) e2_.2, e5_.2⟩
theorem su_w {F_ : Nat} : ∀ (x_ y_ : List Int) (G_ : pGr) (c_ : Int), gwf F_ G_ → lz (F_ + G_.length) c_ → lwl (F_ + G_.length) x_ → lwl (F_ + G_.length) y_ → F_ + (g_su F_ G_ c_ x_ y_).2.length ≤ 1023 → gwf F_ (g_su F_ G_ c_ x_ y_).2 ∧ lwl (F_ + (g_su F_ G_ c_ x_ y_).2.length) (g_su F_ G_ c_ x_ y_).1
  | a_ :: x_, b_ :: y_, G_, c_, hG_, hc_, hx_, hy_, hl_ => by
    have l1_ := g_s3_le (F_ := F_) (G_ := G_) (c_ := c_) (a_ := a_) (b_ := b_)
    have l2_ := g_su_le (F_ := F_) x_ y_ (g_s3 F_ G_ c_ a_ b_).2.2 (g_s3 F_ G_ c_ a_ b_).2.1
    have hl2_ : F_ + (g_su F_ (g_s3 F_ G_ c_ a_ b_).2.2 (g_s3 F_ G_ c_ a_ b_).2.1 x_ y_).2.length ≤ 1023 := hl_
    have e1_ := s3_w hG_ hc_ (lwl_c.mp hx_).1 (lwl_c.mp hy_).1 (by omega)
    have e2_ := su_w x_ y_ (g_s3 F_ G_ c_ a_ b_).2.2 (g_s3 F_ G_ c_ a_ b_).2.1 e1_.1 e1_.2.2 (lwl_up (by omega) (lwl_c.mp hx_).2) (lwl_up (by omega) (lwl_c.mp hy_).2) hl2_
    exact ⟨e2_.1, lwl_c.mpr ⟨lz_up (Nat.add_le_add_left l2_ F_) e1_.2.1, e2_.2⟩⟩
  | [], y_, G_, c_, hG_, _, _, _, _ => ⟨hG_, lwl_n⟩
  | a_ :: x_, [], G_, c_, hG_, _, _, _, _ => ⟨hG_, lwl_n⟩
theorem e3_w {F_ : Nat} {G_ : pGr} {s_ a_ b_ : Int} (hG_ : gwf F_ G_) (hs_ : lz (F_ + G_.length) s_) (ha_ : lz (F_ + G_.length) a_) (hb_ : lz (F_ + G_.length) b_) (hl_ : F_ + (g_e3 F_ G_ s_ a_ b_).2.length ≤ 1023) : gwf F_ (g_e3 F_ G_ s_ a_ b_).2 ∧ lz (F_ + (g_e3 F_ G_ s_ a_ b_).2.length) (g_e3 F_ G_ s_ a_ b_).1 := by
  have l1_ := g_xo_le (F_ := F_) (G_ := G_) (a_ := a_) (b_ := b_)
  have l2_ := (g_an_le (F_ := F_) (G_ := (g_xo F_ G_ a_ b_).2) (a_ := s_) (b_ := i_xor (g_xo F_ G_ a_ b_).1 1)).1
  have hl2_ : F_ + (g_an F_ (g_xo F_ G_ a_ b_).2 s_ (i_xor (g_xo F_ G_ a_ b_).1 1)).2.length ≤ 1023 := hl_
  have e1_ := xo_w (F_ := F_) G_ a_ b_ hG_ ha_ hb_ (by omega)
  exact an_w (F_ := F_) _ _ _ e1_.1 (lz_up (by omega) hs_) (lz_x (by omega) e1_.2) hl2_
theorem s1_w {F_ : Nat} : ∀ (x_ y_ : List Int) (G_ : pGr) (s_ : Int), gwf F_ G_ → lz (F_ + G_.length) s_ → lwl (F_ + G_.length) x_ → lwl (F_ + G_.length) y_ → F_ + (g_s1 F_ G_ s_ x_ y_).2.length ≤ 1023 → gwf F_ (g_s1 F_ G_ s_ x_ y_).2 ∧ lz (F_ + (g_s1 F_ G_ s_ x_ y_).2.length) (g_s1 F_ G_ s_ x_ y_).1
  | a_ :: x_, b_ :: y_, G_, s_, hG_, hc_, hx_, hy_, hl_ => by
    have l1_ := g_e3_le (F_ := F_) (G_ := G_) (s_ := s_) (a_ := a_) (b_ := b_)
    have l2_ := g_s1_le (F_ := F_) x_ y_ (g_e3 F_ G_ s_ a_ b_).2 (g_e3 F_ G_ s_ a_ b_).1
    have hl2_ : F_ + (g_s1 F_ (g_e3 F_ G_ s_ a_ b_).2 (g_e3 F_ G_ s_ a_ b_).1 x_ y_).2.length ≤ 1023 := hl_
    have e1_ := e3_w hG_ hc_ (lwl_c.mp hx_).1 (lwl_c.mp hy_).1 (by omega)
    exact s1_w x_ y_ (g_e3 F_ G_ s_ a_ b_).2 (g_e3 F_ G_ s_ a_ b_).1 e1_.1 e1_.2 (lwl_up (by omega) (lwl_c.mp hx_).2) (lwl_up (by omega) (lwl_c.mp hy_).2) hl2_
  | [], y_, G_, s_, hG_, hs_, _, _, _ => ⟨hG_, hs_⟩
  | a_ :: x_, [], G_, s_, hG_, hs_, _, _, _ => ⟨hG_, hs_⟩
theorem sa_w {F_ : Nat} : ∀ (x_ y_ : List Int) (G_ : pGr), gwf F_ G_ → lwl (F_ + G_.length) x_ → lwl (F_ + G_.length) y_ → F_ + (g_sa F_ G_ x_ y_).2.length ≤ 1023 → gwf F_ (g_sa F_ G_ x_ y_).2 ∧ lwl (F_ + (g_sa F_ G_ x_ y_).2.length) (g_sa F_ G_ x_ y_).1
  | a_ :: x_, b_ :: y_, G_, hG_, hx_, hy_, hl_ => by
    have l1_ := g_xo_le (F_ := F_) (G_ := G_) (a_ := a_) (b_ := b_)
    have l2_ := g_s1_le (F_ := F_) x_ y_ (g_xo F_ G_ a_ b_).2 (i_xor (g_xo F_ G_ a_ b_).1 1)
    have hl2_ : F_ + (g_s1 F_ (g_xo F_ G_ a_ b_).2 (i_xor (g_xo F_ G_ a_ b_).1 1) x_ y_).2.length ≤ 1023 := hl_
    have e1_ := xo_w (F_ := F_) G_ a_ b_ hG_ (lwl_c.mp hx_).1 (lwl_c.mp hy_).1 (by omega)
    have e2_ := s1_w x_ y_ (g_xo F_ G_ a_ b_).2 (i_xor (g_xo F_ G_ a_ b_).1 1) e1_.1 (lz_x (by omega) e1_.2) (lwl_up (by omega) (lwl_c.mp hx_).2) (lwl_up (by omega) (lwl_c.mp hy_).2) hl2_
    exact ⟨e2_.1, lwl_c.mpr ⟨e2_.2, lwl_n⟩⟩
  | [], y_, G_, hG_, _, _, _ => ⟨hG_, lwl_n⟩
  | a_ :: x_, [], G_, hG_, _, _, _ => ⟨hG_, lwl_n⟩
theorem gc3_w {F_ : Nat} {G_ : pGr} {c_ a_ b_ : Int} (hG_ : gwf F_ G_) (hc_ : lz (F_ + G_.length) c_) (ha_ : lz (F_ + G_.length) a_) (hb_ : lz (F_ + G_.length) b_) (hl_ : F_ + (g_c3 F_ G_ c_ a_ b_).2.length ≤ 1023) : gwf F_ (g_c3 F_ G_ c_ a_ b_).2 ∧ lz (F_ + (g_c3 F_ G_ c_ a_ b_).2.length) (g_c3 F_ G_ c_ a_ b_).1 := by
  have l1_ := (g_an_le (F_ := F_) (G_ := G_) (a_ := c_) (b_ := a_)).1
  have l2_ := (g_an_le (F_ := F_) (G_ := (g_an F_ G_ c_ a_).2) (a_ := i_xor c_ 1) (b_ := b_)).1
  have l3_ := g_or_le (F_ := F_) (G_ := (g_an F_ (g_an F_ G_ c_ a_).2 (i_xor c_ 1) b_).2) (a_ := (g_an F_ G_ c_ a_).1) (b_ := (g_an F_ (g_an F_ G_ c_ a_).2 (i_xor c_ 1) b_).1)
  have hl2_ : F_ + (g_or F_ (g_an F_ (g_an F_ G_ c_ a_).2 (i_xor c_ 1) b_).2 (g_an F_ G_ c_ a_).1 (g_an F_ (g_an F_ G_ c_ a_).2 (i_xor c_ 1) b_).1).2.length ≤ 1023 := hl_
  have e1_ := an_w (F_ := F_) G_ c_ a_ hG_ hc_ ha_ (by omega)
  have e2_ := an_w (F_ := F_) (g_an F_ G_ c_ a_).2 (i_xor c_ 1) b_ e1_.1 (lz_up (by omega) (lz_x (by omega) hc_)) (lz_up (by omega) hb_) (by omega)
  exact or_w (F_ := F_) _ _ _ e2_.1 (lz_up (by omega) e1_.2) e2_.2 hl2_
theorem ch_w {F_ : Nat} {c_ : Int} : ∀ (x_ y_ : List Int) (G_ : pGr), gwf F_ G_ → lz (F_ + G_.length) c_ → lwl (F_ + G_.length) x_ → lwl (F_ + G_.length) y_ → F_ + (g_ch F_ c_ G_ x_ y_).2.length ≤ 1023 → gwf F_ (g_ch F_ c_ G_ x_ y_).2 ∧ lwl (F_ + (g_ch F_ c_ G_ x_ y_).2.length) (g_ch F_ c_ G_ x_ y_).1
  | a_ :: x_, b_ :: y_, G_, hG_, hc_, hx_, hy_, hl_ => by
    have l1_ := g_c3_le (F_ := F_) (G_ := G_) (c_ := c_) (a_ := a_) (b_ := b_)
    have l2_ := g_z2_le (fun G_ a_ b_ => g_c3_le (F_ := F_) (G_ := G_) (c_ := c_) (a_ := a_) (b_ := b_)) x_ y_ (g_c3 F_ G_ c_ a_ b_).2
    have hl2_ : F_ + (g_ch F_ c_ (g_c3 F_ G_ c_ a_ b_).2 x_ y_).2.length ≤ 1023 := hl_
    have l2_ : (g_c3 F_ G_ c_ a_ b_).2.length ≤ (g_ch F_ c_ (g_c3 F_ G_ c_ a_ b_).2 x_ y_).2.length := l2_
    have e1_ := gc3_w hG_ hc_ (lwl_c.mp hx_).1 (lwl_c.mp hy_).1 (by omega)
    have e2_ := ch_w (c_ := c_) x_ y_ (g_c3 F_ G_ c_ a_ b_).2 e1_.1 (lz_up (by omega) hc_) (lwl_up (by omega) (lwl_c.mp hx_).2) (lwl_up (by omega) (lwl_c.mp hy_).2) hl2_
    exact ⟨e2_.1, lwl_c.mpr ⟨lz_up (by show F_ + (g_c3 F_ G_ c_ a_ b_).2.length ≤ F_ + (g_ch F_ c_ (g_c3 F_ G_ c_ a_ b_).2 x_ y_).2.length; omega) e1_.2, e2_.2⟩⟩
  | [], y_, G_, hG_, _, _, _, _ => ⟨hG_, lwl_n⟩
  | a_ :: x_, [], G_, hG_, _, _, _, _ => ⟨hG_, lwl_n⟩
theorem bw_w {F_ : Nat} {k_ : Int} : opw F_ (g_bw F_ k_) := by
  unfold g_bw
  split
  · exact an_w
  · split
    · exact or_w
    · exact xo_w
theorem op_w {F_ : Nat} {k_ : Int} {x_ y_ : List Int} {G_ : pGr} (hG_ : gwf F_ G_) (hx_ : lwl (F_ + G_.length) x_) (hy_ : lwl (F_ + G_.length) y_) (hl_ : F_ + (g_op F_ k_ G_ x_ y_).2.length ≤ 1023) : gwf F_ (g_op F_ k_ G_ x_ y_).2 ∧ lwl (F_ + (g_op F_ k_ G_ x_ y_).2.length) (g_op F_ k_ G_ x_ y_).1 := by
  unfold g_op at hl_ ⊢
  split at hl_
  · rename_i q_
    rw [if_pos q_]
    exact su_w x_ y_ G_ 0 hG_ ⟨Int.le_refl _, by have := hG_.1; push_cast; omega⟩ hx_ hy_ hl_
  · rename_i q_
    rw [if_neg q_]
    split at hl_
    · rename_i q2_
      rw [if_pos q2_]
      exact sa_w x_ y_ G_ hG_ hx_ hy_ hl_
    · rename_i q2_
      rw [if_neg q2_]
      exact z2_w bw_w g_bw_le x_ y_ G_ hG_ hx_ hy_ hl_
def lwV (N_ : Nat) (V_ : gV) : Prop := ∀ v_, v_ ∈ V_ → lwl N_ v_
theorem lwV_up {N_ M_ : Nat} {V_ : gV} (h_ : N_ ≤ M_) (hz_ : lwV N_ V_) : lwV M_ V_ := fun z_ q_ => lwl_up h_ (hz_ z_ q_)
theorem lwV_c {N_ : Nat} {a_ : List Int} {l_ : gV} : lwV N_ (a_ :: l_) ↔ lwl N_ a_ ∧ lwV N_ l_ := by
  constructor
  · intro h_
    exact ⟨h_ a_ List.mem_cons_self, fun z_ hz_ => h_ z_ (List.mem_cons_of_mem _ hz_)⟩
  · rintro ⟨h1_, h2_⟩ z_ hz_
    rcases List.mem_cons.mp hz_ with q_ | q_
    · rw [q_]; exact h1_
    · exact h2_ z_ q_
theorem eop_w {F_ : Nat} {k_ : Int} {G_ : pGr} {V_ : gV} {r_ : pGr × gV} (h_ : e_op F_ k_ G_ V_ = some r_) (hG_ : gwf F_ G_) (hV_ : lwV (F_ + G_.length) V_) (hl_ : F_ + r_.1.length ≤ 1023) : gwf F_ r_.1 ∧ lwV (F_ + r_.1.length) r_.2 := by
  have le_ := e_op_le h_
  unfold e_op at h_
  split at h_
  · split at h_
    · rename_i x_ l_
      cases h_
      have q_ := lwV_c.mp hV_
      refine ⟨hG_, lwV_c.mpr ⟨fun z_ hz_ => ?_, q_.2⟩⟩
      obtain ⟨w_, hw_, e_⟩ := List.mem_map.mp hz_
      rw [← e_]
      exact lz_x hl_ (q_.1 w_ hw_)
    · cases h_
  · split at h_
    · split at h_
      · rename_i e_ a_ c_ l_
        split at h_
        · cases h_
          have q_ := lwV_c.mp hV_
          have q2_ := lwV_c.mp q_.2
          have q3_ := lwV_c.mp q2_.2
          have w_ := ch_w a_ e_ G_ hG_ (q3_.1 c_ (by simp)) q2_.1 q_.1 hl_
          exact ⟨w_.1, lwV_c.mpr ⟨w_.2, lwV_up (Nat.add_le_add_left le_ F_) q3_.2⟩⟩
        · cases h_
      · cases h_
    · split at h_
      · split at h_
        · rename_i y_ x_ l_
          split at h_
          · cases h_
            have q_ := lwV_c.mp hV_
            have q2_ := lwV_c.mp q_.2
            have w_ := op_w hG_ q2_.1 q_.1 hl_
            exact ⟨w_.1, lwV_c.mpr ⟨w_.2, lwV_up (Nat.add_le_add_left le_ F_) q2_.2⟩⟩
          · cases h_
        · cases h_
      · cases h_
theorem shr2 {N_ : Nat} (hN_ : 1 ≤ N_) {d_ k_ : Int} : lz N_ (i_shr d_ k_ % 2) := by
  unfold lz
  omega
theorem eld_w {N_ m_ a_ : Nat} {A_ : pA} {k_ d_ : Int} {E_ : gE} {O_ : gO} {V_ W_ : gV} (h_ : e_ld A_ m_ k_ a_ d_ E_ O_ V_ = some W_) (hN_ : 1 ≤ N_) (hE_ : ∀ s_, lwl N_ (E_ s_)) (hO_ : ∀ s_ o_, O_ s_ = some o_ → ∀ t_, lwl N_ (o_ t_)) (hV_ : lwV N_ V_) : lwV N_ W_ := by
  unfold e_ld at h_
  split at h_
  · split at h_
    · rename_i x_ l_
      split at h_
      · rename_i al_
        cases h_
        have q_ := lwV_c.mp hV_
        refine lwV_c.mpr ⟨lwl_c.mpr ⟨?_, lwl_n⟩, q_.2⟩
        have e9_ : x_.getD a_ 0 = x_[a_] := by simp [List.getD, List.getElem?_eq_getElem al_]
        rw [e9_]
        exact q_.1 _ (List.getElem_mem al_)
      · cases h_
    · cases h_
  · split at h_
    · cases h_
    · split at h_
      · split at h_
        · cases h_
          refine lwV_c.mpr ⟨fun z_ hz_ => ?_, hV_⟩
          obtain ⟨w_, hw_, e_⟩ := List.mem_map.mp hz_
          rw [← e_]
          exact shr2 hN_
        · cases h_
      · split at h_
        · split at h_
          · cases h_
            exact lwV_c.mpr ⟨hE_ _, hV_⟩
          · cases h_
        · split at h_
          · split at h_
            · rename_i o_ ho_
              split at h_
              · cases h_
                exact lwV_c.mpr ⟨hO_ _ o_ ho_ _, hV_⟩
              · cases h_
            · cases h_
          · cases h_
/-- all_ literals of_ a_ state -/
def lwS (F_ : Nat) (s_ : gS) : Prop := gwf F_ s_.1.1 ∧ (∀ a_, lwl (F_ + s_.1.1.length) (s_.2.1 a_)) ∧ (∀ a_ o_, s_.2.2.1 a_ = some o_ → ∀ t_, lwl (F_ + s_.1.1.length) (o_ t_)) ∧ lwV (F_ + s_.1.1.length) s_.2.2.2


/-! steps taken apart -/
theorem e_st15 {I_ m_ a_ : Nat} {A_ : pA} {d_ : Int} {s_ r_ : gS} (h_ : e_st I_ A_ m_ 15 a_ d_ s_ = some r_) : a_ < A_.1 m_ ∧ s_.1.2.2 ≤ 200 ∧ s_.2.1 a_ = [] ∧ s_.2.2.1 a_ = none ∧ r_ = ((s_.1.1, s_.1.2.1, s_.1.2.2 + 1), s_.2.1, up1 s_.2.2.1 a_ (some fun _ => []), s_.2.2.2) := by
  unfold e_st at h_
  split at h_
  · cases h_
  · rw [if_pos rfl] at h_
    split at h_
    · rename_i g1_ g_
      cases h_
      exact ⟨by omega, g_.1, g_.2.1, g_.2.2, rfl⟩
    · cases h_
theorem e_st13 {I_ m_ a_ : Nat} {A_ : pA} {d_ : Int} {s_ r_ : gS} (h_ : e_st I_ A_ m_ 13 a_ d_ s_ = some r_) : a_ < A_.1 m_ ∧ s_.2.2.1 a_ = none ∧ 1 ≤ A_.2.2.2.1 (40 * m_ + a_) ∧ A_.2.2.2.1 (40 * m_ + a_) ≤ 8 ∧ s_.1.2.1 + (A_.2.2.2.1 (40 * m_ + a_)).toNat ≤ 6 ∧ r_ = ((s_.1.1, s_.1.2.1 + (A_.2.2.2.1 (40 * m_ + a_)).toNat, s_.1.2.2), up1 s_.2.1 a_ (r_bt I_ s_.1.2.1 (A_.2.2.2.1 (40 * m_ + a_)).toNat), s_.2.2.1, s_.2.2.2) := by
  unfold e_st at h_
  split at h_
  · cases h_
  · rw [if_neg (by decide), if_pos rfl] at h_
    split at h_
    · rename_i g1_ g_
      cases h_
      exact ⟨by omega, g_.1, g_.2.1, g_.2.2.1, g_.2.2.2, rfl⟩
    · cases h_
theorem e_stp {I_ m_ a_ : Nat} {A_ : pA} {k_ d_ : Int} {s_ r_ : gS} (h_ : e_st I_ A_ m_ k_ a_ d_ s_ = some r_) (h15_ : k_ ≠ 15) (h13_ : k_ ≠ 13) : a_ < A_.1 m_ ∧ ∃ x_ l_, s_.2.2.2 = x_ :: l_ ∧ ((k_ = 12 ∧ s_.2.2.1 a_ = none ∧ x_.length ≤ 8 ∧ r_ = (s_.1, up1 s_.2.1 a_ x_, s_.2.2.1, l_)) ∨ (k_ = 14 ∧ ∃ z_ y_, s_.2.1 a_ = z_ :: y_ ∧ 2 * (1 + (I_ : Int)) ≤ z_ ∧ z_ / 2 - 1 - I_ + x_.length ≤ 6 ∧ r_ = (s_.1, s_.2.1, s_.2.2.1, l_)) ∨ (k_ = 16 ∧ ∃ o_, s_.2.2.1 a_ = some o_ ∧ (0 ≤ d_ ∧ d_ < 40) ∧ x_.length ≤ 8 ∧ r_ = (s_.1, s_.2.1, up1 s_.2.2.1 a_ (some (up1 o_ d_.toNat x_)), l_))) := by
  unfold e_st at h_
  split at h_
  · cases h_
  · rename_i g0_
    try rw [if_neg h15_, if_neg h13_] at h_
    refine ⟨by omega, ?_⟩
    split at h_
    · cases h_
    · rename_i x_ l_ hs_
      refine ⟨x_, l_, hs_, ?_⟩
      split at h_
      · rename_i k12_
        split at h_
        · rename_i g_
          cases h_
          exact Or.inl ⟨k12_, g_.1, g_.2, rfl⟩
        · cases h_
      · split at h_
        · rename_i k14_
          split at h_
          · cases h_
          · rename_i z_ y_ hz_
            split at h_
            · rename_i g_
              cases h_
              exact Or.inr (Or.inl ⟨k14_, z_, y_, hz_, g_.1, g_.2, rfl⟩)
            · cases h_
        · split at h_
          · rename_i k16_
            split at h_
            · rename_i o_ ho_
              split at h_
              · rename_i g_
                cases h_
                exact Or.inr (Or.inr ⟨k16_, o_, ho_, ⟨g_.1, g_.2.1⟩, g_.2.2, rfl⟩)
              · cases h_
            · cases h_
          · cases h_
theorem ew17 {F_ I_ : Nat} {A_ : pA} {X_ : Nat → gQ → gE → Option (gQ × gE)} {m_ : Nat} {w_ : Int} {s_ r_ : gS} (h_ : ew F_ I_ A_ X_ m_ w_ s_ = some r_) (h17_ : w_ % 32 = 17) : ∃ o_ z_, s_.2.2.1 (w_ / 32 % 64).toNat = some o_ ∧ s_.2.2.2 = [] ∧ (w_ / 32 % 64).toNat < A_.1 m_ ∧ 0 ≤ w_ / 2048 ∧ w_ / 2048 < m_ ∧ X_ (w_ / 2048).toNat s_.1 o_ = some z_ ∧ r_ = (z_.1, s_.2.1, up1 s_.2.2.1 (w_ / 32 % 64).toNat (some z_.2), []) := by
  unfold ew at h_
  rw [if_pos h17_] at h_
  split at h_
  · rename_i o_ ho_ hv_
    split at h_
    · rename_i g_
      split at h_
      · rename_i z_ hz_
        cases h_
        exact ⟨o_, z_, ho_, hv_, g_.1, g_.2.1, g_.2.2, hz_, rfl⟩
      · cases h_
    · cases h_
  · cases h_
theorem ew_o {F_ I_ : Nat} {A_ : pA} {X_ : Nat → gQ → gE → Option (gQ × gE)} {m_ : Nat} {w_ : Int} {s_ r_ : gS} (h_ : ew F_ I_ A_ X_ m_ w_ s_ = some r_) (h17_ : w_ % 32 ≠ 17) (h7_ : w_ % 32 ≤ 7) : ∃ z_, e_op F_ (w_ % 32) s_.1.1 s_.2.2.2 = some z_ ∧ r_ = ((z_.1, s_.1.2), s_.2.1, s_.2.2.1, z_.2) := by
  unfold ew at h_
  rw [if_neg h17_, if_pos h7_] at h_
  split at h_
  · rename_i z_ hz_
    cases h_
    exact ⟨z_, hz_, rfl⟩
  · cases h_
theorem ew_l {F_ I_ : Nat} {A_ : pA} {X_ : Nat → gQ → gE → Option (gQ × gE)} {m_ : Nat} {w_ : Int} {s_ r_ : gS} (h_ : ew F_ I_ A_ X_ m_ w_ s_ = some r_) (h17_ : w_ % 32 ≠ 17) (h7_ : ¬ w_ % 32 ≤ 7) (h11_ : w_ % 32 ≤ 11) : ∃ V_, e_ld A_ m_ (w_ % 32) (w_ / 32 % 64).toNat (w_ / 2048) s_.2.1 s_.2.2.1 s_.2.2.2 = some V_ ∧ r_ = (s_.1, s_.2.1, s_.2.2.1, V_) := by
  unfold ew at h_
  rw [if_neg h17_, if_neg h7_, if_pos h11_] at h_
  split at h_
  · rename_i z_ hz_
    cases h_
    exact ⟨z_, hz_, rfl⟩
  · cases h_
theorem ew_s {F_ I_ : Nat} {A_ : pA} {X_ : Nat → gQ → gE → Option (gQ × gE)} {m_ : Nat} {w_ : Int} {s_ r_ : gS} (h_ : ew F_ I_ A_ X_ m_ w_ s_ = some r_) (h17_ : w_ % 32 ≠ 17) (h11_ : ¬ w_ % 32 ≤ 11) : e_st I_ A_ m_ (w_ % 32) (w_ / 32 % 64).toNat (w_ / 2048) s_ = some r_ := by
  unfold ew at h_
  rw [if_neg h17_, if_neg (by omega), if_neg h11_] at h_
  exact h_
theorem e_st_k {I_ m_ a_ : Nat} {A_ : pA} {k_ d_ : Int} {s_ r_ : gS} (h_ : e_st I_ A_ m_ k_ a_ d_ s_ = some r_) : 12 ≤ k_ ∧ k_ ≤ 16 := by
  by_cases g1_ : k_ = 15
  · omega
  · by_cases g2_ : k_ = 13
    · omega
    · obtain ⟨_, x_, l_, _, q_⟩ := e_stp h_ g1_ g2_
      rcases q_ with q_ | q_ | q_
      · have := q_.1; omega
      · have := q_.1; omega
      · have := q_.1; omega
theorem up1_w {N_ a_ : Nat} {E_ : gE} {v_ : List Int} (hE_ : ∀ s_, lwl N_ (E_ s_)) (hv_ : lwl N_ v_) : ∀ s_, lwl N_ (up1 E_ a_ v_ s_) := by
  intro s_
  unfold up1
  split
  · exact hv_
  · exact hE_ s_
theorem rbt_w {F_ I_ R_ wd_ : Nat} (h_ : 1 + I_ + R_ + wd_ ≤ F_) {N_ : Nat} (hN_ : F_ ≤ N_) : lwl N_ (r_bt I_ R_ wd_) := by
  intro z_ hz_
  obtain ⟨w_, hw_, e_⟩ := List.mem_map.mp hz_
  have := List.mem_range.mp hw_
  rw [← e_]
  unfold lz
  push_cast
  omega
theorem est_w {F_ I_ m_ a_ : Nat} {A_ : pA} {k_ d_ : Int} {s_ r_ : gS} (h_ : e_st I_ A_ m_ k_ a_ d_ s_ = some r_) (hR_ : 1 + I_ + r_.1.2.1 ≤ F_) (hs_ : lwS F_ s_) : lwS F_ r_ := by
  obtain ⟨h1_, h2_, h3_, h4_⟩ := hs_
  by_cases k15_ : k_ = 15
  · subst k15_
    obtain ⟨-, -, -, -, e_⟩ := e_st15 h_
    subst e_
    refine ⟨h1_, h2_, fun b_ o_ ho_ t_ => ?_, h4_⟩
    have ho_ : (if b_ = a_ then some (fun _ => []) else s_.2.2.1 b_) = some o_ := ho_
    split at ho_
    · cases ho_
      exact lwl_n
    · exact h3_ b_ o_ ho_ t_
  · by_cases k13_ : k_ = 13
    · subst k13_
      obtain ⟨-, -, -, -, -, e_⟩ := e_st13 h_
      subst e_
      have hR2_ : 1 + I_ + (s_.1.2.1 + (A_.2.2.2.1 (40 * m_ + a_)).toNat) ≤ F_ := hR_
      exact ⟨h1_, up1_w h2_ (rbt_w (F_ := F_) (by omega) (Nat.le_add_right _ _)), h3_, h4_⟩
    · obtain ⟨-, x_, l_, e_, q_⟩ := e_stp h_ k15_ k13_
      rw [e_] at h4_
      have v_ := lwV_c.mp h4_
      rcases q_ with ⟨-, -, -, q_⟩ | ⟨-, z_, y_, -, -, -, q_⟩ | ⟨-, o_, ho_, -, -, q_⟩
      · subst q_
        exact ⟨h1_, up1_w h2_ v_.1, h3_, v_.2⟩
      · subst q_
        exact ⟨h1_, h2_, h3_, v_.2⟩
      · subst q_
        refine ⟨h1_, h2_, fun b_ o1_ ho1_ t_ => ?_, v_.2⟩
        have ho1_ : (if b_ = a_ then some (up1 o_ d_.toNat x_) else s_.2.2.1 b_) = some o1_ := ho1_
        split at ho1_
        · cases ho1_
          exact up1_w (fun s_ => h3_ a_ o_ ho_ s_) v_.1 t_
        · exact h3_ b_ o1_ ho1_ t_
theorem est_R {I_ m_ a_ : Nat} {A_ : pA} {k_ d_ : Int} {s_ r_ : gS} (h_ : e_st I_ A_ m_ k_ a_ d_ s_ = some r_) : s_.1.2.1 ≤ r_.1.2.1 := by
  by_cases k15_ : k_ = 15
  · subst k15_
    obtain ⟨-, -, -, -, e_⟩ := e_st15 h_
    subst e_
    exact Nat.le_refl _
  · by_cases k13_ : k_ = 13
    · subst k13_
      obtain ⟨-, -, -, -, -, e_⟩ := e_st13 h_
      subst e_
      exact Nat.le_add_right _ _
    · obtain ⟨-, x_, l_, e_, q_⟩ := e_stp h_ k15_ k13_
      rcases q_ with ⟨-, -, -, q_⟩ | ⟨-, z_, y_, -, -, -, q_⟩ | ⟨-, o_, ho_, -, -, q_⟩
      · subst q_; exact Nat.le_refl _
      · subst q_; exact Nat.le_refl _
      · subst q_; exact Nat.le_refl _
/-- what is_ asked of_ the_ modules used -/
def lwX (F_ I_ : Nat) (X_ : Nat → gQ → gE → Option (gQ × gE)) : Prop := ∀ d_ q_ e_ z_, X_ d_ q_ e_ = some z_ → q_.1.length ≤ z_.1.1.length ∧ q_.2.1 ≤ z_.1.2.1 ∧ (F_ + z_.1.1.length ≤ 1023 → 1 + I_ + z_.1.2.1 ≤ F_ → gwf F_ q_.1 → (∀ a_, lwl (F_ + q_.1.length) (e_ a_)) → gwf F_ z_.1.1 ∧ ∀ a_, lwl (F_ + z_.1.1.length) (z_.2 a_))
theorem ew_R {F_ I_ : Nat} {A_ : pA} {X_ : Nat → gQ → gE → Option (gQ × gE)} {m_ : Nat} {w_ : Int} {s_ r_ : gS} (hX_ : lwX F_ I_ X_) (h_ : ew F_ I_ A_ X_ m_ w_ s_ = some r_) : s_.1.2.1 ≤ r_.1.2.1 := by
  by_cases c17_ : w_ % 32 = 17
  · obtain ⟨o_, z_, -, -, -, -, -, q_, e_⟩ := ew17 h_ c17_
    subst e_
    exact (hX_ _ _ _ _ q_).2.1
  · by_cases c7_ : w_ % 32 ≤ 7
    · obtain ⟨z_, -, e_⟩ := ew_o h_ c17_ c7_
      subst e_
      exact Nat.le_refl _
    · by_cases c11_ : w_ % 32 ≤ 11
      · obtain ⟨z_, -, e_⟩ := ew_l h_ c17_ c7_ c11_
        subst e_
        exact Nat.le_refl _
      · exact est_R (ew_s h_ c17_ c11_)
theorem ew_w {F_ I_ : Nat} {A_ : pA} {X_ : Nat → gQ → gE → Option (gQ × gE)} {m_ : Nat} {w_ : Int} {s_ r_ : gS} (hX_ : lwX F_ I_ X_) (h_ : ew F_ I_ A_ X_ m_ w_ s_ = some r_) (hl_ : F_ + r_.1.1.length ≤ 1023) (hR_ : 1 + I_ + r_.1.2.1 ≤ F_) (hs_ : lwS F_ s_) : lwS F_ r_ := by
  obtain ⟨h1_, h2_, h3_, h4_⟩ := id hs_
  by_cases c17_ : w_ % 32 = 17
  · obtain ⟨o_, z_, ho_, -, -, -, -, q_, e_⟩ := ew17 h_ c17_
    subst e_
    have x_ := hX_ _ _ _ _ q_
    have y_ := x_.2.2 hl_ hR_ h1_ (fun t_ => h3_ _ o_ ho_ t_)
    have le_ : F_ + s_.1.1.length ≤ F_ + z_.1.1.length := by have := x_.1; omega
    refine ⟨y_.1, fun t_ => lwl_up le_ (h2_ t_), fun b_ o1_ ho1_ t_ => ?_, fun v_ hv_ => by simp at hv_⟩
    have ho1_ : (if b_ = (w_ / 32 % 64).toNat then some z_.2 else s_.2.2.1 b_) = some o1_ := ho1_
    split at ho1_
    · cases ho1_
      exact y_.2 t_
    · exact lwl_up le_ (h3_ b_ o1_ ho1_ t_)
  · by_cases c7_ : w_ % 32 ≤ 7
    · obtain ⟨z_, q_, e_⟩ := ew_o h_ c17_ c7_
      subst e_
      have le_ : F_ + s_.1.1.length ≤ F_ + z_.1.length := by have := e_op_le q_; omega
      have y_ := eop_w q_ h1_ h4_ hl_
      exact ⟨y_.1, fun t_ => lwl_up le_ (h2_ t_), fun b_ o1_ ho1_ t_ => lwl_up le_ (h3_ b_ o1_ ho1_ t_), y_.2⟩
    · by_cases c11_ : w_ % 32 ≤ 11
      · obtain ⟨z_, q_, e_⟩ := ew_l h_ c17_ c7_ c11_
        subst e_
        exact ⟨h1_, h2_, h3_, eld_w q_ (by have := h1_.1; omega) h2_ h3_ h4_⟩
      · exact est_w (ew_s h_ c17_ c11_) hR_ hs_
theorem ec_R {F_ I_ : Nat} {A_ : pA} {X_ : Nat → gQ → gE → Option (gQ × gE)} {m_ : Nat} (hX_ : lwX F_ I_ X_) : ∀ (c_ : List Int) (s_ r_ : gS), ec F_ I_ A_ X_ m_ c_ s_ = some r_ → s_.1.2.1 ≤ r_.1.2.1
  | [], s_, r_, h_ => by cases h_; exact Nat.le_refl _
  | w_ :: c_, s_, r_, h_ => by
    rw [ec] at h_
    split at h_
    · rename_i e_
      exact Nat.le_trans (ew_R hX_ e_) (ec_R hX_ c_ _ _ h_)
    · cases h_
theorem ec_w {F_ I_ : Nat} {A_ : pA} {X_ : Nat → gQ → gE → Option (gQ × gE)} {m_ : Nat} (hX_ : lwX F_ I_ X_) : ∀ (c_ : List Int) (s_ r_ : gS), ec F_ I_ A_ X_ m_ c_ s_ = some r_ → F_ + r_.1.1.length ≤ 1023 → 1 + I_ + r_.1.2.1 ≤ F_ → lwS F_ s_ → lwS F_ r_
  | [], s_, r_, h_, _, _, hs_ => by cases h_; exact hs_
  | w_ :: c_, s_, r_, h_, hl_, hR_, hs_ => by
    rw [ec] at h_
    split at h_
    · rename_i s1_ e_
      have l1_ := ec_le (fun d_ q_ e_ z_ hz_ => (hX_ d_ q_ e_ z_ hz_).1) c_ _ _ h_
      have l2_ := ec_R hX_ c_ _ _ h_
      exact ec_w hX_ c_ _ _ h_ hl_ hR_ (ew_w hX_ e_ (by omega) (by omega) hs_)
    · cases h_
theorem exm_w {F_ I_ : Nat} {A_ : pA} {C_ : Nat → List Int} : ∀ f_ : Nat, lwX F_ I_ (exm F_ I_ A_ C_ f_)
  | 0, _, _, _, _, h_ => by cases h_
  | f_ + 1, d_, q_, e_, z_, h_ => by
    have ih_ := exm_w (F_ := F_) (I_ := I_) (A_ := A_) (C_ := C_) f_
    have le_ := exm_le _ _ _ _ _ h_
    rw [exm] at h_
    split at h_
    · rename_i s_ e1_
      split at h_
      · cases h_
        refine ⟨le_, ec_R ih_ _ _ _ e1_, fun hl_ hR_ hG_ he_ => ?_⟩
        have w_ := ec_w ih_ _ _ _ e1_ hl_ hR_ ⟨hG_, he_, (fun a_ o_ ho_ => by cases ho_), (fun v_ hv_ => by cases hv_)⟩
        exact ⟨w_.1, w_.2.1⟩
      · cases h_
    · cases h_
end
/-! 99.zb1a -/
section
/-! the class: AND; written by wip/p55/gen/vg -/
/-! Design.firstAnd -/
def vw_63 : sx_Wl := ([], [], [])
def vq_63 (dd_ : Nat) (S0_ : sm_S) (u_ : Option sm_V) (S1_ : sm_S) : Prop := S0_ = S1_ ∧ ∃ v_ : Int, u_ = some (.inl v_) ∧ (v_ = 1 + S0_.1 3 dd_ 1 + S0_.1 3 dd_ 2)
set_option maxHeartbeats 400000 in
theorem vc_63 {sc_ : Nat × (Nat → Int)} (dd_ : Nat) (S0_ : sm_S) (hI_ : gi S0_) (hx_ : 0 ≤ S0_.1 3 dd_ 1 + S0_.1 3 dd_ 2) : sm_T (mt_P sc_) 0 63 (0, [some (.inr (.inr (some (3, dd_))))], [], S0_) (fun ro9_ => ∃ u_ S1_, ro9_ = (.inl u_, S1_, 0) ∧ vq_63 dd_ S0_ u_ S1_) := by
  have hF_ : ai_fr (sx_W vw_63) S0_ S0_ := ai_fr_rf
  have bx1_ : 0 ≤ S0_.1 3 dd_ 1 ∧ S0_.1 3 dd_ 1 ≤ 320 := hI_.1 3 dd_ 1 rfl
  refine sm_T_go 3 (c1 := (5, [some (.inr (.inr (some (3, dd_))))], [.inl (S0_.1 3 dd_ 1), .inl 1], S0_)) rfl ?_
  refine sm_T_bin (w := (S0_.1 3 dd_ 1) + 1) rfl (bi_add (by omega) (by omega) (by omega)) ?_
  have bx2_ : 0 ≤ S0_.1 3 dd_ 2 ∧ S0_.1 3 dd_ 2 ≤ 100000 := hI_.1 3 dd_ 2 rfl
  refine sm_T_go 2 (c1 := (10, [some (.inr (.inr (some (3, dd_))))], [.inl (S0_.1 3 dd_ 2), .inl ((S0_.1 3 dd_ 1) + 1)], S0_)) rfl ?_
  refine sm_T_bin (w := (S0_.1 3 dd_ 1) + (S0_.1 3 dd_ 2) + 1) rfl (bi_add (by omega) (by omega) (by omega)) ?_
  refine sm_T_ri rfl ⟨_, _, rfl, rfl, _, rfl, ?_⟩
  omega
end
/-! 99.zb1b -/
section
/-! Builder.both -/
def vw_44 : sx_Wl := ([(1, 8), (3, 4)], [29, 42, 43], [])
def vq_44 (x_ : Int) (y_ : Int) (dd_ : Nat) (F_ : Nat) (G_ : pGr) (A_ : Int) (B_ : Int) (S0_ : sm_S) (u_ : Option sm_V) (S1_ : sm_S) : Prop := ∃ v_ : Int, u_ = some (.inl v_) ∧ gi S1_ ∧ ai_fr (sx_W vw_44) S0_ S1_ ∧ (idf dd_ S0_ S1_ ∧ (cgl dd_ F_ (g_an F_ G_ A_ B_).2 S1_ ∧ (imq ((g_an F_ G_ A_ B_).2.length ≤ 1000) (v_ = (g_an F_ G_ A_ B_).1)) ∧ (0 ≤ v_ ∧ v_ ≤ 2025)))
set_option maxHeartbeats 2000000 in
set_option maxRecDepth 20000 in
theorem vl_44 {sc_ : Nat × (Nat → Int)} (x_ : Int) (y_ : Int) (dd_ : Nat) (F_ : Nat) (G_ : pGr) (A_ : Int) (B_ : Int) (S0_ : sm_S) (hd_ : S0_.2.1 1 0 1 = some dd_) (hg_ : cgl dd_ F_ G_ S0_) (hx_ : 0 ≤ x_ ∧ x_ ≤ 2025) (hy_ : 0 ≤ y_ ∧ y_ ≤ 2025) (hab_ : imq (G_.length ≤ 1000) (x_ = A_ ∧ y_ = B_)) : ∀ nn_ : Nat, (∀ (a_ : Int) (b_ : Int) (ap_ : Int) (pr_ : Int) (S_ : sm_S), gi S_ → ai_fr (sx_W vw_44) S0_ S_ → ((S_ = S0_) ∧ (0 ≤ pr_ ∧ pr_ ≤ 4096 ∧ ap_ = (2027 * a_ + 31 * b_ + pr_) % 4096) ∧ ((0 ≤ a_ ∧ a_ ≤ 2025) ∧ 0 ≤ b_ ∧ b_ ≤ 2025) ∧ ((x_ < y_ ∧ a_ = x_ ∧ b_ = y_) ∨ (y_ ≤ x_ ∧ a_ = y_ ∧ b_ = x_)) ∧ (¬ (a_ = 0 ∨ a_ = i_xor b_ 1)) ∧ (¬ (a_ = 1 ∨ a_ = b_)) ∧ (∀ i_, i_ < pr_.toNat → S_.2.2.1 29 0 (hpl a_ b_ i_) ≠ 0 ∧ ¬ (S_.2.2.1 42 (0 + dd_) (S_.2.2.1 29 0 (hpl a_ b_ i_)).toNat = a_ ∧ S_.2.2.1 43 (0 + dd_) (S_.2.2.1 29 0 (hpl a_ b_ i_)).toNat = b_)) ∧ (idf dd_ S0_ S_) ∧ True) → ((4096 - pr_).toNat) < nn_ → sm_T (mt_P sc_) 1 44 (61, [some (.inr (.inr (some (1, 0)))), some (.inl x_), some (.inl y_), some (.inl a_), some (.inl b_), some (.inl ap_), some (.inl pr_), none], [], S_) (fun ro9_ => ∃ u_ S1_, ro9_ = (.inl u_, S1_, 0) ∧ vq_44 x_ y_ dd_ F_ G_ A_ B_ S0_ u_ S1_)) := by
  intro nn_
  induction nn_ with
  | zero => exact fun _ _ _ _ _ _ _ _ h_ => absurd h_ (Nat.not_lt_zero _)
  | succ nn_ ih_ =>
    rintro a_ b_ ap_ pr_ S_ hI_ hF_ ⟨hS_, h0_, hbd_, hmn_, hn0_, hn1_, h2_, hD_, -⟩ hm_
    have hgS_ : cgl dd_ F_ G_ S_ := by rw [hS_]; exact hg_
    obtain ⟨G1_, hG1_, hG2_⟩ := id hgS_
    obtain ⟨x1_, x2_, x3_, x4_, x5_, x6_, x7_, x8_⟩ := id hG1_
    have h2b : ∀ i_, i_ < pr_.toNat → S_.2.2.1 29 0 (hpl a_ b_ i_) ≠ 0 ∧ ∀ k_ : Nat, S_.2.2.1 29 0 (hpl a_ b_ i_) = ((F_ + k_ : Nat) : Int) → G1_[k_]? ≠ some (a_, b_) := fun i_ hi_ => ⟨(h2_ i_ hi_).1, fun k_ e_ q_ => (h2_ i_ hi_).2 (by rw [e_, Int.toNat_natCast]; exact x6_ k_ a_ b_ q_)⟩
    refine sm_T_go 2 (c1 := (66, [some (.inr (.inr (some (1, 0)))), some (.inl x_), some (.inl y_), some (.inl a_), some (.inl b_), some (.inl ap_), some (.inl pr_), none], [.inl 4096, .inl pr_], S_)) rfl ?_
    refine sm_T_br (a := 3) (z := 72) rfl (fun cx1_ => ?_) (fun cx1_ => ?_)
    · have cx1_ : 4096 ≤ pr_ := of_decide_eq_true cx1_
      have fd_ := bk_fd (j_ := pr_.toNat) (a_ := a_) (b_ := b_) x8_ x5_ x3_.1 (by omega) h2b (by have q9_ : hpl a_ b_ pr_.toNat = ap_.toNat := (by unfold hpl; omega); rw [q9_]; omega)
      have ap9_ : hpl a_ b_ pr_.toNat = ap_.toNat := by unfold hpl; omega
      refine sm_T_go 1 (c1 := (139, [some (.inr (.inr (some (1, 0)))), some (.inl x_), some (.inl y_), some (.inl a_), some (.inl b_), some (.inl ap_), some (.inl pr_), none], [.inr (.inr (some (1, 0)))], S_)) rfl ?_
      refine sm_T_gr rfl rfl ((hF_.2.1 1 0 1 rfl).trans hd_) ?_
      have bx2_ : 0 ≤ S_.1 3 dd_ 4 ∧ S_.1 3 dd_ 4 ≤ 1013 := hI_.1 3 dd_ 4 rfl
      refine sm_T_go 2 (c1 := (146, [some (.inr (.inr (some (1, 0)))), some (.inl x_), some (.inl y_), some (.inl a_), some (.inl b_), some (.inl ap_), some (.inl pr_), none], [.inr (.inr (some (1, 0))), .inl (S_.1 3 dd_ 4)], S_)) rfl ?_
      refine sm_T_gr rfl rfl ((hF_.2.1 1 0 1 rfl).trans hd_) ?_
      refine sm_T_cal (d1 := 0) (Q1 := vq_63 dd_ S_) rfl rfl (by decide) (vc_63 dd_ S_ hI_ (by omega)) (fun u_ Sx3_ px6_ => ?_)
      obtain ⟨rfl, vx8_, rfl, px6_⟩ := px6_
      have e149_ := px6_
      refine sm_T_bin (w := (S_.1 3 dd_ 4) - vx8_) rfl (bi_sub (by omega) (by omega) (by omega)) ?_
      refine sm_T_go 1 (c1 := (156, [some (.inr (.inr (some (1, 0)))), some (.inl x_), some (.inl y_), some (.inl a_), some (.inl b_), some (.inl ap_), some (.inl pr_), none], [.inl 1000, .inl ((S_.1 3 dd_ 4) - vx8_)], S_)) rfl ?_
      refine sm_T_br (a := 2) (z := 10) rfl (fun cx9_ => ?_) (fun cx9_ => ?_)
      · have cx9_ : (S_.1 3 dd_ 4) - vx8_ < 1000 := of_decide_eq_true cx9_
        refine sm_T_go 1 (c1 := (167, [some (.inr (.inr (some (1, 0)))), some (.inl x_), some (.inl y_), some (.inl a_), some (.inl b_), some (.inl ap_), some (.inl pr_), none], [.inr (.inr (some (1, 0)))], S_)) rfl ?_
        refine sm_T_gr rfl rfl ((hF_.2.1 1 0 1 rfl).trans hd_) ?_
        refine sm_T_go 6 (c1 := (183, [some (.inr (.inr (some (1, 0)))), some (.inl x_), some (.inl y_), some (.inl a_), some (.inl b_), some (.inl ap_), some (.inl (S_.1 3 dd_ 4)), none], [.inl (S_.1 3 dd_ 4), .inl ap_, .inr (.inr (some (29, 0)))], S_)) rfl ?_
        refine sm_T_iast (n := 4096) rfl rfl (by omega) (by omega) ?_
        have hIx10_ : gi (sm_aI S_ 29 0 ap_.toNat (S_.1 3 dd_ 4)) := gi_aI hI_ (show (-1) ≤ (S_.1 3 dd_ 4) ∧ (S_.1 3 dd_ 4) ≤ 1012 from ⟨by omega, by omega⟩)
        have hFx11_ : ai_fr (sx_W vw_44) S0_ (sm_aI S_ 29 0 ap_.toNat (S_.1 3 dd_ 4)) := ai_fr_tr hF_ (ai_fr_aI rfl)
        have hDx12_ : idf dd_ S0_ (sm_aI S_ 29 0 ap_.toNat (S_.1 3 dd_ 4)) := idf_aI hD_ (Or.inl (by decide))
        refine sm_T_go 1 (c1 := (185, [some (.inr (.inr (some (1, 0)))), some (.inl x_), some (.inl y_), some (.inl a_), some (.inl b_), some (.inl ap_), some (.inl (S_.1 3 dd_ 4)), none], [.inr (.inr (some (1, 0)))], sm_aI S_ 29 0 ap_.toNat (S_.1 3 dd_ 4))) rfl ?_
        refine sm_T_gr rfl rfl ((hFx11_.2.1 1 0 1 rfl).trans hd_) ?_
        refine sm_T_go 3 (c1 := (194, [some (.inr (.inr (some (1, 0)))), some (.inl x_), some (.inl y_), some (.inl a_), some (.inl b_), some (.inl ap_), some (.inl (S_.1 3 dd_ 4)), none], [.inl a_, .inl (S_.1 3 dd_ 4), .inr (.inr (some (42, (0 + dd_))))], sm_aI S_ 29 0 ap_.toNat (S_.1 3 dd_ 4))) rfl ?_
        refine sm_T_iast (n := 1013) rfl rfl (by omega) (by omega) ?_
        have hIx13_ : gi (sm_aI (sm_aI S_ 29 0 ap_.toNat (S_.1 3 dd_ 4)) 42 (0 + dd_) (S_.1 3 dd_ 4).toNat a_) := gi_aI hIx10_ (show 0 ≤ a_ ∧ a_ ≤ 2025 from ⟨by omega, by omega⟩)
        have hFx14_ : ai_fr (sx_W vw_44) S0_ (sm_aI (sm_aI S_ 29 0 ap_.toNat (S_.1 3 dd_ 4)) 42 (0 + dd_) (S_.1 3 dd_ 4).toNat a_) := ai_fr_tr hFx11_ (ai_fr_aI rfl)
        have hDx15_ : idf dd_ S0_ (sm_aI (sm_aI S_ 29 0 ap_.toNat (S_.1 3 dd_ 4)) 42 (0 + dd_) (S_.1 3 dd_ 4).toNat a_) := idf_aI hDx12_ (Or.inr rfl)
        refine sm_T_go 1 (c1 := (196, [some (.inr (.inr (some (1, 0)))), some (.inl x_), some (.inl y_), some (.inl a_), some (.inl b_), some (.inl ap_), some (.inl (S_.1 3 dd_ 4)), none], [.inr (.inr (some (1, 0)))], sm_aI (sm_aI S_ 29 0 ap_.toNat (S_.1 3 dd_ 4)) 42 (0 + dd_) (S_.1 3 dd_ 4).toNat a_)) rfl ?_
        refine sm_T_gr rfl rfl ((hFx14_.2.1 1 0 1 rfl).trans hd_) ?_
        refine sm_T_go 3 (c1 := (206, [some (.inr (.inr (some (1, 0)))), some (.inl x_), some (.inl y_), some (.inl a_), some (.inl b_), some (.inl ap_), some (.inl (S_.1 3 dd_ 4)), none], [.inl b_, .inl (S_.1 3 dd_ 4), .inr (.inr (some (43, (0 + dd_))))], sm_aI (sm_aI S_ 29 0 ap_.toNat (S_.1 3 dd_ 4)) 42 (0 + dd_) (S_.1 3 dd_ 4).toNat a_)) rfl ?_
        refine sm_T_iast (n := 1013) rfl rfl (by omega) (by omega) ?_
        have hIx16_ : gi (sm_aI (sm_aI (sm_aI S_ 29 0 ap_.toNat (S_.1 3 dd_ 4)) 42 (0 + dd_) (S_.1 3 dd_ 4).toNat a_) 43 (0 + dd_) (S_.1 3 dd_ 4).toNat b_) := gi_aI hIx13_ (show 0 ≤ b_ ∧ b_ ≤ 2025 from ⟨by omega, by omega⟩)
        have hFx17_ : ai_fr (sx_W vw_44) S0_ (sm_aI (sm_aI (sm_aI S_ 29 0 ap_.toNat (S_.1 3 dd_ 4)) 42 (0 + dd_) (S_.1 3 dd_ 4).toNat a_) 43 (0 + dd_) (S_.1 3 dd_ 4).toNat b_) := ai_fr_tr hFx14_ (ai_fr_aI rfl)
        have hDx18_ : idf dd_ S0_ (sm_aI (sm_aI (sm_aI S_ 29 0 ap_.toNat (S_.1 3 dd_ 4)) 42 (0 + dd_) (S_.1 3 dd_ 4).toNat a_) 43 (0 + dd_) (S_.1 3 dd_ 4).toNat b_) := idf_aI hDx15_ (Or.inr rfl)
        refine sm_T_go 1 (c1 := (208, [some (.inr (.inr (some (1, 0)))), some (.inl x_), some (.inl y_), some (.inl a_), some (.inl b_), some (.inl ap_), some (.inl (S_.1 3 dd_ 4)), none], [.inr (.inr (some (1, 0)))], sm_aI (sm_aI (sm_aI S_ 29 0 ap_.toNat (S_.1 3 dd_ 4)) 42 (0 + dd_) (S_.1 3 dd_ 4).toNat a_) 43 (0 + dd_) (S_.1 3 dd_ 4).toNat b_)) rfl ?_
        refine sm_T_gr rfl rfl ((hFx17_.2.1 1 0 1 rfl).trans hd_) ?_
        refine sm_T_go 3 (c1 := (216, [some (.inr (.inr (some (1, 0)))), some (.inl x_), some (.inl y_), some (.inl a_), some (.inl b_), some (.inl ap_), some (.inl (S_.1 3 dd_ 4)), none], [.inl 1, .inl (S_.1 3 dd_ 4), .inr (.inr (some (3, dd_)))], sm_aI (sm_aI (sm_aI S_ 29 0 ap_.toNat (S_.1 3 dd_ 4)) 42 (0 + dd_) (S_.1 3 dd_ 4).toNat a_) 43 (0 + dd_) (S_.1 3 dd_ 4).toNat b_)) rfl ?_
        refine sm_T_bin (w := (S_.1 3 dd_ 4) + 1) rfl (bi_add (by omega) (by omega) (by omega)) ?_
        have hIx19_ : gi (sm_pI (sm_aI (sm_aI (sm_aI S_ 29 0 ap_.toNat (S_.1 3 dd_ 4)) 42 (0 + dd_) (S_.1 3 dd_ 4).toNat a_) 43 (0 + dd_) (S_.1 3 dd_ 4).toNat b_) 3 dd_ 4 ((S_.1 3 dd_ 4) + 1)) := gi_pI hIx16_ (show 0 ≤ (S_.1 3 dd_ 4) + 1 ∧ (S_.1 3 dd_ 4) + 1 ≤ 1013 from ⟨by omega, by omega⟩)
        have hFx20_ : ai_fr (sx_W vw_44) S0_ (sm_pI (sm_aI (sm_aI (sm_aI S_ 29 0 ap_.toNat (S_.1 3 dd_ 4)) 42 (0 + dd_) (S_.1 3 dd_ 4).toNat a_) 43 (0 + dd_) (S_.1 3 dd_ 4).toNat b_) 3 dd_ 4 ((S_.1 3 dd_ 4) + 1)) := ai_fr_tr hFx17_ (ai_fr_pI rfl)
        have hDx21_ : idf dd_ S0_ (sm_pI (sm_aI (sm_aI (sm_aI S_ 29 0 ap_.toNat (S_.1 3 dd_ 4)) 42 (0 + dd_) (S_.1 3 dd_ 4).toNat a_) 43 (0 + dd_) (S_.1 3 dd_ 4).toNat b_) 3 dd_ 4 ((S_.1 3 dd_ 4) + 1)) := idf_pI hDx18_ (Or.inr rfl)
        refine sm_T_go 3 (c1 := (223, [some (.inr (.inr (some (1, 0)))), some (.inl x_), some (.inl y_), some (.inl a_), some (.inl b_), some (.inl ap_), some (.inl (S_.1 3 dd_ 4)), none], [.inl (S_.1 3 dd_ 4), .inl 2], sm_pI (sm_aI (sm_aI (sm_aI S_ 29 0 ap_.toNat (S_.1 3 dd_ 4)) 42 (0 + dd_) (S_.1 3 dd_ 4).toNat a_) 43 (0 + dd_) (S_.1 3 dd_ 4).toNat b_) 3 dd_ 4 ((S_.1 3 dd_ 4) + 1))) rfl ?_
        refine sm_T_bin (w := 2 * (S_.1 3 dd_ 4)) rfl (bi_mul (by omega) (by omega) (by omega)) ?_
        refine sm_T_ri rfl ⟨_, _, rfl, _, rfl, hIx19_, hFx20_, ?_⟩
        refine ⟨hDx21_, ?_⟩
        have ea_ : g_an F_ G1_ x_ y_ = (2 * ((F_ + G1_.length : Nat) : Int), G1_ ++ [(a_, b_)]) := by rw [g_an_mn hmn_, g_a2_n hn0_ hn1_ fd_.2.2]
        have nn9_ : (S_.1 3 dd_ 4).toNat = F_ + G1_.length := by omega
        have hr_ := an_go (v_ := 2 * S_.1 3 dd_ 4) (S1_ := (sm_pI (sm_aI (sm_aI (sm_aI S_ 29 0 ap_.toNat (S_.1 3 dd_ 4)) 42 (0 + dd_) (S_.1 3 dd_ 4).toNat a_) 43 (0 + dd_) (S_.1 3 dd_ 4).toNat b_) 3 dd_ 4 ((S_.1 3 dd_ 4) + 1))) hG1_ hG2_ hab_ (Or.inl ⟨by rw [ea_]; exact cgx_up (j_ := pr_.toNat) hG1_ (by omega) (by omega) (fun i_ hi_ => (h2_ i_ hi_).1) fd_.1 fd_.2.2 rfl (by (try simp only [rd_eq, rd_ne, rf_eq, rf_nk, rf_nt, rd_fa, rd_af, rd_fl, rd_al, rd_lf, rd_la, rd_leq, rd_lne, rd_fr, rd_ar, ne_eq, Nat.reduceEqDiff, not_false_eq_true])) (by (try simp only [rd_eq, rd_ne, rf_eq, rf_nk, rf_nt, rd_fa, rd_af, rd_fl, rd_al, rd_lf, rd_la, rd_leq, rd_lne, rd_fr, rd_ar, ne_eq, Nat.reduceEqDiff, not_false_eq_true])) (by (try simp only [rd_eq, rd_ne, rf_eq, rf_nk, rf_nt, rd_fa, rd_af, rd_fl, rd_al, rd_lf, rd_la, rd_leq, rd_lne, rd_fr, rd_ar, ne_eq, Nat.reduceEqDiff, not_false_eq_true])) (fun k_ => by (try simp only [rd_eq, rd_ne, rf_eq, rf_nk, rf_nt, rd_fa, rd_af, rd_fl, rd_al, rd_lf, rd_la, rd_leq, rd_lne, rd_fr, rd_ar, ne_eq, Nat.reduceEqDiff, not_false_eq_true]); rw [ap9_, x4_]) (fun k_ => by (try simp only [rd_eq, rd_ne, rf_eq, rf_nk, rf_nt, rd_fa, rd_af, rd_fl, rd_al, rd_lf, rd_la, rd_leq, rd_lne, rd_fr, rd_ar, ne_eq, Nat.reduceEqDiff, not_false_eq_true]); rw [nn9_]) (fun k_ => by (try simp only [rd_eq, rd_ne, rf_eq, rf_nk, rf_nt, rd_fa, rd_af, rd_fl, rd_al, rd_lf, rd_la, rd_leq, rd_lne, rd_fr, rd_ar, ne_eq, Nat.reduceEqDiff, not_false_eq_true]); rw [nn9_]), by rw [ea_]; omega, by (try simp only [rd_eq, rd_ne, rf_eq, rf_nk, rf_nt, rd_fa, rd_af, rd_fl, rd_al, rd_lf, rd_la, rd_leq, rd_lne, rd_fr, rd_ar, ne_eq, Nat.reduceEqDiff, not_false_eq_true])⟩)
        exact ⟨hr_.1, hr_.2, by omega⟩
      · have cx9_ : ¬ ((S_.1 3 dd_ 4) - vx8_ < 1000) := of_decide_eq_false cx9_
        have hIx22_ : gi (sm_pI S_ 1 0 8 1) := gi_pI hI_ (show 0 ≤ 1 ∧ 1 ≤ 1 from ⟨by omega, by omega⟩)
        have hFx23_ : ai_fr (sx_W vw_44) S0_ (sm_pI S_ 1 0 8 1) := ai_fr_tr hF_ (ai_fr_pI rfl)
        have hDx24_ : idf dd_ S0_ (sm_pI S_ 1 0 8 1) := idf_pI hD_ (Or.inl (by decide))
        refine sm_T_go 4 (c1 := (165, [some (.inr (.inr (some (1, 0)))), some (.inl x_), some (.inl y_), some (.inl a_), some (.inl b_), some (.inl ap_), some (.inl pr_), none], [.inl 0], sm_pI S_ 1 0 8 1)) rfl ?_
        refine sm_T_ri rfl ⟨_, _, rfl, _, rfl, hIx22_, hFx23_, ?_⟩
        refine ⟨hDx24_, ?_⟩
        have ea_ : g_an F_ G1_ x_ y_ = (2 * ((F_ + G1_.length : Nat) : Int), G1_ ++ [(a_, b_)]) := by rw [g_an_mn hmn_, g_a2_n hn0_ hn1_ fd_.2.2]
        have hr_ := an_go (v_ := 0) (S1_ := (sm_pI S_ 1 0 8 1)) hG1_ hG2_ hab_ (Or.inr ⟨by omega, by rw [ea_]; simp only [List.length_append, List.length_cons, List.length_nil]; omega, cgx_cg hG1_ rfl rfl rfl rfl rfl rfl rfl, rfl⟩)
        exact ⟨hr_.1, hr_.2, by omega⟩
    · have cx1_ : ¬ (4096 ≤ pr_) := of_decide_eq_false cx1_
      refine sm_T_go 3 (c1 := (75, [some (.inr (.inr (some (1, 0)))), some (.inl x_), some (.inl y_), some (.inl a_), some (.inl b_), some (.inl ap_), some (.inl pr_), none], [.inl ap_, .inr (.inr (some (29, 0)))], S_)) rfl ?_
      refine sm_T_iald (n := 4096) rfl rfl (by omega) (by omega) ?_
      have bx25_ : (-1) ≤ S_.2.2.1 29 0 ap_.toNat ∧ S_.2.2.1 29 0 ap_.toNat ≤ 1012 := hI_.2 29 0 _
      refine sm_T_b0 (a := 0) (z := 62) rfl (fun cx26_ => ?_) (fun cx26_ => ?_)
      · have cx26_ : (S_.2.2.1 29 0 ap_.toNat) = 0 := of_decide_eq_true cx26_
        have fd_ := bk_fd (j_ := pr_.toNat) (a_ := a_) (b_ := b_) x8_ x5_ x3_.1 (by omega) h2b (by have q9_ : hpl a_ b_ pr_.toNat = ap_.toNat := (by unfold hpl; omega); rw [q9_]; omega)
        have ap9_ : hpl a_ b_ pr_.toNat = ap_.toNat := by unfold hpl; omega
        refine sm_T_go 1 (c1 := (139, [some (.inr (.inr (some (1, 0)))), some (.inl x_), some (.inl y_), some (.inl a_), some (.inl b_), some (.inl ap_), some (.inl pr_), none], [.inr (.inr (some (1, 0)))], S_)) rfl ?_
        refine sm_T_gr rfl rfl ((hF_.2.1 1 0 1 rfl).trans hd_) ?_
        have bx27_ : 0 ≤ S_.1 3 dd_ 4 ∧ S_.1 3 dd_ 4 ≤ 1013 := hI_.1 3 dd_ 4 rfl
        refine sm_T_go 2 (c1 := (146, [some (.inr (.inr (some (1, 0)))), some (.inl x_), some (.inl y_), some (.inl a_), some (.inl b_), some (.inl ap_), some (.inl pr_), none], [.inr (.inr (some (1, 0))), .inl (S_.1 3 dd_ 4)], S_)) rfl ?_
        refine sm_T_gr rfl rfl ((hF_.2.1 1 0 1 rfl).trans hd_) ?_
        refine sm_T_cal (d1 := 0) (Q1 := vq_63 dd_ S_) rfl rfl (by decide) (vc_63 dd_ S_ hI_ (by omega)) (fun u_ Sx28_ px31_ => ?_)
        obtain ⟨rfl, vx33_, rfl, px31_⟩ := px31_
        have e149_ := px31_
        refine sm_T_bin (w := (S_.1 3 dd_ 4) - vx33_) rfl (bi_sub (by omega) (by omega) (by omega)) ?_
        refine sm_T_go 1 (c1 := (156, [some (.inr (.inr (some (1, 0)))), some (.inl x_), some (.inl y_), some (.inl a_), some (.inl b_), some (.inl ap_), some (.inl pr_), none], [.inl 1000, .inl ((S_.1 3 dd_ 4) - vx33_)], S_)) rfl ?_
        refine sm_T_br (a := 2) (z := 10) rfl (fun cx34_ => ?_) (fun cx34_ => ?_)
        · have cx34_ : (S_.1 3 dd_ 4) - vx33_ < 1000 := of_decide_eq_true cx34_
          refine sm_T_go 1 (c1 := (167, [some (.inr (.inr (some (1, 0)))), some (.inl x_), some (.inl y_), some (.inl a_), some (.inl b_), some (.inl ap_), some (.inl pr_), none], [.inr (.inr (some (1, 0)))], S_)) rfl ?_
          refine sm_T_gr rfl rfl ((hF_.2.1 1 0 1 rfl).trans hd_) ?_
          refine sm_T_go 6 (c1 := (183, [some (.inr (.inr (some (1, 0)))), some (.inl x_), some (.inl y_), some (.inl a_), some (.inl b_), some (.inl ap_), some (.inl (S_.1 3 dd_ 4)), none], [.inl (S_.1 3 dd_ 4), .inl ap_, .inr (.inr (some (29, 0)))], S_)) rfl ?_
          refine sm_T_iast (n := 4096) rfl rfl (by omega) (by omega) ?_
          have hIx35_ : gi (sm_aI S_ 29 0 ap_.toNat (S_.1 3 dd_ 4)) := gi_aI hI_ (show (-1) ≤ (S_.1 3 dd_ 4) ∧ (S_.1 3 dd_ 4) ≤ 1012 from ⟨by omega, by omega⟩)
          have hFx36_ : ai_fr (sx_W vw_44) S0_ (sm_aI S_ 29 0 ap_.toNat (S_.1 3 dd_ 4)) := ai_fr_tr hF_ (ai_fr_aI rfl)
          have hDx37_ : idf dd_ S0_ (sm_aI S_ 29 0 ap_.toNat (S_.1 3 dd_ 4)) := idf_aI hD_ (Or.inl (by decide))
          refine sm_T_go 1 (c1 := (185, [some (.inr (.inr (some (1, 0)))), some (.inl x_), some (.inl y_), some (.inl a_), some (.inl b_), some (.inl ap_), some (.inl (S_.1 3 dd_ 4)), none], [.inr (.inr (some (1, 0)))], sm_aI S_ 29 0 ap_.toNat (S_.1 3 dd_ 4))) rfl ?_
          refine sm_T_gr rfl rfl ((hFx36_.2.1 1 0 1 rfl).trans hd_) ?_
          refine sm_T_go 3 (c1 := (194, [some (.inr (.inr (some (1, 0)))), some (.inl x_), some (.inl y_), some (.inl a_), some (.inl b_), some (.inl ap_), some (.inl (S_.1 3 dd_ 4)), none], [.inl a_, .inl (S_.1 3 dd_ 4), .inr (.inr (some (42, (0 + dd_))))], sm_aI S_ 29 0 ap_.toNat (S_.1 3 dd_ 4))) rfl ?_
          refine sm_T_iast (n := 1013) rfl rfl (by omega) (by omega) ?_
          have hIx38_ : gi (sm_aI (sm_aI S_ 29 0 ap_.toNat (S_.1 3 dd_ 4)) 42 (0 + dd_) (S_.1 3 dd_ 4).toNat a_) := gi_aI hIx35_ (show 0 ≤ a_ ∧ a_ ≤ 2025 from ⟨by omega, by omega⟩)
          have hFx39_ : ai_fr (sx_W vw_44) S0_ (sm_aI (sm_aI S_ 29 0 ap_.toNat (S_.1 3 dd_ 4)) 42 (0 + dd_) (S_.1 3 dd_ 4).toNat a_) := ai_fr_tr hFx36_ (ai_fr_aI rfl)
          have hDx40_ : idf dd_ S0_ (sm_aI (sm_aI S_ 29 0 ap_.toNat (S_.1 3 dd_ 4)) 42 (0 + dd_) (S_.1 3 dd_ 4).toNat a_) := idf_aI hDx37_ (Or.inr rfl)
          refine sm_T_go 1 (c1 := (196, [some (.inr (.inr (some (1, 0)))), some (.inl x_), some (.inl y_), some (.inl a_), some (.inl b_), some (.inl ap_), some (.inl (S_.1 3 dd_ 4)), none], [.inr (.inr (some (1, 0)))], sm_aI (sm_aI S_ 29 0 ap_.toNat (S_.1 3 dd_ 4)) 42 (0 + dd_) (S_.1 3 dd_ 4).toNat a_)) rfl ?_
          refine sm_T_gr rfl rfl ((hFx39_.2.1 1 0 1 rfl).trans hd_) ?_
          refine sm_T_go 3 (c1 := (206, [some (.inr (.inr (some (1, 0)))), some (.inl x_), some (.inl y_), some (.inl a_), some (.inl b_), some (.inl ap_), some (.inl (S_.1 3 dd_ 4)), none], [.inl b_, .inl (S_.1 3 dd_ 4), .inr (.inr (some (43, (0 + dd_))))], sm_aI (sm_aI S_ 29 0 ap_.toNat (S_.1 3 dd_ 4)) 42 (0 + dd_) (S_.1 3 dd_ 4).toNat a_)) rfl ?_
          refine sm_T_iast (n := 1013) rfl rfl (by omega) (by omega) ?_
          have hIx41_ : gi (sm_aI (sm_aI (sm_aI S_ 29 0 ap_.toNat (S_.1 3 dd_ 4)) 42 (0 + dd_) (S_.1 3 dd_ 4).toNat a_) 43 (0 + dd_) (S_.1 3 dd_ 4).toNat b_) := gi_aI hIx38_ (show 0 ≤ b_ ∧ b_ ≤ 2025 from ⟨by omega, by omega⟩)
          have hFx42_ : ai_fr (sx_W vw_44) S0_ (sm_aI (sm_aI (sm_aI S_ 29 0 ap_.toNat (S_.1 3 dd_ 4)) 42 (0 + dd_) (S_.1 3 dd_ 4).toNat a_) 43 (0 + dd_) (S_.1 3 dd_ 4).toNat b_) := ai_fr_tr hFx39_ (ai_fr_aI rfl)
          have hDx43_ : idf dd_ S0_ (sm_aI (sm_aI (sm_aI S_ 29 0 ap_.toNat (S_.1 3 dd_ 4)) 42 (0 + dd_) (S_.1 3 dd_ 4).toNat a_) 43 (0 + dd_) (S_.1 3 dd_ 4).toNat b_) := idf_aI hDx40_ (Or.inr rfl)
          refine sm_T_go 1 (c1 := (208, [some (.inr (.inr (some (1, 0)))), some (.inl x_), some (.inl y_), some (.inl a_), some (.inl b_), some (.inl ap_), some (.inl (S_.1 3 dd_ 4)), none], [.inr (.inr (some (1, 0)))], sm_aI (sm_aI (sm_aI S_ 29 0 ap_.toNat (S_.1 3 dd_ 4)) 42 (0 + dd_) (S_.1 3 dd_ 4).toNat a_) 43 (0 + dd_) (S_.1 3 dd_ 4).toNat b_)) rfl ?_
          refine sm_T_gr rfl rfl ((hFx42_.2.1 1 0 1 rfl).trans hd_) ?_
          refine sm_T_go 3 (c1 := (216, [some (.inr (.inr (some (1, 0)))), some (.inl x_), some (.inl y_), some (.inl a_), some (.inl b_), some (.inl ap_), some (.inl (S_.1 3 dd_ 4)), none], [.inl 1, .inl (S_.1 3 dd_ 4), .inr (.inr (some (3, dd_)))], sm_aI (sm_aI (sm_aI S_ 29 0 ap_.toNat (S_.1 3 dd_ 4)) 42 (0 + dd_) (S_.1 3 dd_ 4).toNat a_) 43 (0 + dd_) (S_.1 3 dd_ 4).toNat b_)) rfl ?_
          refine sm_T_bin (w := (S_.1 3 dd_ 4) + 1) rfl (bi_add (by omega) (by omega) (by omega)) ?_
          have hIx44_ : gi (sm_pI (sm_aI (sm_aI (sm_aI S_ 29 0 ap_.toNat (S_.1 3 dd_ 4)) 42 (0 + dd_) (S_.1 3 dd_ 4).toNat a_) 43 (0 + dd_) (S_.1 3 dd_ 4).toNat b_) 3 dd_ 4 ((S_.1 3 dd_ 4) + 1)) := gi_pI hIx41_ (show 0 ≤ (S_.1 3 dd_ 4) + 1 ∧ (S_.1 3 dd_ 4) + 1 ≤ 1013 from ⟨by omega, by omega⟩)
          have hFx45_ : ai_fr (sx_W vw_44) S0_ (sm_pI (sm_aI (sm_aI (sm_aI S_ 29 0 ap_.toNat (S_.1 3 dd_ 4)) 42 (0 + dd_) (S_.1 3 dd_ 4).toNat a_) 43 (0 + dd_) (S_.1 3 dd_ 4).toNat b_) 3 dd_ 4 ((S_.1 3 dd_ 4) + 1)) := ai_fr_tr hFx42_ (ai_fr_pI rfl)
          have hDx46_ : idf dd_ S0_ (sm_pI (sm_aI (sm_aI (sm_aI S_ 29 0 ap_.toNat (S_.1 3 dd_ 4)) 42 (0 + dd_) (S_.1 3 dd_ 4).toNat a_) 43 (0 + dd_) (S_.1 3 dd_ 4).toNat b_) 3 dd_ 4 ((S_.1 3 dd_ 4) + 1)) := idf_pI hDx43_ (Or.inr rfl)
          refine sm_T_go 3 (c1 := (223, [some (.inr (.inr (some (1, 0)))), some (.inl x_), some (.inl y_), some (.inl a_), some (.inl b_), some (.inl ap_), some (.inl (S_.1 3 dd_ 4)), none], [.inl (S_.1 3 dd_ 4), .inl 2], sm_pI (sm_aI (sm_aI (sm_aI S_ 29 0 ap_.toNat (S_.1 3 dd_ 4)) 42 (0 + dd_) (S_.1 3 dd_ 4).toNat a_) 43 (0 + dd_) (S_.1 3 dd_ 4).toNat b_) 3 dd_ 4 ((S_.1 3 dd_ 4) + 1))) rfl ?_
          refine sm_T_bin (w := 2 * (S_.1 3 dd_ 4)) rfl (bi_mul (by omega) (by omega) (by omega)) ?_
          refine sm_T_ri rfl ⟨_, _, rfl, _, rfl, hIx44_, hFx45_, ?_⟩
          refine ⟨hDx46_, ?_⟩
          have ea_ : g_an F_ G1_ x_ y_ = (2 * ((F_ + G1_.length : Nat) : Int), G1_ ++ [(a_, b_)]) := by rw [g_an_mn hmn_, g_a2_n hn0_ hn1_ fd_.2.2]
          have nn9_ : (S_.1 3 dd_ 4).toNat = F_ + G1_.length := by omega
          have hr_ := an_go (v_ := 2 * S_.1 3 dd_ 4) (S1_ := (sm_pI (sm_aI (sm_aI (sm_aI S_ 29 0 ap_.toNat (S_.1 3 dd_ 4)) 42 (0 + dd_) (S_.1 3 dd_ 4).toNat a_) 43 (0 + dd_) (S_.1 3 dd_ 4).toNat b_) 3 dd_ 4 ((S_.1 3 dd_ 4) + 1))) hG1_ hG2_ hab_ (Or.inl ⟨by rw [ea_]; exact cgx_up (j_ := pr_.toNat) hG1_ (by omega) (by omega) (fun i_ hi_ => (h2_ i_ hi_).1) fd_.1 fd_.2.2 rfl (by (try simp only [rd_eq, rd_ne, rf_eq, rf_nk, rf_nt, rd_fa, rd_af, rd_fl, rd_al, rd_lf, rd_la, rd_leq, rd_lne, rd_fr, rd_ar, ne_eq, Nat.reduceEqDiff, not_false_eq_true])) (by (try simp only [rd_eq, rd_ne, rf_eq, rf_nk, rf_nt, rd_fa, rd_af, rd_fl, rd_al, rd_lf, rd_la, rd_leq, rd_lne, rd_fr, rd_ar, ne_eq, Nat.reduceEqDiff, not_false_eq_true])) (by (try simp only [rd_eq, rd_ne, rf_eq, rf_nk, rf_nt, rd_fa, rd_af, rd_fl, rd_al, rd_lf, rd_la, rd_leq, rd_lne, rd_fr, rd_ar, ne_eq, Nat.reduceEqDiff, not_false_eq_true])) (fun k_ => by (try simp only [rd_eq, rd_ne, rf_eq, rf_nk, rf_nt, rd_fa, rd_af, rd_fl, rd_al, rd_lf, rd_la, rd_leq, rd_lne, rd_fr, rd_ar, ne_eq, Nat.reduceEqDiff, not_false_eq_true]); rw [ap9_, x4_]) (fun k_ => by (try simp only [rd_eq, rd_ne, rf_eq, rf_nk, rf_nt, rd_fa, rd_af, rd_fl, rd_al, rd_lf, rd_la, rd_leq, rd_lne, rd_fr, rd_ar, ne_eq, Nat.reduceEqDiff, not_false_eq_true]); rw [nn9_]) (fun k_ => by (try simp only [rd_eq, rd_ne, rf_eq, rf_nk, rf_nt, rd_fa, rd_af, rd_fl, rd_al, rd_lf, rd_la, rd_leq, rd_lne, rd_fr, rd_ar, ne_eq, Nat.reduceEqDiff, not_false_eq_true]); rw [nn9_]), by rw [ea_]; omega, by (try simp only [rd_eq, rd_ne, rf_eq, rf_nk, rf_nt, rd_fa, rd_af, rd_fl, rd_al, rd_lf, rd_la, rd_leq, rd_lne, rd_fr, rd_ar, ne_eq, Nat.reduceEqDiff, not_false_eq_true])⟩)
          exact ⟨hr_.1, hr_.2, by omega⟩
        · have cx34_ : ¬ ((S_.1 3 dd_ 4) - vx33_ < 1000) := of_decide_eq_false cx34_
          have hIx47_ : gi (sm_pI S_ 1 0 8 1) := gi_pI hI_ (show 0 ≤ 1 ∧ 1 ≤ 1 from ⟨by omega, by omega⟩)
          have hFx48_ : ai_fr (sx_W vw_44) S0_ (sm_pI S_ 1 0 8 1) := ai_fr_tr hF_ (ai_fr_pI rfl)
          have hDx49_ : idf dd_ S0_ (sm_pI S_ 1 0 8 1) := idf_pI hD_ (Or.inl (by decide))
          refine sm_T_go 4 (c1 := (165, [some (.inr (.inr (some (1, 0)))), some (.inl x_), some (.inl y_), some (.inl a_), some (.inl b_), some (.inl ap_), some (.inl pr_), none], [.inl 0], sm_pI S_ 1 0 8 1)) rfl ?_
          refine sm_T_ri rfl ⟨_, _, rfl, _, rfl, hIx47_, hFx48_, ?_⟩
          refine ⟨hDx49_, ?_⟩
          have ea_ : g_an F_ G1_ x_ y_ = (2 * ((F_ + G1_.length : Nat) : Int), G1_ ++ [(a_, b_)]) := by rw [g_an_mn hmn_, g_a2_n hn0_ hn1_ fd_.2.2]
          have hr_ := an_go (v_ := 0) (S1_ := (sm_pI S_ 1 0 8 1)) hG1_ hG2_ hab_ (Or.inr ⟨by omega, by rw [ea_]; simp only [List.length_append, List.length_cons, List.length_nil]; omega, cgx_cg hG1_ rfl rfl rfl rfl rfl rfl rfl, rfl⟩)
          exact ⟨hr_.1, hr_.2, by omega⟩
      · have cx26_ : ¬ ((S_.2.2.1 29 0 ap_.toNat) = 0) := of_decide_eq_false cx26_
        obtain ⟨k9_, hk9_, ek9_⟩ : ∃ k_, k_ < G1_.length ∧ S_.2.2.1 29 0 ap_.toNat = ((F_ + k_ : Nat) : Int) := by rcases x8_.1 ap_.toNat (by omega) with z_ | z_; (exact absurd z_ (by omega)); (exact z_)
        obtain ⟨⟨px_, py_⟩, ep_⟩ : ∃ p_, G1_[k9_]? = some p_ := ⟨_, List.getElem?_eq_getElem hk9_⟩
        have ep2_ := x6_ k9_ px_ py_ ep_
        rw [show F_ + k9_ = (S_.2.2.1 29 0 ap_.toNat).toNat by omega] at ep2_
        refine sm_T_go 3 (c1 := (85, [some (.inr (.inr (some (1, 0)))), some (.inl x_), some (.inl y_), some (.inl a_), some (.inl b_), some (.inl ap_), some (.inl pr_), none], [.inl ap_, .inr (.inr (some (29, 0)))], S_)) rfl ?_
        refine sm_T_iald (n := 4096) rfl rfl (by omega) (by omega) ?_
        refine sm_T_go 2 (c1 := (89, [some (.inr (.inr (some (1, 0)))), some (.inl x_), some (.inl y_), some (.inl a_), some (.inl b_), some (.inl ap_), some (.inl pr_), some (.inl (S_.2.2.1 29 0 ap_.toNat))], [.inr (.inr (some (1, 0)))], S_)) rfl ?_
        refine sm_T_gr rfl rfl ((hF_.2.1 1 0 1 rfl).trans hd_) ?_
        refine sm_T_go 2 (c1 := (97, [some (.inr (.inr (some (1, 0)))), some (.inl x_), some (.inl y_), some (.inl a_), some (.inl b_), some (.inl ap_), some (.inl pr_), some (.inl (S_.2.2.1 29 0 ap_.toNat))], [.inl (S_.2.2.1 29 0 ap_.toNat), .inr (.inr (some (42, (0 + dd_))))], S_)) rfl ?_
        refine sm_T_iald (n := 1013) rfl rfl (by omega) (by omega) ?_
        have bx50_ : 0 ≤ S_.2.2.1 42 (0 + dd_) (S_.2.2.1 29 0 ap_.toNat).toNat ∧ S_.2.2.1 42 (0 + dd_) (S_.2.2.1 29 0 ap_.toNat).toNat ≤ 2025 := hI_.2 42 (0 + dd_) _
        refine sm_T_go 1 (c1 := (99, [some (.inr (.inr (some (1, 0)))), some (.inl x_), some (.inl y_), some (.inl a_), some (.inl b_), some (.inl ap_), some (.inl pr_), some (.inl (S_.2.2.1 29 0 ap_.toNat))], [.inl a_, .inl (S_.2.2.1 42 (0 + dd_) (S_.2.2.1 29 0 ap_.toNat).toNat)], S_)) rfl ?_
        refine sm_T_br (a := 1) (z := 23) rfl (fun cx51_ => ?_) (fun cx51_ => ?_)
        · have cx51_ : (S_.2.2.1 42 (0 + dd_) (S_.2.2.1 29 0 ap_.toNat).toNat) ≠ a_ := of_decide_eq_true cx51_
          refine sm_T_go 2 (c1 := (125, [some (.inr (.inr (some (1, 0)))), some (.inl x_), some (.inl y_), some (.inl a_), some (.inl b_), some (.inl ap_), some (.inl pr_), some (.inl (S_.2.2.1 29 0 ap_.toNat))], [.inl 1, .inl ap_], S_)) rfl ?_
          refine sm_T_bin (w := ap_ + 1) rfl (bi_add (by omega) (by omega) (by omega)) ?_
          refine sm_T_go 1 (c1 := (129, [some (.inr (.inr (some (1, 0)))), some (.inl x_), some (.inl y_), some (.inl a_), some (.inl b_), some (.inl ap_), some (.inl pr_), some (.inl (S_.2.2.1 29 0 ap_.toNat))], [.inl 4095, .inl (ap_ + 1)], S_)) rfl ?_
          refine sm_T_bin (w := ((ap_ + 1) % 4096)) rfl (bi_msk (k := 12) (by decide)) ?_
          refine sm_T_go 1 (c1 := (132, [some (.inr (.inr (some (1, 0)))), some (.inl x_), some (.inl y_), some (.inl a_), some (.inl b_), some (.inl ((ap_ + 1) % 4096)), some (.inl pr_), some (.inl (S_.2.2.1 29 0 ap_.toNat))], [], S_)) rfl ?_
          refine sm_T_inc (a := 6) (z := 1) (v := pr_) (w := pr_ + 1) rfl rfl (by omega) (by omega) (by omega) ?_
          refine sm_T_go 1 (c1 := (61, [some (.inr (.inr (some (1, 0)))), some (.inl x_), some (.inl y_), some (.inl a_), some (.inl b_), some (.inl ((ap_ + 1) % 4096)), some (.inl (pr_ + 1)), some (.inl (S_.2.2.1 29 0 ap_.toNat))], [], S_)) rfl ?_
          refine sm_T_wk [some (.inr (.inr (some (1, 0)))), some (.inl x_), some (.inl y_), some (.inl a_), some (.inl b_), some (.inl ((ap_ + 1) % 4096)), some (.inl (pr_ + 1)), none] (by exact ⟨rfl, rfl, rfl, rfl, rfl, rfl, rfl, trivial⟩) ?_
          refine ih_ a_ b_ ((ap_ + 1) % 4096) (pr_ + 1) S_ hI_ hF_ ⟨?_, ?_, ?_, ?_, ?_, ?_, ?_, ?_, trivial⟩ ?_
          · exact hS_
          · omega
          · exact hbd_
          · exact hmn_
          · exact hn0_
          · exact hn1_
          · intro i_ hi_
            by_cases z_ : i_ < pr_.toNat
            · exact h2_ i_ z_
            · have zi_ : i_ = pr_.toNat := by omega
              have q9_ : hpl a_ b_ i_ = ap_.toNat := by rw [zi_]; unfold hpl; omega
              rw [q9_]
              exact ⟨by omega, fun w9_ => by omega⟩
          · exact hD_
          · omega
        · have cx51_ : ¬ ((S_.2.2.1 42 (0 + dd_) (S_.2.2.1 29 0 ap_.toNat).toNat) ≠ a_) := of_decide_eq_false cx51_
          refine sm_T_go 1 (c1 := (103, [some (.inr (.inr (some (1, 0)))), some (.inl x_), some (.inl y_), some (.inl a_), some (.inl b_), some (.inl ap_), some (.inl pr_), some (.inl (S_.2.2.1 29 0 ap_.toNat))], [.inr (.inr (some (1, 0)))], S_)) rfl ?_
          refine sm_T_gr rfl rfl ((hF_.2.1 1 0 1 rfl).trans hd_) ?_
          refine sm_T_go 2 (c1 := (111, [some (.inr (.inr (some (1, 0)))), some (.inl x_), some (.inl y_), some (.inl a_), some (.inl b_), some (.inl ap_), some (.inl pr_), some (.inl (S_.2.2.1 29 0 ap_.toNat))], [.inl (S_.2.2.1 29 0 ap_.toNat), .inr (.inr (some (43, (0 + dd_))))], S_)) rfl ?_
          refine sm_T_iald (n := 1013) rfl rfl (by omega) (by omega) ?_
          have bx52_ : 0 ≤ S_.2.2.1 43 (0 + dd_) (S_.2.2.1 29 0 ap_.toNat).toNat ∧ S_.2.2.1 43 (0 + dd_) (S_.2.2.1 29 0 ap_.toNat).toNat ≤ 2025 := hI_.2 43 (0 + dd_) _
          refine sm_T_go 1 (c1 := (114, [some (.inr (.inr (some (1, 0)))), some (.inl x_), some (.inl y_), some (.inl a_), some (.inl b_), some (.inl ap_), some (.inl pr_), some (.inl (S_.2.2.1 29 0 ap_.toNat))], [.inl b_, .inl (S_.2.2.1 43 (0 + dd_) (S_.2.2.1 29 0 ap_.toNat).toNat)], S_)) rfl ?_
          refine sm_T_br (a := 1) (z := 8) rfl (fun cx53_ => ?_) (fun cx53_ => ?_)
          · have cx53_ : (S_.2.2.1 43 (0 + dd_) (S_.2.2.1 29 0 ap_.toNat).toNat) ≠ b_ := of_decide_eq_true cx53_
            refine sm_T_go 2 (c1 := (125, [some (.inr (.inr (some (1, 0)))), some (.inl x_), some (.inl y_), some (.inl a_), some (.inl b_), some (.inl ap_), some (.inl pr_), some (.inl (S_.2.2.1 29 0 ap_.toNat))], [.inl 1, .inl ap_], S_)) rfl ?_
            refine sm_T_bin (w := ap_ + 1) rfl (bi_add (by omega) (by omega) (by omega)) ?_
            refine sm_T_go 1 (c1 := (129, [some (.inr (.inr (some (1, 0)))), some (.inl x_), some (.inl y_), some (.inl a_), some (.inl b_), some (.inl ap_), some (.inl pr_), some (.inl (S_.2.2.1 29 0 ap_.toNat))], [.inl 4095, .inl (ap_ + 1)], S_)) rfl ?_
            refine sm_T_bin (w := ((ap_ + 1) % 4096)) rfl (bi_msk (k := 12) (by decide)) ?_
            refine sm_T_go 1 (c1 := (132, [some (.inr (.inr (some (1, 0)))), some (.inl x_), some (.inl y_), some (.inl a_), some (.inl b_), some (.inl ((ap_ + 1) % 4096)), some (.inl pr_), some (.inl (S_.2.2.1 29 0 ap_.toNat))], [], S_)) rfl ?_
            refine sm_T_inc (a := 6) (z := 1) (v := pr_) (w := pr_ + 1) rfl rfl (by omega) (by omega) (by omega) ?_
            refine sm_T_go 1 (c1 := (61, [some (.inr (.inr (some (1, 0)))), some (.inl x_), some (.inl y_), some (.inl a_), some (.inl b_), some (.inl ((ap_ + 1) % 4096)), some (.inl (pr_ + 1)), some (.inl (S_.2.2.1 29 0 ap_.toNat))], [], S_)) rfl ?_
            refine sm_T_wk [some (.inr (.inr (some (1, 0)))), some (.inl x_), some (.inl y_), some (.inl a_), some (.inl b_), some (.inl ((ap_ + 1) % 4096)), some (.inl (pr_ + 1)), none] (by exact ⟨rfl, rfl, rfl, rfl, rfl, rfl, rfl, trivial⟩) ?_
            refine ih_ a_ b_ ((ap_ + 1) % 4096) (pr_ + 1) S_ hI_ hF_ ⟨?_, ?_, ?_, ?_, ?_, ?_, ?_, ?_, trivial⟩ ?_
            · exact hS_
            · omega
            · exact hbd_
            · exact hmn_
            · exact hn0_
            · exact hn1_
            · intro i_ hi_
              by_cases z_ : i_ < pr_.toNat
              · exact h2_ i_ z_
              · have zi_ : i_ = pr_.toNat := by omega
                have q9_ : hpl a_ b_ i_ = ap_.toNat := by rw [zi_]; unfold hpl; omega
                rw [q9_]
                exact ⟨by omega, fun w9_ => by omega⟩
            · exact hD_
            · omega
          · have cx53_ : ¬ ((S_.2.2.1 43 (0 + dd_) (S_.2.2.1 29 0 ap_.toNat).toNat) ≠ b_) := of_decide_eq_false cx53_
            refine sm_T_go 2 (c1 := (120, [some (.inr (.inr (some (1, 0)))), some (.inl x_), some (.inl y_), some (.inl a_), some (.inl b_), some (.inl ap_), some (.inl pr_), some (.inl (S_.2.2.1 29 0 ap_.toNat))], [.inl (S_.2.2.1 29 0 ap_.toNat), .inl 2], S_)) rfl ?_
            refine sm_T_bin (w := 2 * (S_.2.2.1 29 0 ap_.toNat)) rfl (bi_mul (by omega) (by omega) (by omega)) ?_
            refine sm_T_ri rfl ⟨_, _, rfl, _, rfl, hI_, hF_, ?_⟩
            refine ⟨hD_, ?_⟩
            have epp_ : G1_[k9_]? = some (a_, b_) := by rw [ep_]; have q1_ : px_ = a_ := (by rw [← ep2_.1]; omega); have q2_ : py_ = b_ := (by rw [← ep2_.2]; omega); rw [q1_, q2_]
            have ea_ : g_an F_ G1_ x_ y_ = (2 * ((F_ + k9_ : Nat) : Int), G1_) := by rw [g_an_mn hmn_, g_a2_f hn0_ hn1_ (g_fd_s x7_ epp_)]
            have hr_ := an_go (v_ := 2 * S_.2.2.1 29 0 ap_.toNat) (S1_ := S_) hG1_ hG2_ hab_ (Or.inl ⟨by rw [ea_]; exact hG1_, by rw [ea_, ek9_], rfl⟩)
            exact ⟨hr_.1, hr_.2, by omega⟩
set_option maxHeartbeats 2000000 in
set_option maxRecDepth 20000 in
theorem vc_44 {sc_ : Nat × (Nat → Int)} (x_ : Int) (y_ : Int) (dd_ : Nat) (F_ : Nat) (G_ : pGr) (A_ : Int) (B_ : Int) (S0_ : sm_S) (hI_ : gi S0_) (hd_ : S0_.2.1 1 0 1 = some dd_) (hg_ : cgl dd_ F_ G_ S0_) (hx_ : 0 ≤ x_ ∧ x_ ≤ 2025) (hy_ : 0 ≤ y_ ∧ y_ ≤ 2025) (hab_ : imq (G_.length ≤ 1000) (x_ = A_ ∧ y_ = B_)) : sm_T (mt_P sc_) 1 44 (0, [some (.inr (.inr (some (1, 0)))), some (.inl x_), some (.inl y_), none, none, none, none, none], [], S0_) (fun ro9_ => ∃ u_ S1_, ro9_ = (.inl u_, S1_, 0) ∧ vq_44 x_ y_ dd_ F_ G_ A_ B_ S0_ u_ S1_) := by
  have hF_ : ai_fr (sx_W vw_44) S0_ S0_ := ai_fr_rf
  have hD_ : idf dd_ S0_ S0_ := idf_rf
  obtain ⟨G1_, hG1_, hG2_⟩ := id hg_
  obtain ⟨x1_, x2_, x3_, x4_, x5_, x6_, x7_, x8_⟩ := id hG1_
  refine sm_T_go 2 (c1 := (2, [some (.inr (.inr (some (1, 0)))), some (.inl x_), some (.inl y_), none, none, none, none, none], [.inl y_, .inl x_], S0_)) rfl ?_
  refine sm_T_nt (u := some (.inl (sm_mn x_ y_))) (S1 := S0_) rfl rfl rfl ?_
  have bx1_ := sm_mn_d x_ y_
  refine sm_T_go 3 (c1 := (8, [some (.inr (.inr (some (1, 0)))), some (.inl x_), some (.inl y_), some (.inl (sm_mn x_ y_)), none, none, none, none], [.inl y_, .inl x_], S0_)) rfl ?_
  refine sm_T_nt (u := some (.inl (sm_mx x_ y_))) (S1 := S0_) rfl rfl rfl ?_
  have bx2_ := sm_mx_d x_ y_
  refine sm_T_go 2 (c1 := (14, [some (.inr (.inr (some (1, 0)))), some (.inl x_), some (.inl y_), some (.inl (sm_mn x_ y_)), some (.inl (sm_mx x_ y_)), none, none, none], [.inl (sm_mn x_ y_)], S0_)) rfl ?_
  refine sm_T_b0 (a := 0) (z := 11) rfl (fun cx3_ => ?_) (fun cx3_ => ?_)
  · have cx3_ : (sm_mn x_ y_) = 0 := of_decide_eq_true cx3_
    refine sm_T_go 1 (c1 := (26, [some (.inr (.inr (some (1, 0)))), some (.inl x_), some (.inl y_), some (.inl (sm_mn x_ y_)), some (.inl (sm_mx x_ y_)), none, none, none], [.inl 0], S0_)) rfl ?_
    refine sm_T_ri rfl ⟨_, _, rfl, _, rfl, hI_, hF_, ?_⟩
    refine ⟨hD_, ?_⟩
    have ea_ : g_an F_ G1_ x_ y_ = (0, G1_) := by rw [g_an_mn (a_ := sm_mn x_ y_) (b_ := sm_mx x_ y_) (by omega)]; unfold g_a2; rw [if_pos (by omega)]
    have hr_ := an_go (v_ := 0) hG1_ hG2_ hab_ (Or.inl ⟨by rw [ea_]; exact hG1_, by rw [ea_], rfl⟩)
    exact ⟨hr_.1, hr_.2, by omega⟩
  · have cx3_ : ¬ ((sm_mn x_ y_) = 0) := of_decide_eq_false cx3_
    refine sm_T_go 3 (c1 := (21, [some (.inr (.inr (some (1, 0)))), some (.inl x_), some (.inl y_), some (.inl (sm_mn x_ y_)), some (.inl (sm_mx x_ y_)), none, none, none], [.inl 1, .inl (sm_mx x_ y_), .inl (sm_mn x_ y_)], S0_)) rfl ?_
    refine sm_T_bin (w := (i_xor (sm_mx x_ y_) 1)) rfl rfl ?_
    have bx4_ := i_x1 (x_ := (sm_mx x_ y_)) (by omega)
    refine sm_T_br (a := 1) (z := 5) rfl (fun cx5_ => ?_) (fun cx5_ => ?_)
    · have cx5_ : (sm_mn x_ y_) ≠ (i_xor (sm_mx x_ y_) 1) := of_decide_eq_true cx5_
      refine sm_T_go 2 (c1 := (29, [some (.inr (.inr (some (1, 0)))), some (.inl x_), some (.inl y_), some (.inl (sm_mn x_ y_)), some (.inl (sm_mx x_ y_)), none, none, none], [.inl 1, .inl (sm_mn x_ y_)], S0_)) rfl ?_
      refine sm_T_br (a := 0) (z := 9) rfl (fun cx6_ => ?_) (fun cx6_ => ?_)
      · have cx6_ : (sm_mn x_ y_) = 1 := of_decide_eq_true cx6_
        refine sm_T_go 1 (c1 := (40, [some (.inr (.inr (some (1, 0)))), some (.inl x_), some (.inl y_), some (.inl (sm_mn x_ y_)), some (.inl (sm_mx x_ y_)), none, none, none], [.inl (sm_mx x_ y_)], S0_)) rfl ?_
        refine sm_T_ri rfl ⟨_, _, rfl, _, rfl, hI_, hF_, ?_⟩
        refine ⟨hD_, ?_⟩
        have ea_ : g_an F_ G1_ x_ y_ = (sm_mx x_ y_, G1_) := by rw [g_an_mn (a_ := sm_mn x_ y_) (b_ := sm_mx x_ y_) (by omega)]; unfold g_a2; rw [if_neg (by omega), if_pos (by omega)]
        have hr_ := an_go (v_ := sm_mx x_ y_) hG1_ hG2_ hab_ (Or.inl ⟨by rw [ea_]; exact hG1_, by rw [ea_], rfl⟩)
        exact ⟨hr_.1, hr_.2, by omega⟩
      · have cx6_ : ¬ ((sm_mn x_ y_) = 1) := of_decide_eq_false cx6_
        refine sm_T_go 2 (c1 := (35, [some (.inr (.inr (some (1, 0)))), some (.inl x_), some (.inl y_), some (.inl (sm_mn x_ y_)), some (.inl (sm_mx x_ y_)), none, none, none], [.inl (sm_mx x_ y_), .inl (sm_mn x_ y_)], S0_)) rfl ?_
        refine sm_T_br (a := 1) (z := 6) rfl (fun cx7_ => ?_) (fun cx7_ => ?_)
        · have cx7_ : (sm_mn x_ y_) ≠ (sm_mx x_ y_) := of_decide_eq_true cx7_
          refine sm_T_go 2 (c1 := (45, [some (.inr (.inr (some (1, 0)))), some (.inl x_), some (.inl y_), some (.inl (sm_mn x_ y_)), some (.inl (sm_mx x_ y_)), none, none, none], [.inl 2027, .inl (sm_mn x_ y_)], S0_)) rfl ?_
          refine sm_T_bin (w := 2027 * (sm_mn x_ y_)) rfl (bi_mul (by omega) (by omega) (by omega)) ?_
          refine sm_T_go 2 (c1 := (50, [some (.inr (.inr (some (1, 0)))), some (.inl x_), some (.inl y_), some (.inl (sm_mn x_ y_)), some (.inl (sm_mx x_ y_)), none, none, none], [.inl 31, .inl (sm_mx x_ y_), .inl (2027 * (sm_mn x_ y_))], S0_)) rfl ?_
          refine sm_T_bin (w := 31 * (sm_mx x_ y_)) rfl (bi_mul (by omega) (by omega) (by omega)) ?_
          refine sm_T_bin (w := 2027 * (sm_mn x_ y_) + 31 * (sm_mx x_ y_)) rfl (bi_add (by omega) (by omega) (by omega)) ?_
          refine sm_T_go 1 (c1 := (55, [some (.inr (.inr (some (1, 0)))), some (.inl x_), some (.inl y_), some (.inl (sm_mn x_ y_)), some (.inl (sm_mx x_ y_)), none, none, none], [.inl 4095, .inl (2027 * (sm_mn x_ y_) + 31 * (sm_mx x_ y_))], S0_)) rfl ?_
          refine sm_T_bin (w := ((2027 * (sm_mn x_ y_) + 31 * (sm_mx x_ y_)) % 4096)) rfl (bi_msk (k := 12) (by decide)) ?_
          refine sm_T_go 3 (c1 := (61, [some (.inr (.inr (some (1, 0)))), some (.inl x_), some (.inl y_), some (.inl (sm_mn x_ y_)), some (.inl (sm_mx x_ y_)), some (.inl ((2027 * (sm_mn x_ y_) + 31 * (sm_mx x_ y_)) % 4096)), some (.inl 0), none], [], S0_)) rfl ?_
          refine (vl_44 x_ y_ dd_ F_ G_ A_ B_ S0_ hd_ hg_ hx_ hy_ hab_ _) (sm_mn x_ y_) (sm_mx x_ y_) ((2027 * (sm_mn x_ y_) + 31 * (sm_mx x_ y_)) % 4096) 0 S0_ hI_ hF_ ⟨?_, ?_, ?_, ?_, ?_, ?_, ?_, ?_, trivial⟩ (Nat.lt_succ_self _)
          · rfl
          · omega
          · omega
          · omega
          · omega
          · omega
          · (intro i_ hi_; exact absurd hi_ (Nat.not_lt_zero _))
          · exact hD_
        · have cx7_ : ¬ ((sm_mn x_ y_) ≠ (sm_mx x_ y_)) := of_decide_eq_false cx7_
          refine sm_T_go 1 (c1 := (40, [some (.inr (.inr (some (1, 0)))), some (.inl x_), some (.inl y_), some (.inl (sm_mn x_ y_)), some (.inl (sm_mx x_ y_)), none, none, none], [.inl (sm_mx x_ y_)], S0_)) rfl ?_
          refine sm_T_ri rfl ⟨_, _, rfl, _, rfl, hI_, hF_, ?_⟩
          refine ⟨hD_, ?_⟩
          have ea_ : g_an F_ G1_ x_ y_ = (sm_mx x_ y_, G1_) := by rw [g_an_mn (a_ := sm_mn x_ y_) (b_ := sm_mx x_ y_) (by omega)]; unfold g_a2; rw [if_neg (by omega), if_pos (by omega)]
          have hr_ := an_go (v_ := sm_mx x_ y_) hG1_ hG2_ hab_ (Or.inl ⟨by rw [ea_]; exact hG1_, by rw [ea_], rfl⟩)
          exact ⟨hr_.1, hr_.2, by omega⟩
    · have cx5_ : ¬ ((sm_mn x_ y_) ≠ (i_xor (sm_mx x_ y_) 1)) := of_decide_eq_false cx5_
      refine sm_T_go 1 (c1 := (26, [some (.inr (.inr (some (1, 0)))), some (.inl x_), some (.inl y_), some (.inl (sm_mn x_ y_)), some (.inl (sm_mx x_ y_)), none, none, none], [.inl 0], S0_)) rfl ?_
      refine sm_T_ri rfl ⟨_, _, rfl, _, rfl, hI_, hF_, ?_⟩
      refine ⟨hD_, ?_⟩
      have ea_ : g_an F_ G1_ x_ y_ = (0, G1_) := by rw [g_an_mn (a_ := sm_mn x_ y_) (b_ := sm_mx x_ y_) (by omega)]; unfold g_a2; rw [if_pos (by omega)]
      have hr_ := an_go (v_ := 0) hG1_ hG2_ hab_ (Or.inl ⟨by rw [ea_]; exact hG1_, by rw [ea_], rfl⟩)
      exact ⟨hr_.1, hr_.2, by omega⟩
end
/-! 99.zb2a -/
section
/-! the class: OR, XOR, sums; written by wip/p55/gen/vg -/
/-! Builder.either -/
def vw_42 : sx_Wl := ([(1, 8), (3, 4)], [29, 42, 43], [])
def vq_42 (x_ : Int) (y_ : Int) (dd_ : Nat) (F_ : Nat) (G_ : pGr) (A_ : Int) (B_ : Int) (S0_ : sm_S) (u_ : Option sm_V) (S1_ : sm_S) : Prop := ∃ v_ : Int, u_ = some (.inl v_) ∧ gi S1_ ∧ ai_fr (sx_W vw_42) S0_ S1_ ∧ (idf dd_ S0_ S1_ ∧ (cgl dd_ F_ (g_or F_ G_ A_ B_).2 S1_ ∧ (imq ((g_or F_ G_ A_ B_).2.length ≤ 1000) (v_ = (g_or F_ G_ A_ B_).1)) ∧ (0 ≤ v_ ∧ v_ ≤ 2025)))
set_option maxHeartbeats 400000 in
theorem vc_42 {sc_ : Nat × (Nat → Int)} (x_ : Int) (y_ : Int) (dd_ : Nat) (F_ : Nat) (G_ : pGr) (A_ : Int) (B_ : Int) (S0_ : sm_S) (hI_ : gi S0_) (hd_ : S0_.2.1 1 0 1 = some dd_) (hg_ : cgl dd_ F_ G_ S0_) (hx_ : 0 ≤ x_ ∧ x_ ≤ 2025) (hy_ : 0 ≤ y_ ∧ y_ ≤ 2025) (hab_ : imq (G_.length ≤ 1000) (x_ = A_ ∧ y_ = B_)) : sm_T (mt_P sc_) 2 42 (0, [some (.inr (.inr (some (1, 0)))), some (.inl x_), some (.inl y_)], [], S0_) (fun ro9_ => ∃ u_ S1_, ro9_ = (.inl u_, S1_, 0) ∧ vq_42 x_ y_ dd_ F_ G_ A_ B_ S0_ u_ S1_) := by
  have hF_ : ai_fr (sx_W vw_42) S0_ S0_ := ai_fr_rf
  have hD_ : idf dd_ S0_ S0_ := idf_rf
  refine sm_T_go 3 (c1 := (3, [some (.inr (.inr (some (1, 0)))), some (.inl x_), some (.inl y_)], [.inl 1, .inl x_, .inr (.inr (some (1, 0)))], S0_)) rfl ?_
  refine sm_T_bin (w := (i_xor x_ 1)) rfl rfl ?_
  have bx1_ := i_x1 (x_ := x_) (by omega)
  refine sm_T_go 2 (c1 := (6, [some (.inr (.inr (some (1, 0)))), some (.inl x_), some (.inl y_)], [.inl 1, .inl y_, .inl (i_xor x_ 1), .inr (.inr (some (1, 0)))], S0_)) rfl ?_
  refine sm_T_bin (w := (i_xor y_ 1)) rfl rfl ?_
  have bx2_ := i_x1 (x_ := y_) (by omega)
  refine sm_T_cal (d1 := 1) (Q1 := vq_44 (i_xor x_ 1) (i_xor y_ 1) dd_ F_ G_ (i_xor A_ 1) (i_xor B_ 1) S0_) rfl rfl (by decide) (vc_44 (i_xor x_ 1) (i_xor y_ 1) dd_ F_ G_ (i_xor A_ 1) (i_xor B_ 1) S0_ hI_ (by exact hd_) (by exact hg_) (by omega) (by omega) (by (intro z_; have q_ := hab_ z_; rw [q_.1, q_.2]; exact ⟨rfl, rfl⟩))) (fun u_ Sx3_ px6_ => ?_)
  obtain ⟨vx8_, rfl, hIx4_, hFx5_, px6_⟩ := px6_
  have hFx7_ : ai_fr (sx_W vw_42) S0_ Sx3_ := ai_fr_tr hF_ (fr_le hFx5_ rfl)
  obtain ⟨dx10_, px6_⟩ := px6_
  have hDx9_ : idf dd_ S0_ Sx3_ := idf_tr hD_ dx10_
  have e7_ := px6_
  refine sm_T_go 1 (c1 := (11, [some (.inr (.inr (some (1, 0)))), some (.inl x_), some (.inl y_)], [.inl 1, .inl vx8_], Sx3_)) rfl ?_
  refine sm_T_bin (w := (i_xor vx8_ 1)) rfl rfl ?_
  have bx11_ := i_x1 (x_ := vx8_) (by omega)
  refine sm_T_ri rfl ⟨_, _, rfl, _, rfl, hIx4_, hFx7_, ?_⟩
  refine ⟨hDx9_, ?_⟩
  refine ⟨e7_.1, fun z_ => ?_, by omega⟩
  show _ = i_xor _ 1
  rw [e7_.2.1 z_]
end
/-! 99.zb2b -/
section
/-! Builder.differ -/
def vw_43 : sx_Wl := ([(1, 8), (3, 4)], [29, 42, 43], [])
def vq_43 (x_ : Int) (y_ : Int) (dd_ : Nat) (F_ : Nat) (G_ : pGr) (A_ : Int) (B_ : Int) (S0_ : sm_S) (u_ : Option sm_V) (S1_ : sm_S) : Prop := ∃ v_ : Int, u_ = some (.inl v_) ∧ gi S1_ ∧ ai_fr (sx_W vw_43) S0_ S1_ ∧ (idf dd_ S0_ S1_ ∧ (cgl dd_ F_ (g_xo F_ G_ A_ B_).2 S1_ ∧ (imq ((g_xo F_ G_ A_ B_).2.length ≤ 1000) (v_ = (g_xo F_ G_ A_ B_).1)) ∧ (0 ≤ v_ ∧ v_ ≤ 2025)))
set_option maxHeartbeats 400000 in
theorem vc_43 {sc_ : Nat × (Nat → Int)} (x_ : Int) (y_ : Int) (dd_ : Nat) (F_ : Nat) (G_ : pGr) (A_ : Int) (B_ : Int) (S0_ : sm_S) (hI_ : gi S0_) (hd_ : S0_.2.1 1 0 1 = some dd_) (hg_ : cgl dd_ F_ G_ S0_) (hx_ : 0 ≤ x_ ∧ x_ ≤ 2025) (hy_ : 0 ≤ y_ ∧ y_ ≤ 2025) (hab_ : imq (G_.length ≤ 1000) (x_ = A_ ∧ y_ = B_)) : sm_T (mt_P sc_) 2 43 (0, [some (.inr (.inr (some (1, 0)))), some (.inl x_), some (.inl y_), none], [], S0_) (fun ro9_ => ∃ u_ S1_, ro9_ = (.inl u_, S1_, 0) ∧ vq_43 x_ y_ dd_ F_ G_ A_ B_ S0_ u_ S1_) := by
  have hF_ : ai_fr (sx_W vw_43) S0_ S0_ := ai_fr_rf
  have hD_ : idf dd_ S0_ S0_ := idf_rf
  refine sm_T_go 4 (c1 := (4, [some (.inr (.inr (some (1, 0)))), some (.inl x_), some (.inl y_), none], [.inl 1, .inl y_, .inl x_, .inr (.inr (some (1, 0)))], S0_)) rfl ?_
  refine sm_T_bin (w := (i_xor y_ 1)) rfl rfl ?_
  have bx1_ := i_x1 (x_ := y_) (by omega)
  refine sm_T_cal (d1 := 1) (Q1 := vq_44 x_ (i_xor y_ 1) dd_ F_ G_ A_ (i_xor B_ 1) S0_) rfl rfl (by decide) (vc_44 x_ (i_xor y_ 1) dd_ F_ G_ A_ (i_xor B_ 1) S0_ hI_ (by exact hd_) (by exact hg_) (by omega) (by omega) (by (intro z_; have q_ := hab_ z_; rw [q_.1, q_.2]; exact ⟨rfl, rfl⟩))) (fun u_ Sx2_ px5_ => ?_)
  obtain ⟨vx7_, rfl, hIx3_, hFx4_, px5_⟩ := px5_
  have hFx6_ : ai_fr (sx_W vw_43) S0_ Sx2_ := ai_fr_tr hF_ (fr_le hFx4_ rfl)
  obtain ⟨dx9_, px5_⟩ := px5_
  have hDx8_ : idf dd_ S0_ Sx2_ := idf_tr hD_ dx9_
  have e5_ := px5_
  have l5_ := g_an_le (F_ := F_) (G_ := G_) (a_ := A_) (b_ := i_xor B_ 1)
  refine sm_T_go 4 (c1 := (12, [some (.inr (.inr (some (1, 0)))), some (.inl x_), some (.inl y_), some (.inl vx7_)], [.inl 1, .inl vx7_, .inr (.inr (some (1, 0)))], Sx2_)) rfl ?_
  refine sm_T_bin (w := (i_xor vx7_ 1)) rfl rfl ?_
  have bx10_ := i_x1 (x_ := vx7_) (by omega)
  refine sm_T_go 3 (c1 := (16, [some (.inr (.inr (some (1, 0)))), some (.inl x_), some (.inl y_), some (.inl vx7_)], [.inl 1, .inl x_, .inr (.inr (some (1, 0))), .inl (i_xor vx7_ 1), .inr (.inr (some (1, 0)))], Sx2_)) rfl ?_
  refine sm_T_bin (w := (i_xor x_ 1)) rfl rfl ?_
  have bx11_ := i_x1 (x_ := x_) (by omega)
  refine sm_T_go 1 (c1 := (18, [some (.inr (.inr (some (1, 0)))), some (.inl x_), some (.inl y_), some (.inl vx7_)], [.inl y_, .inl (i_xor x_ 1), .inr (.inr (some (1, 0))), .inl (i_xor vx7_ 1), .inr (.inr (some (1, 0)))], Sx2_)) rfl ?_
  refine sm_T_cal (d1 := 1) (Q1 := vq_44 (i_xor x_ 1) y_ dd_ F_ (g_an F_ G_ A_ (i_xor B_ 1)).2 (i_xor A_ 1) B_ Sx2_) rfl rfl (by decide) (vc_44 (i_xor x_ 1) y_ dd_ F_ (g_an F_ G_ A_ (i_xor B_ 1)).2 (i_xor A_ 1) B_ Sx2_ hIx3_ (by exact cgl_d e5_.1) (by exact e5_.1) (by omega) (by omega) (by (intro z_; have q_ := hab_ (by omega); rw [q_.1, q_.2]; exact ⟨rfl, rfl⟩))) (fun u_ Sx12_ px15_ => ?_)
  obtain ⟨vx17_, rfl, hIx13_, hFx14_, px15_⟩ := px15_
  have hFx16_ : ai_fr (sx_W vw_43) S0_ Sx12_ := ai_fr_tr hFx6_ (fr_le hFx14_ rfl)
  obtain ⟨dx19_, px15_⟩ := px15_
  have hDx18_ : idf dd_ S0_ Sx12_ := idf_tr hDx8_ dx19_
  have e18_ := px15_
  have l18_ := g_an_le (F_ := F_) (G_ := (g_an F_ G_ A_ (i_xor B_ 1)).2) (a_ := i_xor A_ 1) (b_ := B_)
  refine sm_T_go 1 (c1 := (22, [some (.inr (.inr (some (1, 0)))), some (.inl x_), some (.inl y_), some (.inl vx7_)], [.inl 1, .inl vx17_, .inl (i_xor vx7_ 1), .inr (.inr (some (1, 0)))], Sx12_)) rfl ?_
  refine sm_T_bin (w := (i_xor vx17_ 1)) rfl rfl ?_
  have bx20_ := i_x1 (x_ := vx17_) (by omega)
  refine sm_T_cal (d1 := 1) (Q1 := vq_44 (i_xor vx7_ 1) (i_xor vx17_ 1) dd_ F_ (g_an F_ (g_an F_ G_ A_ (i_xor B_ 1)).2 (i_xor A_ 1) B_).2 (i_xor (g_an F_ G_ A_ (i_xor B_ 1)).1 1) (i_xor (g_an F_ (g_an F_ G_ A_ (i_xor B_ 1)).2 (i_xor A_ 1) B_).1 1) Sx12_) rfl rfl (by decide) (vc_44 (i_xor vx7_ 1) (i_xor vx17_ 1) dd_ F_ (g_an F_ (g_an F_ G_ A_ (i_xor B_ 1)).2 (i_xor A_ 1) B_).2 (i_xor (g_an F_ G_ A_ (i_xor B_ 1)).1 1) (i_xor (g_an F_ (g_an F_ G_ A_ (i_xor B_ 1)).2 (i_xor A_ 1) B_).1 1) Sx12_ hIx13_ (by exact cgl_d e18_.1) (by exact e18_.1) (by omega) (by omega) (by (intro z_; rw [e18_.2.1 z_, e5_.2.1 (by omega)]; exact ⟨rfl, rfl⟩))) (fun u_ Sx21_ px24_ => ?_)
  obtain ⟨vx26_, rfl, hIx22_, hFx23_, px24_⟩ := px24_
  have hFx25_ : ai_fr (sx_W vw_43) S0_ Sx21_ := ai_fr_tr hFx16_ (fr_le hFx23_ rfl)
  obtain ⟨dx28_, px24_⟩ := px24_
  have hDx27_ : idf dd_ S0_ Sx21_ := idf_tr hDx18_ dx28_
  have e23_ := px24_
  refine sm_T_go 1 (c1 := (27, [some (.inr (.inr (some (1, 0)))), some (.inl x_), some (.inl y_), some (.inl vx7_)], [.inl 1, .inl vx26_], Sx21_)) rfl ?_
  refine sm_T_bin (w := (i_xor vx26_ 1)) rfl rfl ?_
  have bx29_ := i_x1 (x_ := vx26_) (by omega)
  refine sm_T_ri rfl ⟨_, _, rfl, _, rfl, hIx22_, hFx25_, ?_⟩
  refine ⟨hDx27_, ?_⟩
  refine ⟨e23_.1, fun z_ => ?_, by omega⟩
  show _ = i_xor _ 1
  rw [e23_.2.1 z_]
end
/-! 99.zb2c -/
section
/-! sums -/
theorem cgl_st {dd_ F_ : Nat} {G_ : pGr} {S_ : sm_S} {k_ : Nat} {z_ : Int} (h_ : cgl dd_ F_ G_ S_) : cgl dd_ F_ G_ (sm_aI S_ 27 0 k_ z_) := cgl_fr (w_ := ([], [27], [])) h_ (ai_fr_aI rfl) rfl rfl rfl rfl rfl rfl rfl rfl
theorem g_su_c {F_ : Nat} {G_ : pGr} {c_ a_ b_ : Int} {x_ y_ d_ : List Int} : (d_ ++ (g_su F_ G_ c_ (a_ :: x_) (b_ :: y_)).1, (g_su F_ G_ c_ (a_ :: x_) (b_ :: y_)).2) = ((d_ ++ [(g_s3 F_ G_ c_ a_ b_).1]) ++ (g_su F_ (g_s3 F_ G_ c_ a_ b_).2.2 (g_s3 F_ G_ c_ a_ b_).2.1 x_ y_).1, (g_su F_ (g_s3 F_ G_ c_ a_ b_).2.2 (g_s3 F_ G_ c_ a_ b_).2.1 x_ y_).2) := by
  rw [List.append_assoc]
  rfl
theorem g_z2_c {op_ : pGr → Int → Int → Int × pGr} {G_ : pGr} {a_ b_ : Int} {x_ y_ d_ : List Int} : (d_ ++ (g_z2 op_ G_ (a_ :: x_) (b_ :: y_)).1, (g_z2 op_ G_ (a_ :: x_) (b_ :: y_)).2) = ((d_ ++ [(op_ G_ a_ b_).1]) ++ (g_z2 op_ (op_ G_ a_ b_).2 x_ y_).1, (g_z2 op_ (op_ G_ a_ b_).2 x_ y_).2) := by
  rw [List.append_assoc]
  rfl
end
/-! 99.zb2d -/
section
/-! Builder.sum -/
def vw_41 : sx_Wl := ([(1, 8), (3, 4)], [27, 29, 42, 43], [])
def vq_41 (a_ : Int) (b_ : Int) (nb_ : Int) (dd_ : Nat) (F_ : Nat) (G_ : pGr) (x_ : List Int) (y_ : List Int) (S0_ : sm_S) (u_ : Option sm_V) (S1_ : sm_S) : Prop := u_ = none ∧ gi S1_ ∧ ai_fr (sx_W vw_41) S0_ S1_ ∧ (idf dd_ S0_ S1_ ∧ (cgl dd_ F_ (g_su F_ G_ 0 x_ y_).2 S1_ ∧ (imq ((g_su F_ G_ 0 x_ y_).2.length ≤ 1000) (rwv (S1_.2.2.1 27 0) a_.toNat (g_su F_ G_ 0 x_ y_).1)) ∧ ∀ j_ : Nat, j_ < a_.toNat ∨ a_.toNat + 8 ≤ j_ → S1_.2.2.1 27 0 j_ = S0_.2.2.1 27 0 j_))
set_option maxHeartbeats 1500000 in
theorem vl_41 {sc_ : Nat × (Nat → Int)} (a_ : Int) (b_ : Int) (nb_ : Int) (dd_ : Nat) (F_ : Nat) (G_ : pGr) (x_ : List Int) (y_ : List Int) (S0_ : sm_S) (hd_ : S0_.2.1 1 0 1 = some dd_) (hg_ : cgl dd_ F_ G_ S0_) (ha_ : 0 ≤ a_ ∧ a_ + 8 ≤ b_ ∧ b_ + 8 ≤ 4096) (hn_ : nb_ = (x_.length : Int) ∧ x_.length = y_.length ∧ x_.length ≤ 8) (hr_ : imq (G_.length ≤ 1000) (rwv (S0_.2.2.1 27 0) a_.toNat x_ ∧ rwv (S0_.2.2.1 27 0) b_.toNat y_)) : ∀ nn_ : Nat, (∀ (cy_ : Int) (k_ : Int) (S_ : sm_S), gi S_ → ai_fr (sx_W vw_41) S0_ S_ → (((0 ≤ k_ ∧ k_ ≤ nb_) ∧ 0 ≤ cy_ ∧ cy_ ≤ 2025) ∧ (∃ (G1_ : pGr) (c1_ : Int) (d_ r_ e_ s_ : List Int), cgl dd_ F_ G1_ S_ ∧ (d_.length : Int) = k_ ∧ (e_.length : Int) = k_ ∧ r_.length = s_.length ∧ k_ + r_.length = nb_ ∧ y_ = e_ ++ s_ ∧ (imq (G1_.length ≤ 1000) (cy_ = c1_ ∧ rwv (S_.2.2.1 27 0) a_.toNat (d_ ++ r_) ∧ rwv (S_.2.2.1 27 0) b_.toNat y_)) ∧ (g_su F_ G_ 0 x_ y_) = (d_ ++ (g_su F_ G1_ c1_ r_ s_).1, (g_su F_ G1_ c1_ r_ s_).2)) ∧ (∀ j_ : Nat, j_ < a_.toNat ∨ a_.toNat + 8 ≤ j_ → S_.2.2.1 27 0 j_ = S0_.2.2.1 27 0 j_) ∧ (idf dd_ S0_ S_) ∧ True) → ((nb_ - k_).toNat) < nn_ → sm_T (mt_P sc_) 3 41 (6, [some (.inr (.inr (some (1, 0)))), some (.inl a_), some (.inl b_), some (.inl nb_), some (.inl cy_), some (.inl k_), none, none, none, none], [], S_) (fun ro9_ => ∃ u_ S1_, ro9_ = (.inl u_, S1_, 0) ∧ vq_41 a_ b_ nb_ dd_ F_ G_ x_ y_ S0_ u_ S1_)) := by
  intro nn_
  induction nn_ with
  | zero => exact fun _ _ _ _ _ _ h_ => absurd h_ (Nat.not_lt_zero _)
  | succ nn_ ih_ =>
    rintro cy_ k_ S_ hI_ hF_ ⟨h0_, h1_, h2_, hD_, -⟩ hm_
    obtain ⟨G1_, c1_, d_, r_, e_, s_, z1_, z2_, z2b, z3_, z4_, z5_, z6_, z8_⟩ := h1_
    refine sm_T_go 2 (c1 := (9, [some (.inr (.inr (some (1, 0)))), some (.inl a_), some (.inl b_), some (.inl nb_), some (.inl cy_), some (.inl k_), none, none, none, none], [.inl nb_, .inl k_], S_)) rfl ?_
    refine sm_T_br (a := 3) (z := 84) rfl (fun cx1_ => ?_) (fun cx1_ => ?_)
    · have cx1_ : nb_ ≤ k_ := of_decide_eq_true cx1_
      refine sm_T_rv rfl ⟨_, _, rfl, rfl, hI_, hF_, ?_⟩
      refine ⟨hD_, ?_⟩
      have kr_ : r_ = [] := List.eq_nil_of_length_eq_zero (by omega)
      have ks_ : s_ = [] := List.eq_nil_of_length_eq_zero (by omega)
      rw [kr_, ks_] at z8_
      have q8_ : g_su F_ G1_ c1_ [] [] = ([], G1_) := rfl
      rw [q8_, List.append_nil] at z8_
      rw [z8_]
      refine ⟨z1_, fun z_ => ?_, h2_⟩
      have q9_ := (z6_ z_).2.1
      rw [kr_, List.append_nil] at q9_
      exact q9_
    · have cx1_ : ¬ (nb_ ≤ k_) := of_decide_eq_false cx1_
      obtain ⟨r0_, r_, rfl⟩ : ∃ r0_ r1_, r_ = r0_ :: r1_ := by cases r_ with | nil => (simp only [List.length_nil] at z4_; omega) | cons p_ q_ => exact ⟨p_, q_, rfl⟩
      obtain ⟨s0_, s_, rfl⟩ : ∃ s0_ s1_, s_ = s0_ :: s1_ := by cases s_ with | nil => (simp only [List.length_nil, List.length_cons] at z3_ z4_; omega) | cons p_ q_ => exact ⟨p_, q_, rfl⟩
      have rx : imq (G1_.length ≤ 1000) (S_.2.2.1 27 0 (a_ + k_).toNat = r0_ ∧ S_.2.2.1 27 0 (b_ + k_).toNat = s0_) := fun z_ => by rw [show (a_ + k_).toNat = a_.toNat + d_.length by omega, show (b_ + k_).toNat = b_.toNat + e_.length by omega]; exact ⟨rwv_m (z6_ z_).2.1, rwv_m (by rw [← z5_]; exact (z6_ z_).2.2)⟩
      obtain ⟨P1_, hP1_⟩ : ∃ z_, z_ = g_xo F_ G1_ r0_ s0_ := ⟨_, rfl⟩
      have lP1_ : G1_.length ≤ P1_.2.length := by rw [hP1_]; exact g_xo_le
      obtain ⟨P2_, hP2_⟩ : ∃ z_, z_ = g_xo F_ P1_.2 P1_.1 c1_ := ⟨_, rfl⟩
      have lP2_ : P1_.2.length ≤ P2_.2.length := by rw [hP2_]; exact g_xo_le
      obtain ⟨P3_, hP3_⟩ : ∃ z_, z_ = g_an F_ P2_.2 r0_ s0_ := ⟨_, rfl⟩
      have lP3_ : P2_.2.length ≤ P3_.2.length := by rw [hP3_]; exact g_an_le.1
      obtain ⟨P4_, hP4_⟩ : ∃ z_, z_ = g_an F_ P3_.2 P1_.1 c1_ := ⟨_, rfl⟩
      have lP4_ : P3_.2.length ≤ P4_.2.length := by rw [hP4_]; exact g_an_le.1
      obtain ⟨P5_, hP5_⟩ : ∃ z_, z_ = g_or F_ P4_.2 P3_.1 P4_.1 := ⟨_, rfl⟩
      have lP5_ : P4_.2.length ≤ P5_.2.length := by rw [hP5_]; exact g_or_le
      have hs3_ : g_s3 F_ G1_ c1_ r0_ s0_ = (P2_.1, P5_.1, P5_.2) := by rw [hP5_, hP4_, hP3_, hP2_, hP1_]; rfl
      refine sm_T_go 4 (c1 := (19, [some (.inr (.inr (some (1, 0)))), some (.inl a_), some (.inl b_), some (.inl nb_), some (.inl cy_), some (.inl k_), none, none, none, none], [.inl k_, .inl a_, .inr (.inr (some (27, 0)))], S_)) rfl ?_
      refine sm_T_bin (w := a_ + k_) rfl (bi_add (by omega) (by omega) (by omega)) ?_
      refine sm_T_iald (n := 4096) rfl rfl (by omega) (by omega) ?_
      have bx2_ : 0 ≤ S_.2.2.1 27 0 (a_ + k_).toNat ∧ S_.2.2.1 27 0 (a_ + k_).toNat ≤ 2025 := hI_.2 27 0 _
      refine sm_T_go 5 (c1 := (30, [some (.inr (.inr (some (1, 0)))), some (.inl a_), some (.inl b_), some (.inl nb_), some (.inl cy_), some (.inl k_), some (.inl (S_.2.2.1 27 0 (a_ + k_).toNat)), none, none, none], [.inl k_, .inl b_, .inr (.inr (some (27, 0)))], S_)) rfl ?_
      refine sm_T_bin (w := b_ + k_) rfl (bi_add (by omega) (by omega) (by omega)) ?_
      refine sm_T_iald (n := 4096) rfl rfl (by omega) (by omega) ?_
      have bx3_ : 0 ≤ S_.2.2.1 27 0 (b_ + k_).toNat ∧ S_.2.2.1 27 0 (b_ + k_).toNat ≤ 2025 := hI_.2 27 0 _
      refine sm_T_go 4 (c1 := (39, [some (.inr (.inr (some (1, 0)))), some (.inl a_), some (.inl b_), some (.inl nb_), some (.inl cy_), some (.inl k_), some (.inl (S_.2.2.1 27 0 (a_ + k_).toNat)), some (.inl (S_.2.2.1 27 0 (b_ + k_).toNat)), none, none], [.inl (S_.2.2.1 27 0 (b_ + k_).toNat), .inl (S_.2.2.1 27 0 (a_ + k_).toNat), .inr (.inr (some (1, 0)))], S_)) rfl ?_
      refine sm_T_cal (d1 := 2) (Q1 := vq_43 (S_.2.2.1 27 0 (a_ + k_).toNat) (S_.2.2.1 27 0 (b_ + k_).toNat) dd_ F_ G1_ r0_ s0_ S_) rfl rfl (by decide) (vc_43 (S_.2.2.1 27 0 (a_ + k_).toNat) (S_.2.2.1 27 0 (b_ + k_).toNat) dd_ F_ G1_ r0_ s0_ S_ hI_ (by exact cgl_d z1_) (by exact z1_) (by omega) (by omega) (by exact rx)) (fun u_ Sx4_ px7_ => ?_)
      obtain ⟨vx9_, rfl, hIx5_, hFx6_, px7_⟩ := px7_
      have hFx8_ : ai_fr (sx_W vw_41) S0_ Sx4_ := ai_fr_tr hF_ (fr_le hFx6_ rfl)
      obtain ⟨dx11_, px7_⟩ := px7_
      have hDx10_ : idf dd_ S0_ Sx4_ := idf_tr hD_ dx11_
      have e39_ := px7_
      rw [← hP1_] at e39_
      have f39_ : Sx4_.2.2.1 27 0 = S_.2.2.1 27 0 := fr_arr hFx6_ rfl
      refine sm_T_go 5 (c1 := (51, [some (.inr (.inr (some (1, 0)))), some (.inl a_), some (.inl b_), some (.inl nb_), some (.inl cy_), some (.inl k_), some (.inl (S_.2.2.1 27 0 (a_ + k_).toNat)), some (.inl (S_.2.2.1 27 0 (b_ + k_).toNat)), some (.inl vx9_), none], [.inl k_, .inl a_, .inr (.inr (some (27, 0)))], Sx4_)) rfl ?_
      refine sm_T_bin (w := a_ + k_) rfl (bi_add (by omega) (by omega) (by omega)) ?_
      refine sm_T_go 3 (c1 := (57, [some (.inr (.inr (some (1, 0)))), some (.inl a_), some (.inl b_), some (.inl nb_), some (.inl cy_), some (.inl k_), some (.inl (S_.2.2.1 27 0 (a_ + k_).toNat)), some (.inl (S_.2.2.1 27 0 (b_ + k_).toNat)), some (.inl vx9_), none], [.inl cy_, .inl vx9_, .inr (.inr (some (1, 0))), .inl (a_ + k_), .inr (.inr (some (27, 0)))], Sx4_)) rfl ?_
      refine sm_T_cal (d1 := 2) (Q1 := vq_43 vx9_ cy_ dd_ F_ P1_.2 P1_.1 c1_ Sx4_) rfl rfl (by decide) (vc_43 vx9_ cy_ dd_ F_ P1_.2 P1_.1 c1_ Sx4_ hIx5_ (by exact cgl_d e39_.1) (by exact e39_.1) (by omega) (by omega) (by (intro z_; exact ⟨e39_.2.1 z_, (z6_ (by omega)).1⟩))) (fun u_ Sx12_ px15_ => ?_)
      obtain ⟨vx17_, rfl, hIx13_, hFx14_, px15_⟩ := px15_
      have hFx16_ : ai_fr (sx_W vw_41) S0_ Sx12_ := ai_fr_tr hFx8_ (fr_le hFx14_ rfl)
      obtain ⟨dx19_, px15_⟩ := px15_
      have hDx18_ : idf dd_ S0_ Sx12_ := idf_tr hDx10_ dx19_
      have e57_ := px15_
      rw [← hP2_] at e57_
      have f57_ : Sx12_.2.2.1 27 0 = S_.2.2.1 27 0 := (fr_arr hFx14_ rfl).trans f39_
      have g57_ : ∀ j9_ : Nat, (sm_aI Sx12_ 27 0 (a_ + k_).toNat vx17_).2.2.1 27 0 j9_ = if j9_ = (a_ + k_).toNat then vx17_ else S_.2.2.1 27 0 j9_ := fun j9_ => by rw [rd_eq, f57_]
      refine sm_T_iast (n := 4096) rfl rfl (by omega) (by omega) ?_
      have hIx20_ : gi (sm_aI Sx12_ 27 0 (a_ + k_).toNat vx17_) := gi_aI hIx13_ (show 0 ≤ vx17_ ∧ vx17_ ≤ 2025 from ⟨by omega, by omega⟩)
      have hFx21_ : ai_fr (sx_W vw_41) S0_ (sm_aI Sx12_ 27 0 (a_ + k_).toNat vx17_) := ai_fr_tr hFx16_ (ai_fr_aI rfl)
      have hDx22_ : idf dd_ S0_ (sm_aI Sx12_ 27 0 (a_ + k_).toNat vx17_) := idf_aI hDx18_ (Or.inl (by decide))
      refine sm_T_go 3 (c1 := (66, [some (.inr (.inr (some (1, 0)))), some (.inl a_), some (.inl b_), some (.inl nb_), some (.inl cy_), some (.inl k_), some (.inl (S_.2.2.1 27 0 (a_ + k_).toNat)), some (.inl (S_.2.2.1 27 0 (b_ + k_).toNat)), some (.inl vx9_), none], [.inl (S_.2.2.1 27 0 (b_ + k_).toNat), .inl (S_.2.2.1 27 0 (a_ + k_).toNat), .inr (.inr (some (1, 0)))], sm_aI Sx12_ 27 0 (a_ + k_).toNat vx17_)) rfl ?_
      refine sm_T_cal (d1 := 1) (Q1 := vq_44 (S_.2.2.1 27 0 (a_ + k_).toNat) (S_.2.2.1 27 0 (b_ + k_).toNat) dd_ F_ P2_.2 r0_ s0_ (sm_aI Sx12_ 27 0 (a_ + k_).toNat vx17_)) rfl rfl (by decide) (vc_44 (S_.2.2.1 27 0 (a_ + k_).toNat) (S_.2.2.1 27 0 (b_ + k_).toNat) dd_ F_ P2_.2 r0_ s0_ (sm_aI Sx12_ 27 0 (a_ + k_).toNat vx17_) hIx20_ (by exact cgl_d (cgl_st e57_.1)) (by exact cgl_st e57_.1) (by omega) (by omega) (by (intro z_; exact rx (by omega)))) (fun u_ Sx23_ px26_ => ?_)
      obtain ⟨vx28_, rfl, hIx24_, hFx25_, px26_⟩ := px26_
      have hFx27_ : ai_fr (sx_W vw_41) S0_ Sx23_ := ai_fr_tr hFx21_ (fr_le hFx25_ rfl)
      obtain ⟨dx30_, px26_⟩ := px26_
      have hDx29_ : idf dd_ S0_ Sx23_ := idf_tr hDx22_ dx30_
      have e66_ := px26_
      rw [← hP3_] at e66_
      have g66_ := g57_
      rw [← fr_arr (t := 27) (i := 0) hFx25_ rfl] at g66_
      refine sm_T_go 6 (c1 := (79, [some (.inr (.inr (some (1, 0)))), some (.inl a_), some (.inl b_), some (.inl nb_), some (.inl cy_), some (.inl k_), some (.inl (S_.2.2.1 27 0 (a_ + k_).toNat)), some (.inl (S_.2.2.1 27 0 (b_ + k_).toNat)), some (.inl vx9_), some (.inl vx28_)], [.inl cy_, .inl vx9_, .inr (.inr (some (1, 0))), .inl vx28_, .inr (.inr (some (1, 0)))], Sx23_)) rfl ?_
      refine sm_T_cal (d1 := 1) (Q1 := vq_44 vx9_ cy_ dd_ F_ P3_.2 P1_.1 c1_ Sx23_) rfl rfl (by decide) (vc_44 vx9_ cy_ dd_ F_ P3_.2 P1_.1 c1_ Sx23_ hIx24_ (by exact cgl_d e66_.1) (by exact e66_.1) (by omega) (by omega) (by (intro z_; exact ⟨e39_.2.1 (by omega), (z6_ (by omega)).1⟩))) (fun u_ Sx31_ px34_ => ?_)
      obtain ⟨vx36_, rfl, hIx32_, hFx33_, px34_⟩ := px34_
      have hFx35_ : ai_fr (sx_W vw_41) S0_ Sx31_ := ai_fr_tr hFx27_ (fr_le hFx33_ rfl)
      obtain ⟨dx38_, px34_⟩ := px34_
      have hDx37_ : idf dd_ S0_ Sx31_ := idf_tr hDx29_ dx38_
      have e79_ := px34_
      rw [← hP4_] at e79_
      have g79_ := g66_
      rw [← fr_arr (t := 27) (i := 0) hFx33_ rfl] at g79_
      refine sm_T_cal (d1 := 2) (Q1 := vq_42 vx28_ vx36_ dd_ F_ P4_.2 P3_.1 P4_.1 Sx31_) rfl rfl (by decide) (vc_42 vx28_ vx36_ dd_ F_ P4_.2 P3_.1 P4_.1 Sx31_ hIx32_ (by exact cgl_d e79_.1) (by exact e79_.1) (by omega) (by omega) (by (intro z_; exact ⟨e66_.2.1 (by omega), e79_.2.1 (by omega)⟩))) (fun u_ Sx39_ px42_ => ?_)
      obtain ⟨vx44_, rfl, hIx40_, hFx41_, px42_⟩ := px42_
      have hFx43_ : ai_fr (sx_W vw_41) S0_ Sx39_ := ai_fr_tr hFx35_ (fr_le hFx41_ rfl)
      obtain ⟨dx46_, px42_⟩ := px42_
      have hDx45_ : idf dd_ S0_ Sx39_ := idf_tr hDx37_ dx46_
      have e82_ := px42_
      rw [← hP5_] at e82_
      have g82_ := g79_
      rw [← fr_arr (t := 27) (i := 0) hFx41_ rfl] at g82_
      refine sm_T_go 1 (c1 := (87, [some (.inr (.inr (some (1, 0)))), some (.inl a_), some (.inl b_), some (.inl nb_), some (.inl vx44_), some (.inl k_), some (.inl (S_.2.2.1 27 0 (a_ + k_).toNat)), some (.inl (S_.2.2.1 27 0 (b_ + k_).toNat)), some (.inl vx9_), some (.inl vx28_)], [], Sx39_)) rfl ?_
      refine sm_T_inc (a := 5) (z := 1) (v := k_) (w := k_ + 1) rfl rfl (by omega) (by omega) (by omega) ?_
      refine sm_T_go 1 (c1 := (6, [some (.inr (.inr (some (1, 0)))), some (.inl a_), some (.inl b_), some (.inl nb_), some (.inl vx44_), some (.inl (k_ + 1)), some (.inl (S_.2.2.1 27 0 (a_ + k_).toNat)), some (.inl (S_.2.2.1 27 0 (b_ + k_).toNat)), some (.inl vx9_), some (.inl vx28_)], [], Sx39_)) rfl ?_
      refine sm_T_wk [some (.inr (.inr (some (1, 0)))), some (.inl a_), some (.inl b_), some (.inl nb_), some (.inl vx44_), some (.inl (k_ + 1)), none, none, none, none] (by exact ⟨rfl, rfl, rfl, rfl, rfl, rfl, trivial⟩) ?_
      refine ih_ vx44_ (k_ + 1) Sx39_ hIx40_ hFx43_ ⟨?_, ?_, ?_, ?_, trivial⟩ ?_
      · omega
      · refine ⟨P5_.2, P5_.1, d_ ++ [P2_.1], r_, e_ ++ [s0_], s_, e82_.1, ?_, ?_, ?_, ?_, ?_, fun z_ => ?_, ?_⟩
        · simp only [List.length_append, List.length_cons, List.length_nil]; push_cast; omega
        · simp only [List.length_append, List.length_cons, List.length_nil]; push_cast; omega
        · simp only [List.length_cons] at z3_; omega
        · simp only [List.length_cons] at z4_; push_cast at z4_; omega
        · rw [z5_, List.append_assoc]; rfl
        · have q1_ := z6_ (by omega)
          refine ⟨e82_.2.1 z_, ?_, ?_⟩
          · exact rwv_set (q_ := (a_ + k_).toNat) q1_.2.1 (by omega) (fun j_ => by rw [g82_, e57_.2.1 (by omega)])
          · exact rwv_cg q1_.2.2 (fun j_ hj_ => by rw [g82_, if_neg (by omega)])
        · rw [z8_, g_su_c, hs3_]
      · intro j_ hj_
        rw [g82_, if_neg (by omega)]
        exact h2_ j_ hj_
      · exact hDx45_
      · omega
set_option maxHeartbeats 1500000 in
theorem vc_41 {sc_ : Nat × (Nat → Int)} (a_ : Int) (b_ : Int) (nb_ : Int) (dd_ : Nat) (F_ : Nat) (G_ : pGr) (x_ : List Int) (y_ : List Int) (S0_ : sm_S) (hI_ : gi S0_) (hd_ : S0_.2.1 1 0 1 = some dd_) (hg_ : cgl dd_ F_ G_ S0_) (ha_ : 0 ≤ a_ ∧ a_ + 8 ≤ b_ ∧ b_ + 8 ≤ 4096) (hn_ : nb_ = (x_.length : Int) ∧ x_.length = y_.length ∧ x_.length ≤ 8) (hr_ : imq (G_.length ≤ 1000) (rwv (S0_.2.2.1 27 0) a_.toNat x_ ∧ rwv (S0_.2.2.1 27 0) b_.toNat y_)) : sm_T (mt_P sc_) 3 41 (0, [some (.inr (.inr (some (1, 0)))), some (.inl a_), some (.inl b_), some (.inl nb_), none, none, none, none, none, none], [], S0_) (fun ro9_ => ∃ u_ S1_, ro9_ = (.inl u_, S1_, 0) ∧ vq_41 a_ b_ nb_ dd_ F_ G_ x_ y_ S0_ u_ S1_) := by
  have hF_ : ai_fr (sx_W vw_41) S0_ S0_ := ai_fr_rf
  have hD_ : idf dd_ S0_ S0_ := idf_rf
  refine sm_T_go 4 (c1 := (6, [some (.inr (.inr (some (1, 0)))), some (.inl a_), some (.inl b_), some (.inl nb_), some (.inl 0), some (.inl 0), none, none, none, none], [], S0_)) rfl ?_
  refine (vl_41 a_ b_ nb_ dd_ F_ G_ x_ y_ S0_ hd_ hg_ ha_ hn_ hr_ _) 0 0 S0_ hI_ hF_ ⟨?_, ?_, ?_, ?_, trivial⟩ (Nat.lt_succ_self _)
  · omega
  · exact ⟨G_, 0, [], x_, [], y_, hg_, rfl, rfl, hn_.2.1, by omega, rfl, fun z_ => ⟨rfl, hr_ z_⟩, rfl⟩
  · (intro j_ hj_; rfl)
  · exact hD_
end
/-! 99.zb3a -/
section
/-! the class: choices; written by wip/p55/gen/vg -/

/-! operators -/
theorem rwv_ap {st_ st'_ : Nat → Int} {p_ q_ : Nat} {d_ : List Int} {z_ : Int} (h_ : rwv st_ p_ d_) (hq_ : q_ = p_ + d_.length) (hs_ : ∀ k_, st'_ k_ = if k_ = q_ then z_ else st_ k_) : rwv st'_ p_ (d_ ++ [z_]) := by
  intro k_ x_ e_
  rw [hs_]
  by_cases g_ : k_ < d_.length
  · rw [if_neg (by omega)]
    rw [List.getElem?_append_left g_] at e_
    exact h_ k_ x_ e_
  · rw [List.getElem?_append_right (by omega)] at e_
    by_cases g2_ : k_ = d_.length
    · rw [if_pos (by omega)]
      rw [show k_ - d_.length = 0 by omega] at e_
      exact Option.some.inj e_
    · rw [show k_ - d_.length = (k_ - d_.length - 1) + 1 by omega, List.getElem?_cons_succ] at e_
      simp at e_
theorem e_op6 {F_ : Nat} {G_ : pGr} {V_ : gV} {r_ : pGr × gV} (h_ : e_op F_ 6 G_ V_ = some r_) : ∃ x_ l_, V_ = x_ :: l_ ∧ r_ = (G_, x_.map (fun z_ => i_xor z_ 1) :: l_) := by
  unfold e_op at h_
  rw [if_pos rfl] at h_
  cases V_ with
  | nil => cases h_
  | cons x_ l_ => cases h_; exact ⟨x_, l_, rfl, rfl⟩
theorem e_op7 {F_ : Nat} {G_ : pGr} {V_ : gV} {r_ : pGr × gV} (h_ : e_op F_ 7 G_ V_ = some r_) : ∃ e_ a_ c_ l_, V_ = e_ :: a_ :: [c_] :: l_ ∧ a_.length = e_.length ∧ r_ = ((g_ch F_ c_ G_ a_ e_).2, (g_ch F_ c_ G_ a_ e_).1 :: l_) := by
  unfold e_op at h_
  rw [if_neg (by decide), if_pos rfl] at h_
  split at h_
  · rename_i e_ a_ c_ l_
    split at h_
    · rename_i g_
      cases h_
      exact ⟨e_, a_, c_, l_, rfl, g_.1, rfl⟩
    · cases h_
  · cases h_
theorem e_opb {F_ : Nat} {k_ : Int} {G_ : pGr} {V_ : gV} {r_ : pGr × gV} (h_ : e_op F_ k_ G_ V_ = some r_) (h6_ : k_ ≠ 6) (h7_ : k_ ≠ 7) : (1 ≤ k_ ∧ k_ ≤ 5) ∧ ∃ y_ x_ l_, V_ = y_ :: x_ :: l_ ∧ x_.length = y_.length ∧ 1 ≤ x_.length ∧ r_ = ((g_op F_ k_ G_ x_ y_).2, (g_op F_ k_ G_ x_ y_).1 :: l_) := by
  unfold e_op at h_
  rw [if_neg h6_, if_neg h7_] at h_
  split at h_
  · rename_i g0_
    split at h_
    · rename_i y_ x_ l_
      split at h_
      · rename_i g_
        cases h_
        exact ⟨g0_, y_, x_, l_, rfl, g_.1, g_.2, rfl⟩
      · cases h_
    · cases h_
  · cases h_
theorem g_op5 {F_ : Nat} {G_ : pGr} {x_ y_ : List Int} : g_op F_ 5 G_ x_ y_ = g_su F_ G_ 0 x_ y_ := if_pos rfl
theorem g_op4 {F_ : Nat} {G_ : pGr} {x_ y_ : List Int} : g_op F_ 4 G_ x_ y_ = g_sa F_ G_ x_ y_ := by
  unfold g_op
  rw [if_neg (by decide), if_pos rfl]
theorem g_opw {F_ : Nat} {k_ : Int} {G_ : pGr} {x_ y_ : List Int} (h5_ : k_ ≠ 5) (h4_ : k_ ≠ 4) : g_op F_ k_ G_ x_ y_ = g_z2 (g_bw F_ k_) G_ x_ y_ := by
  unfold g_op
  rw [if_neg h5_, if_neg h4_]
def cstk (G_ : pGr) (V_ : gV) (S_ : sm_S) : Prop := S_.1 1 0 6 = (V_.length : Int) ∧ svl (G_.length ≤ 1000) (S_.2.2.1 27 0) (S_.2.2.1 28 0) V_
/-- the_ top_ of_ the_ stack anew -/
theorem svl_tp {ok_ ok'_ : Prop} {st_ st'_ wd_ wd'_ : Nat → Int} {l_ : gV} {v_ : List Int} (h_ : svl ok_ st_ wd_ l_) (h0_ : ok'_ → ok_) (h1_ : ∀ j_, j_ < 8 * l_.length → st'_ j_ = st_ j_) (h2_ : ∀ j_, j_ < l_.length → wd'_ j_ = wd_ j_) (h3_ : wd'_ l_.length = (v_.length : Int)) (h4_ : 1 ≤ v_.length ∧ v_.length ≤ 8) (h5_ : ok'_ → rwv st'_ (8 * l_.length) v_) : svl ok'_ st'_ wd'_ (v_ :: l_) := ⟨h3_, h4_, h5_, svl_up h_ h0_ h1_ h2_⟩
end
/-! 99.zb3b -/
section
/-! Builder.choose -/
def vw_40 : sx_Wl := ([(1, 6), (1, 8), (3, 4)], [27, 28, 29, 42, 43], [])
def vq_40 (dd_ : Nat) (F_ : Nat) (G_ : pGr) (c_ : Int) (va_ : List Int) (ve_ : List Int) (l_ : gV) (S0_ : sm_S) (u_ : Option sm_V) (S1_ : sm_S) : Prop := u_ = none ∧ gi S1_ ∧ ai_fr (sx_W vw_40) S0_ S1_ ∧ (idf dd_ S0_ S1_ ∧ (cgl dd_ F_ (g_ch F_ c_ G_ va_ ve_).2 S1_ ∧ cstk (g_ch F_ c_ G_ va_ ve_).2 ((g_ch F_ c_ G_ va_ ve_).1 :: l_) S1_))
set_option maxHeartbeats 1500000 in
theorem vl_40 {sc_ : Nat × (Nat → Int)} (dd_ : Nat) (F_ : Nat) (G_ : pGr) (c_ : Int) (va_ : List Int) (ve_ : List Int) (l_ : gV) (S0_ : sm_S) (hd_ : S0_.2.1 1 0 1 = some dd_) (hg_ : cgl dd_ F_ G_ S0_) (ht_ : (S0_.1 1 0 6) = (l_.length : Int) + 3) (hV_ : svl (G_.length ≤ 1000) (S0_.2.2.1 27 0) (S0_.2.2.1 28 0) (ve_ :: va_ :: [c_] :: l_)) (hl_ : va_.length = ve_.length ∧ l_.length ≤ 509) : ∀ nn_ : Nat, (∀ (ro_ : Int) (cd_ : Int) (k_ : Int) (S_ : sm_S), gi S_ → ai_fr (sx_W vw_40) S0_ S_ → (((0 ≤ k_ ∧ k_ ≤ (va_.length : Int)) ∧ (0 ≤ cd_ ∧ cd_ ≤ 2025) ∧ ro_ = 8 * (l_.length : Int) ∧ (S_.1 1 0 6) = (l_.length : Int) + 1) ∧ (∃ (G1_ : pGr) (d_ r_ s_ e1_ e2_ : List Int), cgl dd_ F_ G1_ S_ ∧ (d_.length : Int) = k_ ∧ (e1_.length : Int) = k_ ∧ (e2_.length : Int) = k_ ∧ r_.length = s_.length ∧ k_ + r_.length = va_.length ∧ va_ = e1_ ++ r_ ∧ ve_ = e2_ ++ s_ ∧ (imq (G1_.length ≤ 1000) (cd_ = c_ ∧ rwv (S_.2.2.1 27 0) (8 * l_.length) d_ ∧ rwv (S_.2.2.1 27 0) (8 * l_.length + 8) va_ ∧ rwv (S_.2.2.1 27 0) (8 * l_.length + 16) ve_)) ∧ G_.length ≤ G1_.length ∧ (g_ch F_ c_ G_ va_ ve_) = (d_ ++ (g_ch F_ c_ G1_ r_ s_).1, (g_ch F_ c_ G1_ r_ s_).2)) ∧ (∀ j_, j_ < 8 * l_.length → S_.2.2.1 27 0 j_ = S0_.2.2.1 27 0 j_) ∧ (∀ j_, S_.2.2.1 28 0 j_ = S0_.2.2.1 28 0 j_) ∧ (idf dd_ S0_ S_) ∧ True) → (((va_.length : Int) - k_).toNat) < nn_ → sm_T (mt_P sc_) 3 40 (29, [some (.inr (.inr (some (1, 0)))), some (.inl ro_), some (.inl cd_), some (.inl k_), none, none], [], S_) (fun ro9_ => ∃ u_ S1_, ro9_ = (.inl u_, S1_, 0) ∧ vq_40 dd_ F_ G_ c_ va_ ve_ l_ S0_ u_ S1_)) := by
  intro nn_
  induction nn_ with
  | zero => exact fun _ _ _ _ _ _ _ h_ => absurd h_ (Nat.not_lt_zero _)
  | succ nn_ ih_ =>
    rintro ro_ cd_ k_ S_ hI_ hF_ ⟨h0_, h1_, h2_, h3_, hD_, -⟩ hm_
    obtain ⟨G1_, d_, r_, s_, e1_, e2_, z1_, z2_, z2b, z2c, z3_, z4_, z5_, z5b, z6_, z7_, z8_⟩ := h1_
    have v1_ := hV_.2.2.2.1
    have v2_ := hV_.2.2.2.2.1
    simp only [List.length_cons] at v1_
    have wt : S_.2.2.1 28 0 (S_.1 1 0 6).toNat = (va_.length : Int) := by rw [h3_, show (S_.1 1 0 6).toNat = l_.length + 1 by omega]; exact v1_
    have bx1_ : 0 ≤ S_.1 1 0 6 ∧ S_.1 1 0 6 ≤ 512 := hI_.1 1 0 6 rfl
    refine sm_T_go 5 (c1 := (38, [some (.inr (.inr (some (1, 0)))), some (.inl ro_), some (.inl cd_), some (.inl k_), none, none], [.inl (S_.1 1 0 6), .inr (.inr (some (28, 0))), .inl k_], S_)) rfl ?_
    refine sm_T_iald (n := 512) rfl rfl (by omega) (by omega) ?_
    have bx2_ : 0 ≤ S_.2.2.1 28 0 (S_.1 1 0 6).toNat ∧ S_.2.2.1 28 0 (S_.1 1 0 6).toNat ≤ 8 := hI_.2 28 0 _
    refine sm_T_br (a := 3) (z := 71) rfl (fun cx3_ => ?_) (fun cx3_ => ?_)
    · have cx3_ : (S_.2.2.1 28 0 (S_.1 1 0 6).toNat) ≤ k_ := of_decide_eq_true cx3_
      refine sm_T_go 5 (c1 := (119, [some (.inr (.inr (some (1, 0)))), some (.inl ro_), some (.inl cd_), some (.inl k_), none, none], [.inl 1, .inl (S_.1 1 0 6), .inr (.inr (some (28, 0)))], S_)) rfl ?_
      refine sm_T_bin (w := (S_.1 1 0 6) - 1) rfl (bi_sub (by omega) (by omega) (by omega)) ?_
      refine sm_T_go 4 (c1 := (128, [some (.inr (.inr (some (1, 0)))), some (.inl ro_), some (.inl cd_), some (.inl k_), none, none], [.inl (S_.1 1 0 6), .inr (.inr (some (28, 0))), .inl ((S_.1 1 0 6) - 1), .inr (.inr (some (28, 0)))], S_)) rfl ?_
      refine sm_T_iald (n := 512) rfl rfl (by omega) (by omega) ?_
      refine sm_T_iast (n := 512) rfl rfl (by omega) (by omega) ?_
      have hIx4_ : gi (sm_aI S_ 28 0 ((S_.1 1 0 6) - 1).toNat (S_.2.2.1 28 0 (S_.1 1 0 6).toNat)) := gi_aI hI_ (show 0 ≤ (S_.2.2.1 28 0 (S_.1 1 0 6).toNat) ∧ (S_.2.2.1 28 0 (S_.1 1 0 6).toNat) ≤ 8 from ⟨by omega, by omega⟩)
      have hFx5_ : ai_fr (sx_W vw_40) S0_ (sm_aI S_ 28 0 ((S_.1 1 0 6) - 1).toNat (S_.2.2.1 28 0 (S_.1 1 0 6).toNat)) := ai_fr_tr hF_ (ai_fr_aI rfl)
      have hDx6_ : idf dd_ S0_ (sm_aI S_ 28 0 ((S_.1 1 0 6) - 1).toNat (S_.2.2.1 28 0 (S_.1 1 0 6).toNat)) := idf_aI hD_ (Or.inl (by decide))
      refine sm_T_rv rfl ⟨_, _, rfl, rfl, hIx4_, hFx5_, ?_⟩
      refine ⟨hDx6_, ?_⟩
      have kr_ : r_ = [] := List.eq_nil_of_length_eq_zero (by omega)
      have ks_ : s_ = [] := List.eq_nil_of_length_eq_zero (by omega)
      rw [kr_, ks_] at z8_
      have q8_ : g_ch F_ c_ G1_ [] [] = ([], G1_) := rfl
      rw [q8_, List.append_nil] at z8_
      rw [z8_]
      refine ⟨cgl_fr (w_ := ([], [28], [])) z1_ (ai_fr_aI rfl) rfl rfl rfl rfl rfl rfl rfl rfl, by show S_.1 1 0 6 = _; rw [List.length_cons]; push_cast; omega, svl_tp hV_.2.2.2.2.2.2.2.2.2 (fun z_ => Nat.le_trans z7_ z_) (fun j_ hj_ => h2_ j_ hj_) (fun j_ hj_ => ?_) ?_ (show 1 ≤ d_.length ∧ d_.length ≤ 8 by omega) (fun z_ => (z6_ z_).2.1)⟩
      · rw [rd_eq, if_neg (by omega), h3_]
      · rw [rd_eq, if_pos (by omega)]; show _ = (d_.length : Int); omega
    · have cx3_ : ¬ ((S_.2.2.1 28 0 (S_.1 1 0 6).toNat) ≤ k_) := of_decide_eq_false cx3_
      obtain ⟨r0_, r_, rfl⟩ : ∃ r0_ r1_, r_ = r0_ :: r1_ := by cases r_ with | nil => (simp only [List.length_nil] at z4_; omega) | cons p_ q_ => exact ⟨p_, q_, rfl⟩
      obtain ⟨s0_, s_, rfl⟩ : ∃ s0_ s1_, s_ = s0_ :: s1_ := by cases s_ with | nil => (simp only [List.length_nil, List.length_cons] at z3_ z4_; omega) | cons p_ q_ => exact ⟨p_, q_, rfl⟩
      have rx : imq (G1_.length ≤ 1000) (S_.2.2.1 27 0 (8 * S_.1 1 0 6 + k_).toNat = r0_ ∧ S_.2.2.1 27 0 (8 * S_.1 1 0 6 + k_ + 8).toNat = s0_) := fun z_ => by rw [show (8 * S_.1 1 0 6 + k_).toNat = 8 * l_.length + 8 + e1_.length by omega, show (8 * S_.1 1 0 6 + k_ + 8).toNat = 8 * l_.length + 16 + e2_.length by omega]; exact ⟨rwv_m (by rw [← z5_]; exact (z6_ z_).2.2.1), rwv_m (by rw [← z5b]; exact (z6_ z_).2.2.2)⟩
      obtain ⟨P1_, hP1_⟩ : ∃ z_, z_ = g_an F_ G1_ c_ r0_ := ⟨_, rfl⟩
      have lP1_ : G1_.length ≤ P1_.2.length := by rw [hP1_]; exact g_an_le.1
      obtain ⟨P2_, hP2_⟩ : ∃ z_, z_ = g_an F_ P1_.2 (i_xor c_ 1) s0_ := ⟨_, rfl⟩
      have lP2_ : P1_.2.length ≤ P2_.2.length := by rw [hP2_]; exact g_an_le.1
      obtain ⟨P3_, hP3_⟩ : ∃ z_, z_ = g_or F_ P2_.2 P1_.1 P2_.1 := ⟨_, rfl⟩
      have lP3_ : P2_.2.length ≤ P3_.2.length := by rw [hP3_]; exact g_or_le
      have hc3_ : g_c3 F_ G1_ c_ r0_ s0_ = P3_ := by rw [hP3_, hP2_, hP1_]; rfl
      refine sm_T_go 7 (c1 := (54, [some (.inr (.inr (some (1, 0)))), some (.inl ro_), some (.inl cd_), some (.inl k_), none, none], [.inl 8, .inl (S_.1 1 0 6), .inr (.inr (some (27, 0))), .inl cd_, .inr (.inr (some (1, 0)))], S_)) rfl ?_
      refine sm_T_bin (w := 8 * (S_.1 1 0 6)) rfl (bi_mul (by omega) (by omega) (by omega)) ?_
      refine sm_T_go 1 (c1 := (56, [some (.inr (.inr (some (1, 0)))), some (.inl ro_), some (.inl cd_), some (.inl k_), none, none], [.inl k_, .inl (8 * (S_.1 1 0 6)), .inr (.inr (some (27, 0))), .inl cd_, .inr (.inr (some (1, 0)))], S_)) rfl ?_
      refine sm_T_bin (w := 8 * (S_.1 1 0 6) + k_) rfl (bi_add (by omega) (by omega) (by omega)) ?_
      refine sm_T_iald (n := 4096) rfl rfl (by omega) (by omega) ?_
      have bx7_ : 0 ≤ S_.2.2.1 27 0 (8 * (S_.1 1 0 6) + k_).toNat ∧ S_.2.2.1 27 0 (8 * (S_.1 1 0 6) + k_).toNat ≤ 2025 := hI_.2 27 0 _
      refine sm_T_cal (d1 := 1) (Q1 := vq_44 cd_ (S_.2.2.1 27 0 (8 * (S_.1 1 0 6) + k_).toNat) dd_ F_ G1_ c_ r0_ S_) rfl rfl (by decide) (vc_44 cd_ (S_.2.2.1 27 0 (8 * (S_.1 1 0 6) + k_).toNat) dd_ F_ G1_ c_ r0_ S_ hI_ (by exact cgl_d z1_) (by exact z1_) (by omega) (by omega) (by (intro z_; exact ⟨(z6_ z_).1, (rx z_).1⟩))) (fun u_ Sx8_ px11_ => ?_)
      obtain ⟨vx13_, rfl, hIx9_, hFx10_, px11_⟩ := px11_
      have hFx12_ : ai_fr (sx_W vw_40) S0_ Sx8_ := ai_fr_tr hF_ (fr_le hFx10_ rfl)
      obtain ⟨dx15_, px11_⟩ := px11_
      have hDx14_ : idf dd_ S0_ Sx8_ := idf_tr hD_ dx15_
      have ex16_ : Sx8_.1 1 0 6 = S_.1 1 0 6 := hFx10_.1 1 0 6 rfl
      have e58_ := px11_
      rw [← hP1_] at e58_
      have f58_ : Sx8_.2.2.1 27 0 = S_.2.2.1 27 0 := fr_arr hFx10_ rfl
      have t58_ : Sx8_.1 1 0 6 = S_.1 1 0 6 := hFx10_.1 1 0 6 rfl
      have w58_ : Sx8_.2.2.1 28 0 = S_.2.2.1 28 0 := fr_arr hFx10_ rfl
      refine sm_T_go 4 (c1 := (66, [some (.inr (.inr (some (1, 0)))), some (.inl ro_), some (.inl cd_), some (.inl k_), some (.inl vx13_), none], [.inl 1, .inl cd_, .inr (.inr (some (1, 0)))], Sx8_)) rfl ?_
      refine sm_T_bin (w := (i_xor cd_ 1)) rfl rfl ?_
      have bx17_ := i_x1 (x_ := cd_) (by omega)
      have bx18_ : 0 ≤ Sx8_.1 1 0 6 ∧ Sx8_.1 1 0 6 ≤ 512 := hIx9_.1 1 0 6 rfl
      refine sm_T_go 5 (c1 := (76, [some (.inr (.inr (some (1, 0)))), some (.inl ro_), some (.inl cd_), some (.inl k_), some (.inl vx13_), none], [.inl 1, .inl (Sx8_.1 1 0 6), .inr (.inr (some (27, 0))), .inl (i_xor cd_ 1), .inr (.inr (some (1, 0)))], Sx8_)) rfl ?_
      refine sm_T_bin (w := (Sx8_.1 1 0 6) + 1) rfl (bi_add (by omega) (by omega) (by omega)) ?_
      refine sm_T_go 1 (c1 := (79, [some (.inr (.inr (some (1, 0)))), some (.inl ro_), some (.inl cd_), some (.inl k_), some (.inl vx13_), none], [.inl 8, .inl ((Sx8_.1 1 0 6) + 1), .inr (.inr (some (27, 0))), .inl (i_xor cd_ 1), .inr (.inr (some (1, 0)))], Sx8_)) rfl ?_
      refine sm_T_bin (w := 8 * (Sx8_.1 1 0 6) + 8) rfl (bi_mul (by omega) (by omega) (by omega)) ?_
      refine sm_T_go 1 (c1 := (81, [some (.inr (.inr (some (1, 0)))), some (.inl ro_), some (.inl cd_), some (.inl k_), some (.inl vx13_), none], [.inl k_, .inl (8 * (Sx8_.1 1 0 6) + 8), .inr (.inr (some (27, 0))), .inl (i_xor cd_ 1), .inr (.inr (some (1, 0)))], Sx8_)) rfl ?_
      refine sm_T_bin (w := 8 * (Sx8_.1 1 0 6) + k_ + 8) rfl (bi_add (by omega) (by omega) (by omega)) ?_
      refine sm_T_iald (n := 4096) rfl rfl (by omega) (by omega) ?_
      have bx19_ : 0 ≤ Sx8_.2.2.1 27 0 (8 * (Sx8_.1 1 0 6) + k_ + 8).toNat ∧ Sx8_.2.2.1 27 0 (8 * (Sx8_.1 1 0 6) + k_ + 8).toNat ≤ 2025 := hIx9_.2 27 0 _
      refine sm_T_cal (d1 := 1) (Q1 := vq_44 (i_xor cd_ 1) (Sx8_.2.2.1 27 0 (8 * (Sx8_.1 1 0 6) + k_ + 8).toNat) dd_ F_ P1_.2 (i_xor c_ 1) s0_ Sx8_) rfl rfl (by decide) (vc_44 (i_xor cd_ 1) (Sx8_.2.2.1 27 0 (8 * (Sx8_.1 1 0 6) + k_ + 8).toNat) dd_ F_ P1_.2 (i_xor c_ 1) s0_ Sx8_ hIx9_ (by exact cgl_d e58_.1) (by exact e58_.1) (by omega) (by omega) (by (intro z_; refine ⟨by rw [(z6_ (by omega)).1], ?_⟩; rw [t58_, f58_]; first | exact (rx (by omega)).2 | (rw [← (rx (by omega)).2]; congr 1; omega)))) (fun u_ Sx20_ px23_ => ?_)
      obtain ⟨vx25_, rfl, hIx21_, hFx22_, px23_⟩ := px23_
      have hFx24_ : ai_fr (sx_W vw_40) S0_ Sx20_ := ai_fr_tr hFx12_ (fr_le hFx22_ rfl)
      obtain ⟨dx27_, px23_⟩ := px23_
      have hDx26_ : idf dd_ S0_ Sx20_ := idf_tr hDx14_ dx27_
      have ex28_ : Sx20_.1 1 0 6 = Sx8_.1 1 0 6 := hFx22_.1 1 0 6 rfl
      have e83_ := px23_
      rw [← hP2_] at e83_
      have f83_ : Sx20_.2.2.1 27 0 = S_.2.2.1 27 0 := (fr_arr hFx22_ rfl).trans f58_
      have t83_ : Sx20_.1 1 0 6 = S_.1 1 0 6 := (hFx22_.1 1 0 6 rfl).trans t58_
      have w83_ : Sx20_.2.2.1 28 0 = S_.2.2.1 28 0 := (fr_arr hFx22_ rfl).trans w58_
      refine sm_T_go 5 (c1 := (94, [some (.inr (.inr (some (1, 0)))), some (.inl ro_), some (.inl cd_), some (.inl k_), some (.inl vx13_), some (.inl vx25_)], [.inl k_, .inl ro_, .inr (.inr (some (27, 0)))], Sx20_)) rfl ?_
      refine sm_T_bin (w := ro_ + k_) rfl (bi_add (by omega) (by omega) (by omega)) ?_
      refine sm_T_go 3 (c1 := (100, [some (.inr (.inr (some (1, 0)))), some (.inl ro_), some (.inl cd_), some (.inl k_), some (.inl vx13_), some (.inl vx25_)], [.inl vx25_, .inl vx13_, .inr (.inr (some (1, 0))), .inl (ro_ + k_), .inr (.inr (some (27, 0)))], Sx20_)) rfl ?_
      refine sm_T_cal (d1 := 2) (Q1 := vq_42 vx13_ vx25_ dd_ F_ P2_.2 P1_.1 P2_.1 Sx20_) rfl rfl (by decide) (vc_42 vx13_ vx25_ dd_ F_ P2_.2 P1_.1 P2_.1 Sx20_ hIx21_ (by exact cgl_d e83_.1) (by exact e83_.1) (by omega) (by omega) (by (intro z_; exact ⟨e58_.2.1 (by omega), e83_.2.1 (by omega)⟩))) (fun u_ Sx29_ px32_ => ?_)
      obtain ⟨vx34_, rfl, hIx30_, hFx31_, px32_⟩ := px32_
      have hFx33_ : ai_fr (sx_W vw_40) S0_ Sx29_ := ai_fr_tr hFx24_ (fr_le hFx31_ rfl)
      obtain ⟨dx36_, px32_⟩ := px32_
      have hDx35_ : idf dd_ S0_ Sx29_ := idf_tr hDx26_ dx36_
      have e100_ := px32_
      rw [← hP3_] at e100_
      have f100_ : Sx29_.2.2.1 27 0 = S_.2.2.1 27 0 := (fr_arr hFx31_ rfl).trans f83_
      have t100_ : Sx29_.1 1 0 6 = S_.1 1 0 6 := (hFx31_.1 1 0 6 rfl).trans t83_
      have w100_ : Sx29_.2.2.1 28 0 = S_.2.2.1 28 0 := (fr_arr hFx31_ rfl).trans w83_
      have g100_ : ∀ z9_ : Int, ∀ j9_ : Nat, (sm_aI Sx29_ 27 0 (ro_ + k_).toNat z9_).2.2.1 27 0 j9_ = if j9_ = (ro_ + k_).toNat then z9_ else S_.2.2.1 27 0 j9_ := fun z9_ j9_ => by rw [rd_eq, f100_]
      refine sm_T_iast (n := 4096) rfl rfl (by omega) (by omega) ?_
      have hIx37_ : gi (sm_aI Sx29_ 27 0 (ro_ + k_).toNat vx34_) := gi_aI hIx30_ (show 0 ≤ vx34_ ∧ vx34_ ≤ 2025 from ⟨by omega, by omega⟩)
      have hFx38_ : ai_fr (sx_W vw_40) S0_ (sm_aI Sx29_ 27 0 (ro_ + k_).toNat vx34_) := ai_fr_tr hFx33_ (ai_fr_aI rfl)
      have hDx39_ : idf dd_ S0_ (sm_aI Sx29_ 27 0 (ro_ + k_).toNat vx34_) := idf_aI hDx35_ (Or.inl (by decide))
      refine sm_T_inc (a := 3) (z := 1) (v := k_) (w := k_ + 1) rfl rfl (by omega) (by omega) (by omega) ?_
      refine sm_T_go 1 (c1 := (29, [some (.inr (.inr (some (1, 0)))), some (.inl ro_), some (.inl cd_), some (.inl (k_ + 1)), some (.inl vx13_), some (.inl vx25_)], [], sm_aI Sx29_ 27 0 (ro_ + k_).toNat vx34_)) rfl ?_
      refine sm_T_wk [some (.inr (.inr (some (1, 0)))), some (.inl ro_), some (.inl cd_), some (.inl (k_ + 1)), none, none] (by exact ⟨rfl, rfl, rfl, rfl, trivial⟩) ?_
      refine ih_ ro_ cd_ (k_ + 1) (sm_aI Sx29_ 27 0 (ro_ + k_).toNat vx34_) hIx37_ hFx38_ ⟨?_, ?_, ?_, ?_, ?_, trivial⟩ ?_
      · (try simp only [rd_eq, rd_ne, rf_eq, rf_nk, rf_nt, rd_fa, rd_af, rd_fl, rd_al, rd_lf, rd_la, rd_leq, rd_lne, rd_fr, rd_ar, ne_eq, Nat.reduceEqDiff, not_false_eq_true]); omega
      · refine ⟨P3_.2, d_ ++ [P3_.1], r_, s_, e1_ ++ [r0_], e2_ ++ [s0_], cgl_st e100_.1, ?_, ?_, ?_, ?_, ?_, ?_, ?_, fun z_ => ?_, ?_, ?_⟩
        · simp only [List.length_append, List.length_cons, List.length_nil]; push_cast; omega
        · simp only [List.length_append, List.length_cons, List.length_nil]; push_cast; omega
        · simp only [List.length_append, List.length_cons, List.length_nil]; push_cast; omega
        · simp only [List.length_cons] at z3_; omega
        · simp only [List.length_cons] at z4_; push_cast at z4_; omega
        · rw [z5_, List.append_assoc]; rfl
        · rw [z5b, List.append_assoc]; rfl
        · have q1_ := z6_ (by omega)
          refine ⟨q1_.1, ?_, ?_, ?_⟩
          · exact rwv_ap (q_ := (ro_ + k_).toNat) q1_.2.1 (by omega) (fun j_ => by rw [g100_, e100_.2.1 z_])
          · exact rwv_cg q1_.2.2.1 (fun j_ hj_ => by rw [g100_, if_neg (by omega)])
          · exact rwv_cg q1_.2.2.2 (fun j_ hj_ => by rw [g100_, if_neg (by omega)])
        · omega
        · have q9_ := g_z2_c (op_ := fun G_ a_ b_ => g_c3 F_ G_ c_ a_ b_) (G_ := G1_) (a_ := r0_) (b_ := s0_) (x_ := r_) (y_ := s_) (d_ := d_); rw [hc3_] at q9_; rw [z8_]; exact q9_
      · intro j_ hj_
        rw [g100_, if_neg (by omega)]
        exact h2_ j_ hj_
      · intro j_
        rw [rd_ne (by decide), w100_]
        exact h3_ j_
      · exact hDx39_
      · omega
set_option maxHeartbeats 1500000 in
theorem vc_40 {sc_ : Nat × (Nat → Int)} (dd_ : Nat) (F_ : Nat) (G_ : pGr) (c_ : Int) (va_ : List Int) (ve_ : List Int) (l_ : gV) (S0_ : sm_S) (hI_ : gi S0_) (hd_ : S0_.2.1 1 0 1 = some dd_) (hg_ : cgl dd_ F_ G_ S0_) (ht_ : (S0_.1 1 0 6) = (l_.length : Int) + 3) (hV_ : svl (G_.length ≤ 1000) (S0_.2.2.1 27 0) (S0_.2.2.1 28 0) (ve_ :: va_ :: [c_] :: l_)) (hl_ : va_.length = ve_.length ∧ l_.length ≤ 509) : sm_T (mt_P sc_) 3 40 (0, [some (.inr (.inr (some (1, 0)))), none, none, none, none, none], [], S0_) (fun ro9_ => ∃ u_ S1_, ro9_ = (.inl u_, S1_, 0) ∧ vq_40 dd_ F_ G_ c_ va_ ve_ l_ S0_ u_ S1_) := by
  have hF_ : ai_fr (sx_W vw_40) S0_ S0_ := ai_fr_rf
  have hD_ : idf dd_ S0_ S0_ := idf_rf
  have v1_ := hV_.2.2.2.1
  have v2_ := hV_.2.2.2.2.1
  simp only [List.length_cons] at v1_
  have bx1_ : 0 ≤ S0_.1 1 0 6 ∧ S0_.1 1 0 6 ≤ 512 := hI_.1 1 0 6 rfl
  refine sm_T_go 4 (c1 := (6, [some (.inr (.inr (some (1, 0)))), none, none, none, none, none], [.inl 2, .inl (S0_.1 1 0 6), .inr (.inr (some (1, 0)))], S0_)) rfl ?_
  refine sm_T_bin (w := (S0_.1 1 0 6) - 2) rfl (bi_sub (by omega) (by omega) (by omega)) ?_
  have hIx2_ : gi (sm_pI S0_ 1 0 6 ((S0_.1 1 0 6) - 2)) := gi_pI hI_ (show 0 ≤ (S0_.1 1 0 6) - 2 ∧ (S0_.1 1 0 6) - 2 ≤ 512 from ⟨by omega, by omega⟩)
  have hFx3_ : ai_fr (sx_W vw_40) S0_ (sm_pI S0_ 1 0 6 ((S0_.1 1 0 6) - 2)) := ai_fr_tr hF_ (ai_fr_pI rfl)
  have hDx4_ : idf dd_ S0_ (sm_pI S0_ 1 0 6 ((S0_.1 1 0 6) - 2)) := idf_pI hD_ (Or.inl (by decide))
  refine sm_T_go 4 (c1 := (15, [some (.inr (.inr (some (1, 0)))), none, none, none, none, none], [.inl 1, .inl ((S0_.1 1 0 6) - 2)], sm_pI S0_ 1 0 6 ((S0_.1 1 0 6) - 2))) rfl ?_
  refine sm_T_bin (w := (S0_.1 1 0 6) - 3) rfl (bi_sub (by omega) (by omega) (by omega)) ?_
  refine sm_T_go 1 (c1 := (18, [some (.inr (.inr (some (1, 0)))), none, none, none, none, none], [.inl 8, .inl ((S0_.1 1 0 6) - 3)], sm_pI S0_ 1 0 6 ((S0_.1 1 0 6) - 2))) rfl ?_
  refine sm_T_bin (w := 8 * (S0_.1 1 0 6) - 24) rfl (bi_mul (by omega) (by omega) (by omega)) ?_
  refine sm_T_go 4 (c1 := (25, [some (.inr (.inr (some (1, 0)))), some (.inl (8 * (S0_.1 1 0 6) - 24)), none, none, none, none], [.inl (8 * (S0_.1 1 0 6) - 24), .inr (.inr (some (27, 0)))], sm_pI S0_ 1 0 6 ((S0_.1 1 0 6) - 2))) rfl ?_
  refine sm_T_iald (n := 4096) rfl rfl (by omega) (by omega) ?_
  have bx5_ : 0 ≤ S0_.2.2.1 27 0 (8 * (S0_.1 1 0 6) - 24).toNat ∧ S0_.2.2.1 27 0 (8 * (S0_.1 1 0 6) - 24).toNat ≤ 2025 := hI_.2 27 0 _
  refine sm_T_go 3 (c1 := (29, [some (.inr (.inr (some (1, 0)))), some (.inl (8 * (S0_.1 1 0 6) - 24)), some (.inl (S0_.2.2.1 27 0 (8 * (S0_.1 1 0 6) - 24).toNat)), some (.inl 0), none, none], [], sm_pI S0_ 1 0 6 ((S0_.1 1 0 6) - 2))) rfl ?_
  refine (vl_40 dd_ F_ G_ c_ va_ ve_ l_ S0_ hd_ hg_ ht_ hV_ hl_ _) (8 * (S0_.1 1 0 6) - 24) (S0_.2.2.1 27 0 (8 * (S0_.1 1 0 6) - 24).toNat) 0 (sm_pI S0_ 1 0 6 ((S0_.1 1 0 6) - 2)) hIx2_ hFx3_ ⟨?_, ?_, ?_, ?_, ?_, trivial⟩ (Nat.lt_succ_self _)
  · (try simp only [rd_eq, rd_ne, rf_eq, rf_nk, rf_nt, rd_fa, rd_af, rd_fl, rd_al, rd_lf, rd_la, rd_leq, rd_lne, rd_fr, rd_ar, ne_eq, Nat.reduceEqDiff, not_false_eq_true]); omega
  · refine ⟨G_, [], va_, ve_, [], [], cgl_fr (w_ := ([(1, 6)], [], [])) hg_ (ai_fr_pI rfl) rfl rfl rfl rfl rfl rfl rfl rfl, rfl, rfl, rfl, hl_.1, by omega, rfl, rfl, fun z_ => ⟨?_, ?_, ?_, ?_⟩, Nat.le_refl _, rfl⟩
    · exact (congrArg (S0_.2.2.1 27 0) (show _ = 8 * l_.length + 0 by omega)).trans (hV_.2.2.2.2.2.2.2.2.1 z_ 0 c_ rfl)
    · intro k9_ z9_ e9_; simp at e9_
    · have q_ := hV_.2.2.2.2.2.1 z_; exact q_
    · have q_ := hV_.2.2.1 z_; exact q_
  · (intro j_ hj_; rfl)
  · (intro j_; rfl)
  · exact hDx4_
end
/-! 99.zb4a -/
section
/-! the class: operating; written by wip/p55/gen/vg -/

/-! operating -/
theorem map_mid {f_ : Int → Int} {e_ r_ : List Int} {a_ : Int} : (e_ ++ [a_]).map f_ ++ r_ = (e_.map f_ ++ [f_ a_]) ++ r_ := by
  rw [List.map_append]
  rfl
theorem g_bw3 {F_ : Nat} : g_bw F_ 3 = g_an F_ := if_pos rfl
theorem g_bw1 {F_ : Nat} : g_bw F_ 1 = g_or F_ := by
  unfold g_bw
  rw [if_neg (by decide), if_pos rfl]
theorem g_bw2 {F_ : Nat} {k_ : Int} (h3_ : k_ ≠ 3) (h1_ : k_ ≠ 1) : g_bw F_ k_ = g_xo F_ := by
  unfold g_bw
  rw [if_neg h3_, if_neg h1_]
end
/-! 99.zb4b -/
section
/-! Builder.operate -/
def vw_39 : sx_Wl := ([(1, 6), (1, 8), (3, 4)], [27, 28, 29, 42, 43], [])
def vq_39 (k_ : Int) (dd_ : Nat) (F_ : Nat) (G_ : pGr) (V_ : gV) (r_ : pGr × gV) (S0_ : sm_S) (u_ : Option sm_V) (S1_ : sm_S) : Prop := u_ = none ∧ gi S1_ ∧ ai_fr (sx_W vw_39) S0_ S1_ ∧ (idf dd_ S0_ S1_ ∧ (cgl dd_ F_ r_.1 S1_ ∧ cstk r_.1 r_.2 S1_))
set_option maxHeartbeats 2500000 in
set_option maxRecDepth 20000 in
theorem vl_39 {sc_ : Nat × (Nat → Int)} (k_ : Int) (dd_ : Nat) (F_ : Nat) (G_ : pGr) (V_ : gV) (r_ : pGr × gV) (S0_ : sm_S) (hI0_ : gi S0_) (hd_ : S0_.2.1 1 0 1 = some dd_) (hg_ : cgl dd_ F_ G_ S0_) (hV_ : cstk G_ V_ S0_) (he_ : e_op F_ k_ G_ V_ = some r_) : ∀ nn_ : Nat, (∀ (j_ : Int) (S_ : sm_S), gi S_ → ai_fr (sx_W vw_39) S0_ S_ → ((k_ = 6) ∧ (0 ≤ j_) ∧ ((S_.1 1 0 6) = S0_.1 1 0 6) ∧ (∃ x_ l_ rr_ e1_, V_ = x_ :: l_ ∧ cgl dd_ F_ G_ S_ ∧ (e1_.length : Int) = j_ ∧ j_ + rr_.length = x_.length ∧ x_ = e1_ ++ rr_ ∧ (imq (G_.length ≤ 1000) (rwv (S_.2.2.1 27 0) (8 * l_.length) (e1_.map (fun z_ => i_xor z_ 1) ++ rr_)))) ∧ (∀ j9_, j9_ < 8 * (V_.length - 1) → S_.2.2.1 27 0 j9_ = S0_.2.2.1 27 0 j9_) ∧ (∀ j9_, S_.2.2.1 28 0 j9_ = S0_.2.2.1 28 0 j9_) ∧ (idf dd_ S0_ S_) ∧ True) → ((8 - j_).toNat) < nn_ → sm_T (mt_P sc_) 4 39 (8, [some (.inr (.inr (some (1, 0)))), some (.inl k_), some (.inl j_), none, none, none, none, none], [], S_) (fun ro9_ => ∃ u_ S1_, ro9_ = (.inl u_, S1_, 0) ∧ vq_39 k_ dd_ F_ G_ V_ r_ S0_ u_ S1_)) ∧ (∀ (b_ : Int) (a_ : Int) (nb_ : Int) (sa_ : Int) (j_ : Int) (S_ : sm_S), gi S_ → ai_fr (sx_W vw_39) S0_ S_ → ((k_ = 4) ∧ (1 ≤ j_ ∧ j_ ≤ nb_ ∧ 0 ≤ sa_ ∧ sa_ ≤ 2025) ∧ (∃ y_ x_ l_, V_ = y_ :: x_ :: l_ ∧ nb_ = (x_.length : Int) ∧ a_ = 8 * (l_.length : Int) ∧ b_ = a_ + 8 ∧ (S_.1 1 0 6) = (l_.length : Int) + 1 ∧ (∀ j9_, S_.2.2.1 28 0 j9_ = if j9_ = l_.length then 1 else S0_.2.2.1 28 0 j9_) ∧ ∃ (G1_ : pGr) (s1_ : Int) (r1_ s2_ e1_ e2_ : List Int), cgl dd_ F_ G1_ S_ ∧ (e1_.length : Int) = j_ ∧ (e2_.length : Int) = j_ ∧ r1_.length = s2_.length ∧ j_ + r1_.length = nb_ ∧ x_ = e1_ ++ r1_ ∧ y_ = e2_ ++ s2_ ∧ (imq (G1_.length ≤ 1000) (sa_ = s1_)) ∧ G_.length ≤ G1_.length ∧ (g_sa F_ G_ x_ y_) = ([(g_s1 F_ G1_ s1_ r1_ s2_).1], (g_s1 F_ G1_ s1_ r1_ s2_).2)) ∧ (∀ j9_, S_.2.2.1 27 0 j9_ = S0_.2.2.1 27 0 j9_) ∧ (idf dd_ S0_ S_) ∧ True) → ((nb_ - j_).toNat) < nn_ → sm_T (mt_P sc_) 4 39 (151, [some (.inr (.inr (some (1, 0)))), some (.inl k_), some (.inl b_), some (.inl a_), some (.inl nb_), some (.inl sa_), some (.inl j_), none], [], S_) (fun ro9_ => ∃ u_ S1_, ro9_ = (.inl u_, S1_, 0) ∧ vq_39 k_ dd_ F_ G_ V_ r_ S0_ u_ S1_)) ∧ (∀ (b_ : Int) (a_ : Int) (nb_ : Int) (j_ : Int) (S_ : sm_S), gi S_ → ai_fr (sx_W vw_39) S0_ S_ → ((k_ ≠ 4 ∧ k_ ≠ 5 ∧ k_ ≠ 6 ∧ k_ ≠ 7) ∧ (0 ≤ j_ ∧ j_ ≤ nb_) ∧ (∃ y_ x_ l_, V_ = y_ :: x_ :: l_ ∧ nb_ = (x_.length : Int) ∧ a_ = 8 * (l_.length : Int) ∧ b_ = a_ + 8 ∧ (S_.1 1 0 6) = (l_.length : Int) + 1 ∧ (∀ j9_, j9_ < 8 * l_.length → S_.2.2.1 27 0 j9_ = S0_.2.2.1 27 0 j9_) ∧ ∃ (G1_ : pGr) (d_ r1_ s2_ e2_ : List Int), cgl dd_ F_ G1_ S_ ∧ (d_.length : Int) = j_ ∧ (e2_.length : Int) = j_ ∧ r1_.length = s2_.length ∧ j_ + r1_.length = nb_ ∧ y_ = e2_ ++ s2_ ∧ (imq (G1_.length ≤ 1000) (rwv (S_.2.2.1 27 0) (8 * l_.length) (d_ ++ r1_) ∧ rwv (S_.2.2.1 27 0) (8 * l_.length + 8) y_)) ∧ G_.length ≤ G1_.length ∧ (g_z2 (g_bw F_ k_) G_ x_ y_) = (d_ ++ (g_z2 (g_bw F_ k_) G1_ r1_ s2_).1, (g_z2 (g_bw F_ k_) G1_ r1_ s2_).2)) ∧ (∀ j9_, S_.2.2.1 28 0 j9_ = S0_.2.2.1 28 0 j9_) ∧ (idf dd_ S0_ S_) ∧ True) → ((nb_ - j_).toNat) < nn_ → sm_T (mt_P sc_) 4 39 (210, [some (.inr (.inr (some (1, 0)))), some (.inl k_), some (.inl b_), some (.inl a_), some (.inl nb_), some (.inl j_), none, none], [], S_) (fun ro9_ => ∃ u_ S1_, ro9_ = (.inl u_, S1_, 0) ∧ vq_39 k_ dd_ F_ G_ V_ r_ S0_ u_ S1_)) := by
  intro nn_
  induction nn_ with
  | zero => exact ⟨fun _ _ _ _ _ h_ => absurd h_ (Nat.not_lt_zero _), fun _ _ _ _ _ _ _ _ _ h_ => absurd h_ (Nat.not_lt_zero _), fun _ _ _ _ _ _ _ _ h_ => absurd h_ (Nat.not_lt_zero _)⟩
  | succ nn_ ih_ =>
    refine ⟨?_, ?_, ?_⟩
    · rintro j_ S_ hI_ hF_ ⟨hk_, h0_, h1t, h1_, h2_, h3_, hD_, -⟩ hm_
      obtain ⟨x_, l_, rr_, e1_, rfl, z1_, z2_, z4_, z5_, z6_⟩ := h1_
      obtain ⟨x_1, l_1, hxl_, er⟩ := e_op6 (show e_op F_ 6 G_ (x_ :: l_) = some r_ by rw [← hk_]; exact he_)
      cases hxl_
      have tp_ : (S_.1 1 0 6) = (l_.length : Int) + 1 := by rw [h1t, hV_.1]; simp only [List.length_cons]; push_cast; omega
      have lx8_ : x_.length ≤ 8 := hV_.2.2.1.2
      have wt : S_.2.2.1 28 0 (S_.1 1 0 6 - 1).toNat = (x_.length : Int) := by rw [h3_, show (S_.1 1 0 6 - 1).toNat = l_.length by omega]; exact hV_.2.1
      have bx1_ : 0 ≤ S_.1 1 0 6 ∧ S_.1 1 0 6 ≤ 512 := hI_.1 1 0 6 rfl
      refine sm_T_go 6 (c1 := (18, [some (.inr (.inr (some (1, 0)))), some (.inl k_), some (.inl j_), none, none, none, none, none], [.inl 1, .inl (S_.1 1 0 6), .inr (.inr (some (28, 0))), .inl j_], S_)) rfl ?_
      refine sm_T_bin (w := (S_.1 1 0 6) - 1) rfl (bi_sub (by omega) (by omega) (by omega)) ?_
      refine sm_T_iald (n := 512) rfl rfl (by omega) (by omega) ?_
      have bx2_ : 0 ≤ S_.2.2.1 28 0 ((S_.1 1 0 6) - 1).toNat ∧ S_.2.2.1 28 0 ((S_.1 1 0 6) - 1).toNat ≤ 8 := hI_.2 28 0 _
      refine sm_T_br (a := 3) (z := 29) rfl (fun cx3_ => ?_) (fun cx3_ => ?_)
      · have cx3_ : (S_.2.2.1 28 0 ((S_.1 1 0 6) - 1).toNat) ≤ j_ := of_decide_eq_true cx3_
        refine sm_T_rv rfl ⟨_, _, rfl, rfl, hI_, hF_, ?_⟩
        refine ⟨hD_, ?_⟩
        have kr_ : rr_ = [] := List.eq_nil_of_length_eq_zero (by omega)
        rw [er]
        refine ⟨z1_, h1t.trans hV_.1, svl_tp (st_ := S0_.2.2.1 27 0) (wd_ := S0_.2.2.1 28 0) hV_.2.2.2.2 (fun z_ => z_) (fun j_ hj_ => h2_ j_ hj_) (fun j_ hj_ => h3_ j_) (by rw [h3_, List.length_map]; exact hV_.2.1) (by rw [List.length_map]; exact hV_.2.2.1) (fun z_ => ?_)⟩
        have q9_ := z6_ z_
        rw [kr_, List.append_nil] at q9_
        rw [z5_, kr_, List.append_nil]
        exact q9_
      · have cx3_ : ¬ ((S_.2.2.1 28 0 ((S_.1 1 0 6) - 1).toNat) ≤ j_) := of_decide_eq_false cx3_
        obtain ⟨r0_, rr_, rfl⟩ : ∃ r0_ r1_, rr_ = r0_ :: r1_ := by cases rr_ with | nil => (simp only [List.length_nil] at z4_; omega) | cons p_ q_ => exact ⟨p_, q_, rfl⟩
        have rx : imq (G_.length ≤ 1000) (S_.2.2.1 27 0 (8 * S_.1 1 0 6 + j_ - 8).toNat = r0_) := fun z_ => by rw [show (8 * S_.1 1 0 6 + j_ - 8).toNat = 8 * l_.length + (e1_.map (fun z_ => i_xor z_ 1)).length by rw [List.length_map]; omega]; exact rwv_m (z6_ z_)
        refine sm_T_go 5 (c1 := (32, [some (.inr (.inr (some (1, 0)))), some (.inl k_), some (.inl j_), none, none, none, none, none], [.inl 1, .inl (S_.1 1 0 6), .inr (.inr (some (27, 0)))], S_)) rfl ?_
        refine sm_T_bin (w := (S_.1 1 0 6) - 1) rfl (bi_sub (by omega) (by omega) (by omega)) ?_
        refine sm_T_go 1 (c1 := (35, [some (.inr (.inr (some (1, 0)))), some (.inl k_), some (.inl j_), none, none, none, none, none], [.inl 8, .inl ((S_.1 1 0 6) - 1), .inr (.inr (some (27, 0)))], S_)) rfl ?_
        refine sm_T_bin (w := 8 * (S_.1 1 0 6) - 8) rfl (bi_mul (by omega) (by omega) (by omega)) ?_
        refine sm_T_go 1 (c1 := (37, [some (.inr (.inr (some (1, 0)))), some (.inl k_), some (.inl j_), none, none, none, none, none], [.inl j_, .inl (8 * (S_.1 1 0 6) - 8), .inr (.inr (some (27, 0)))], S_)) rfl ?_
        refine sm_T_bin (w := 8 * (S_.1 1 0 6) + j_ - 8) rfl (bi_add (by omega) (by omega) (by omega)) ?_
        refine sm_T_go 1 (c1 := (39, [some (.inr (.inr (some (1, 0)))), some (.inl k_), some (.inl j_), none, none, none, none, none], [.inl (8 * (S_.1 1 0 6) + j_ - 8), .inr (.inr (some (27, 0))), .inl (8 * (S_.1 1 0 6) + j_ - 8), .inr (.inr (some (27, 0)))], S_)) rfl ?_
        refine sm_T_iald (n := 4096) rfl rfl (by omega) (by omega) ?_
        have bx4_ : 0 ≤ S_.2.2.1 27 0 (8 * (S_.1 1 0 6) + j_ - 8).toNat ∧ S_.2.2.1 27 0 (8 * (S_.1 1 0 6) + j_ - 8).toNat ≤ 2025 := hI_.2 27 0 _
        refine sm_T_go 1 (c1 := (41, [some (.inr (.inr (some (1, 0)))), some (.inl k_), some (.inl j_), none, none, none, none, none], [.inl 1, .inl (S_.2.2.1 27 0 (8 * (S_.1 1 0 6) + j_ - 8).toNat), .inl (8 * (S_.1 1 0 6) + j_ - 8), .inr (.inr (some (27, 0)))], S_)) rfl ?_
        refine sm_T_bin (w := (i_xor (S_.2.2.1 27 0 (8 * (S_.1 1 0 6) + j_ - 8).toNat) 1)) rfl rfl ?_
        have bx5_ := i_x1 (x_ := (S_.2.2.1 27 0 (8 * (S_.1 1 0 6) + j_ - 8).toNat)) (by omega)
        refine sm_T_iast (n := 4096) rfl rfl (by omega) (by omega) ?_
        have hIx6_ : gi (sm_aI S_ 27 0 (8 * (S_.1 1 0 6) + j_ - 8).toNat (i_xor (S_.2.2.1 27 0 (8 * (S_.1 1 0 6) + j_ - 8).toNat) 1)) := gi_aI hI_ (show 0 ≤ (i_xor (S_.2.2.1 27 0 (8 * (S_.1 1 0 6) + j_ - 8).toNat) 1) ∧ (i_xor (S_.2.2.1 27 0 (8 * (S_.1 1 0 6) + j_ - 8).toNat) 1) ≤ 2025 from ⟨by omega, by omega⟩)
        have hFx7_ : ai_fr (sx_W vw_39) S0_ (sm_aI S_ 27 0 (8 * (S_.1 1 0 6) + j_ - 8).toNat (i_xor (S_.2.2.1 27 0 (8 * (S_.1 1 0 6) + j_ - 8).toNat) 1)) := ai_fr_tr hF_ (ai_fr_aI rfl)
        have hDx8_ : idf dd_ S0_ (sm_aI S_ 27 0 (8 * (S_.1 1 0 6) + j_ - 8).toNat (i_xor (S_.2.2.1 27 0 (8 * (S_.1 1 0 6) + j_ - 8).toNat) 1)) := idf_aI hD_ (Or.inl (by decide))
        refine sm_T_inc (a := 2) (z := 1) (v := j_) (w := j_ + 1) rfl rfl (by omega) (by omega) (by omega) ?_
        refine sm_T_go 1 (c1 := (8, [some (.inr (.inr (some (1, 0)))), some (.inl k_), some (.inl (j_ + 1)), none, none, none, none, none], [], sm_aI S_ 27 0 (8 * (S_.1 1 0 6) + j_ - 8).toNat (i_xor (S_.2.2.1 27 0 (8 * (S_.1 1 0 6) + j_ - 8).toNat) 1))) rfl ?_
        refine ih_.1 (j_ + 1) (sm_aI S_ 27 0 (8 * (S_.1 1 0 6) + j_ - 8).toNat (i_xor (S_.2.2.1 27 0 (8 * (S_.1 1 0 6) + j_ - 8).toNat) 1)) hIx6_ hFx7_ ⟨?_, ?_, ?_, ?_, ?_, ?_, ?_, trivial⟩ ?_
        · exact hk_
        · omega
        · exact h1t
        · refine ⟨x_, l_, rr_, e1_ ++ [r0_], rfl, cgl_st z1_, ?_, ?_, ?_, fun z_ => ?_⟩
          · simp only [List.length_append, List.length_cons, List.length_nil]; push_cast; omega
          · simp only [List.length_cons] at z4_; push_cast at z4_; omega
          · rw [z5_, List.append_assoc]; rfl
          · rw [map_mid]; exact rwv_set (q_ := (8 * S_.1 1 0 6 + j_ - 8).toNat) (z6_ z_) (by rw [List.length_map]; omega) (fun j9_ => by rw [rd_eq, rx z_])
        · intro j9_ hj_
          simp only [List.length_cons] at hj_
          rw [rd_eq, if_neg (by omega)]
          exact h2_ j9_ hj_
        · intro j9_
          rw [rd_ne (by decide)]
          exact h3_ j9_
        · exact hDx8_
        · omega
    · rintro b_ a_ nb_ sa_ j_ S_ hI_ hF_ ⟨k4_, h0_, h1_, hst_, hD_, -⟩ hm_
      obtain ⟨y_, x_, l_, rfl, hnb_, ha_, hb_, h1t, hw1_, h1_⟩ := h1_
      obtain ⟨G1_, s1_, r1_, s2_, e1_, e2_, z1_, z2_, z2b, z3_, z4_, z5_, z5b, z6_, z7_, z8_⟩ := h1_
      obtain ⟨hk15_, y_1, x_1, l_1, hyx_, xy_, x1_, er⟩ := e_opb he_ (by omega) (by omega)
      cases hyx_
      have vy_ := hV_.2
      have tp_ : S0_.1 1 0 6 = (l_.length : Int) + 2 := by rw [hV_.1]; simp only [List.length_cons]; push_cast; omega
      have lx8_ : x_.length ≤ 8 := vy_.2.2.2.2.1.2
      have hvl_ : l_.length ≤ 510 := by have := hV_.1; have q9_ : S0_.1 1 0 6 ≤ 512 := (hI0_.1 1 0 6 rfl).2; omega
      refine sm_T_go 2 (c1 := (155, [some (.inr (.inr (some (1, 0)))), some (.inl k_), some (.inl b_), some (.inl a_), some (.inl nb_), some (.inl sa_), some (.inl j_), none], [.inl nb_, .inl j_], S_)) rfl ?_
      refine sm_T_br (a := 3) (z := 41) rfl (fun cx1_ => ?_) (fun cx1_ => ?_)
      · have cx1_ : nb_ ≤ j_ := of_decide_eq_true cx1_
        have kr_ : r1_ = [] := List.eq_nil_of_length_eq_zero (by omega)
        have ks_ : s2_ = [] := List.eq_nil_of_length_eq_zero (by omega)
        rw [kr_, ks_] at z8_
        have q8_ : g_s1 F_ G1_ s1_ [] [] = (s1_, G1_) := rfl
        rw [q8_] at z8_
        have hfin4 : cgl dd_ F_ r_.1 (sm_aI S_ 27 0 a_.toNat sa_) ∧ cstk r_.1 r_.2 (sm_aI S_ 27 0 a_.toNat sa_) := by rw [er, k4_, g_op4, z8_]; refine ⟨cgl_st z1_, by show S_.1 1 0 6 = _; rw [h1t]; simp only [List.length_cons]; push_cast; omega, svl_tp (st_ := S0_.2.2.1 27 0) (wd_ := S0_.2.2.1 28 0) vy_.2.2.2.2.2.2 (fun z_ => by have z9_ : G1_.length ≤ 1000 := z_; omega) (fun j9_ hj_ => by rw [rd_eq, if_neg (by omega), hst_]) (fun j9_ hj_ => by rw [rd_ne (by decide), hw1_, if_neg (by omega)]) (by rw [rd_ne (by decide), hw1_, if_pos rfl]; rfl) (by simp) (fun z_ => ?_)⟩; (intro k9_ z9_ e9_; have k0_ : k9_ = 0 := (by cases k9_ with | zero => rfl | succ k9_ => simp at e9_); subst k0_; rw [rd_eq, if_pos (by omega)]; have q9_ := Option.some.inj e9_; rw [← q9_]; exact z6_ z_)
        refine sm_T_go 4 (c1 := (203, [some (.inr (.inr (some (1, 0)))), some (.inl k_), some (.inl b_), some (.inl a_), some (.inl nb_), some (.inl sa_), some (.inl j_), none], [.inl sa_, .inl a_, .inr (.inr (some (27, 0)))], S_)) rfl ?_
        refine sm_T_iast (n := 4096) rfl rfl (by omega) (by omega) ?_
        have hIx2_ : gi (sm_aI S_ 27 0 a_.toNat sa_) := gi_aI hI_ (show 0 ≤ sa_ ∧ sa_ ≤ 2025 from ⟨by omega, by omega⟩)
        have hFx3_ : ai_fr (sx_W vw_39) S0_ (sm_aI S_ 27 0 a_.toNat sa_) := ai_fr_tr hF_ (ai_fr_aI rfl)
        have hDx4_ : idf dd_ S0_ (sm_aI S_ 27 0 a_.toNat sa_) := idf_aI hD_ (Or.inl (by decide))
        refine sm_T_go 1 (c1 := (294, [some (.inr (.inr (some (1, 0)))), some (.inl k_), some (.inl b_), some (.inl a_), some (.inl nb_), some (.inl sa_), some (.inl j_), none], [], sm_aI S_ 27 0 a_.toNat sa_)) rfl ?_
        refine sm_T_rv rfl ⟨_, _, rfl, rfl, hIx2_, hFx3_, ?_⟩
        refine ⟨hDx4_, ?_⟩
        first | exact hfin4 | exact hfin | (rw [er, k5_, g_op5]; refine ⟨e105_.1, by rw [t105_]; simp only [List.length_cons]; push_cast; omega, svl_tp (st_ := S0_.2.2.1 27 0) (wd_ := S0_.2.2.1 28 0) vy_.2.2.2.2.2.2 (fun z_ => Nat.le_trans (g_su_le x_ y_ G_ 0) z_) (fun j_ hj_ => e105_.2.2 j_ (Or.inl (by omega))) (fun j_ hj_ => by rw [w105_]) (by rw [w105_, g_su_ln x_ y_ G_ 0 xy_]; exact vy_.2.2.2.1) (by rw [g_su_ln x_ y_ G_ 0 xy_]; omega) (fun z_ => by have q9_ := e105_.2.1 z_; rw [show (8 * S0_.1 1 0 6 - 16).toNat = 8 * l_.length by omega] at q9_; exact q9_)⟩)
      · have cx1_ : ¬ (nb_ ≤ j_) := of_decide_eq_false cx1_
        obtain ⟨r0_, r1_, rfl⟩ : ∃ r0_ r9_, r1_ = r0_ :: r9_ := by cases r1_ with | nil => (simp only [List.length_nil] at z4_; omega) | cons p_ q_ => exact ⟨p_, q_, rfl⟩
        obtain ⟨s0_, s2_, rfl⟩ : ∃ s0_ s9_, s2_ = s0_ :: s9_ := by cases s2_ with | nil => (simp only [List.length_nil, List.length_cons] at z3_ z4_; omega) | cons p_ q_ => exact ⟨p_, q_, rfl⟩
        have rx : imq (G1_.length ≤ 1000) (S_.2.2.1 27 0 (a_ + j_).toNat = r0_ ∧ S_.2.2.1 27 0 (b_ + j_).toNat = s0_) := fun z_ => by rw [show (a_ + j_).toNat = 8 * l_.length + e1_.length by omega, show (b_ + j_).toNat = 8 * (x_ :: l_).length + e2_.length by simp only [List.length_cons]; omega, hst_, hst_]; exact ⟨rwv_m (by rw [← z5_]; exact vy_.2.2.2.2.2.1 (by omega)), rwv_m (by rw [← z5b]; exact vy_.2.2.1 (by omega))⟩
        have l1_ := g_xo_le (F_ := F_) (G_ := G1_) (a_ := r0_) (b_ := s0_)
        have l2_ := (g_an_le (F_ := F_) (G_ := (g_xo F_ G1_ r0_ s0_).2) (a_ := s1_) (b_ := i_xor (g_xo F_ G1_ r0_ s0_).1 1)).1
        refine sm_T_go 7 (c1 := (169, [some (.inr (.inr (some (1, 0)))), some (.inl k_), some (.inl b_), some (.inl a_), some (.inl nb_), some (.inl sa_), some (.inl j_), none], [.inl j_, .inl a_, .inr (.inr (some (27, 0))), .inr (.inr (some (1, 0))), .inl sa_, .inr (.inr (some (1, 0)))], S_)) rfl ?_
        refine sm_T_bin (w := a_ + j_) rfl (bi_add (by omega) (by omega) (by omega)) ?_
        refine sm_T_iald (n := 4096) rfl rfl (by omega) (by omega) ?_
        have bx5_ : 0 ≤ S_.2.2.1 27 0 (a_ + j_).toNat ∧ S_.2.2.1 27 0 (a_ + j_).toNat ≤ 2025 := hI_.2 27 0 _
        refine sm_T_go 4 (c1 := (178, [some (.inr (.inr (some (1, 0)))), some (.inl k_), some (.inl b_), some (.inl a_), some (.inl nb_), some (.inl sa_), some (.inl j_), none], [.inl j_, .inl b_, .inr (.inr (some (27, 0))), .inl (S_.2.2.1 27 0 (a_ + j_).toNat), .inr (.inr (some (1, 0))), .inl sa_, .inr (.inr (some (1, 0)))], S_)) rfl ?_
        refine sm_T_bin (w := b_ + j_) rfl (bi_add (by omega) (by omega) (by omega)) ?_
        refine sm_T_iald (n := 4096) rfl rfl (by omega) (by omega) ?_
        have bx6_ : 0 ≤ S_.2.2.1 27 0 (b_ + j_).toNat ∧ S_.2.2.1 27 0 (b_ + j_).toNat ≤ 2025 := hI_.2 27 0 _
        refine sm_T_cal (d1 := 2) (Q1 := vq_43 (S_.2.2.1 27 0 (a_ + j_).toNat) (S_.2.2.1 27 0 (b_ + j_).toNat) dd_ F_ G1_ r0_ s0_ S_) rfl rfl (by decide) (vc_43 (S_.2.2.1 27 0 (a_ + j_).toNat) (S_.2.2.1 27 0 (b_ + j_).toNat) dd_ F_ G1_ r0_ s0_ S_ hI_ (by exact cgl_d z1_) (by exact z1_) (by omega) (by omega) (by exact rx)) (fun u_ Sx7_ px10_ => ?_)
        obtain ⟨vx12_, rfl, hIx8_, hFx9_, px10_⟩ := px10_
        have hFx11_ : ai_fr (sx_W vw_39) S0_ Sx7_ := ai_fr_tr hF_ (fr_le hFx9_ rfl)
        obtain ⟨dx14_, px10_⟩ := px10_
        have hDx13_ : idf dd_ S0_ Sx7_ := idf_tr hD_ dx14_
        have e180_ := px10_
        have f180_ : Sx7_.2.2.1 27 0 = S_.2.2.1 27 0 := fr_arr hFx9_ rfl
        have t180_ : Sx7_.1 1 0 6 = S_.1 1 0 6 := hFx9_.1 1 0 6 rfl
        have w180_ : Sx7_.2.2.1 28 0 = S_.2.2.1 28 0 := fr_arr hFx9_ rfl
        refine sm_T_go 1 (c1 := (184, [some (.inr (.inr (some (1, 0)))), some (.inl k_), some (.inl b_), some (.inl a_), some (.inl nb_), some (.inl sa_), some (.inl j_), none], [.inl 1, .inl vx12_, .inl sa_, .inr (.inr (some (1, 0)))], Sx7_)) rfl ?_
        refine sm_T_bin (w := (i_xor vx12_ 1)) rfl rfl ?_
        have bx15_ := i_x1 (x_ := vx12_) (by omega)
        refine sm_T_cal (d1 := 1) (Q1 := vq_44 sa_ (i_xor vx12_ 1) dd_ F_ (g_xo F_ G1_ r0_ s0_).2 s1_ (i_xor (g_xo F_ G1_ r0_ s0_).1 1) Sx7_) rfl rfl (by decide) (vc_44 sa_ (i_xor vx12_ 1) dd_ F_ (g_xo F_ G1_ r0_ s0_).2 s1_ (i_xor (g_xo F_ G1_ r0_ s0_).1 1) Sx7_ hIx8_ (by exact cgl_d e180_.1) (by exact e180_.1) (by omega) (by omega) (by (intro z_; rw [e180_.2.1 (by omega)]; exact ⟨z6_ (by omega), rfl⟩))) (fun u_ Sx16_ px19_ => ?_)
        obtain ⟨vx21_, rfl, hIx17_, hFx18_, px19_⟩ := px19_
        have hFx20_ : ai_fr (sx_W vw_39) S0_ Sx16_ := ai_fr_tr hFx11_ (fr_le hFx18_ rfl)
        obtain ⟨dx23_, px19_⟩ := px19_
        have hDx22_ : idf dd_ S0_ Sx16_ := idf_tr hDx13_ dx23_
        have e185_ := px19_
        have f185_ : Sx16_.2.2.1 27 0 = S_.2.2.1 27 0 := (fr_arr hFx18_ rfl).trans f180_
        have t185_ : Sx16_.1 1 0 6 = S_.1 1 0 6 := (hFx18_.1 1 0 6 rfl).trans t180_
        have w185_ : Sx16_.2.2.1 28 0 = S_.2.2.1 28 0 := (fr_arr hFx18_ rfl).trans w180_
        refine sm_T_go 1 (c1 := (190, [some (.inr (.inr (some (1, 0)))), some (.inl k_), some (.inl b_), some (.inl a_), some (.inl nb_), some (.inl vx21_), some (.inl j_), none], [], Sx16_)) rfl ?_
        refine sm_T_inc (a := 6) (z := 1) (v := j_) (w := j_ + 1) rfl rfl (by omega) (by omega) (by omega) ?_
        refine sm_T_go 1 (c1 := (151, [some (.inr (.inr (some (1, 0)))), some (.inl k_), some (.inl b_), some (.inl a_), some (.inl nb_), some (.inl vx21_), some (.inl (j_ + 1)), none], [], Sx16_)) rfl ?_
        refine ih_.2.1 b_ a_ nb_ vx21_ (j_ + 1) Sx16_ hIx17_ hFx20_ ⟨?_, ?_, ?_, ?_, ?_, trivial⟩ ?_
        · exact k4_
        · omega
        · refine ⟨y_, x_, l_, rfl, hnb_, ha_, hb_, t185_.trans h1t, fun j9_ => by rw [w185_]; exact hw1_ j9_, (g_e3 F_ G1_ s1_ r0_ s0_).2, (g_e3 F_ G1_ s1_ r0_ s0_).1, r1_, s2_, e1_ ++ [r0_], e2_ ++ [s0_], e185_.1, ?_, ?_, ?_, ?_, ?_, ?_, fun z_ => e185_.2.1 z_, ?_, ?_⟩
          · simp only [List.length_append, List.length_cons, List.length_nil]; push_cast; omega
          · simp only [List.length_append, List.length_cons, List.length_nil]; push_cast; omega
          · simp only [List.length_cons] at z3_; omega
          · simp only [List.length_cons] at z4_; push_cast at z4_; omega
          · rw [z5_, List.append_assoc]; rfl
          · rw [z5b, List.append_assoc]; rfl
          · show _ ≤ (g_an F_ (g_xo F_ G1_ r0_ s0_).2 s1_ (i_xor (g_xo F_ G1_ r0_ s0_).1 1)).2.length; omega
          · rw [z8_]; rfl
        · (intro j9_; rw [f185_]; exact hst_ j9_)
        · exact hDx22_
        · omega
    · rintro b_ a_ nb_ j_ S_ hI_ hF_ ⟨kn_, h0_, h1_, h3_, hD_, -⟩ hm_
      obtain ⟨y_, x_, l_, rfl, hnb_, ha_, hb_, h1t, h2_, h1_⟩ := h1_
      obtain ⟨G1_, d_, r1_, s2_, e2_, z1_, z2_, z2b, z3_, z4_, z5b, z6_, z7_, z8_⟩ := h1_
      obtain ⟨hk15_, y_1, x_1, l_1, hyx_, xy_, x1_, er⟩ := e_opb he_ (by omega) (by omega)
      cases hyx_
      have vy_ := hV_.2
      have tp_ : S0_.1 1 0 6 = (l_.length : Int) + 2 := by rw [hV_.1]; simp only [List.length_cons]; push_cast; omega
      have lx8_ : x_.length ≤ 8 := vy_.2.2.2.2.1.2
      have hvl_ : l_.length ≤ 510 := by have := hV_.1; have q9_ : S0_.1 1 0 6 ≤ 512 := (hI0_.1 1 0 6 rfl).2; omega
      refine sm_T_go 2 (c1 := (214, [some (.inr (.inr (some (1, 0)))), some (.inl k_), some (.inl b_), some (.inl a_), some (.inl nb_), some (.inl j_), none, none], [.inl nb_, .inl j_], S_)) rfl ?_
      refine sm_T_br (a := 3) (z := 80) rfl (fun cx1_ => ?_) (fun cx1_ => ?_)
      · have cx1_ : nb_ ≤ j_ := of_decide_eq_true cx1_
        have kr_ : r1_ = [] := List.eq_nil_of_length_eq_zero (by omega)
        have ks_ : s2_ = [] := List.eq_nil_of_length_eq_zero (by omega)
        rw [kr_, ks_] at z8_
        have q8_ : g_z2 (g_bw F_ k_) G1_ [] [] = ([], G1_) := rfl
        rw [q8_, List.append_nil] at z8_
        have hfin : cgl dd_ F_ r_.1 S_ ∧ cstk r_.1 r_.2 S_ := by rw [er, g_opw (by omega) (by omega), z8_]; refine ⟨z1_, by rw [h1t]; simp only [List.length_cons]; push_cast; omega, svl_tp (st_ := S0_.2.2.1 27 0) (wd_ := S0_.2.2.1 28 0) vy_.2.2.2.2.2.2 (fun z_ => by have z9_ : G1_.length ≤ 1000 := z_; omega) (fun j9_ hj_ => h2_ j9_ hj_) (fun j9_ hj_ => h3_ j9_) (by rw [h3_]; show _ = (d_.length : Int); rw [show (d_.length : Int) = x_.length by omega]; exact vy_.2.2.2.1) (by show 1 ≤ d_.length ∧ d_.length ≤ 8; omega) (fun z_ => by have q9_ := (z6_ z_).1; rw [kr_, List.append_nil] at q9_; exact q9_)⟩
        refine sm_T_rv rfl ⟨_, _, rfl, rfl, hI_, hF_, ?_⟩
        refine ⟨hD_, ?_⟩
        first | exact hfin4 | exact hfin | (rw [er, k5_, g_op5]; refine ⟨e105_.1, by rw [t105_]; simp only [List.length_cons]; push_cast; omega, svl_tp (st_ := S0_.2.2.1 27 0) (wd_ := S0_.2.2.1 28 0) vy_.2.2.2.2.2.2 (fun z_ => Nat.le_trans (g_su_le x_ y_ G_ 0) z_) (fun j_ hj_ => e105_.2.2 j_ (Or.inl (by omega))) (fun j_ hj_ => by rw [w105_]) (by rw [w105_, g_su_ln x_ y_ G_ 0 xy_]; exact vy_.2.2.2.1) (by rw [g_su_ln x_ y_ G_ 0 xy_]; omega) (fun z_ => by have q9_ := e105_.2.1 z_; rw [show (8 * S0_.1 1 0 6 - 16).toNat = 8 * l_.length by omega] at q9_; exact q9_)⟩)
      · have cx1_ : ¬ (nb_ ≤ j_) := of_decide_eq_false cx1_
        obtain ⟨r0_, r1_, rfl⟩ : ∃ r0_ r9_, r1_ = r0_ :: r9_ := by cases r1_ with | nil => (simp only [List.length_nil] at z4_; omega) | cons p_ q_ => exact ⟨p_, q_, rfl⟩
        obtain ⟨s0_, s2_, rfl⟩ : ∃ s0_ s9_, s2_ = s0_ :: s9_ := by cases s2_ with | nil => (simp only [List.length_nil, List.length_cons] at z3_ z4_; omega) | cons p_ q_ => exact ⟨p_, q_, rfl⟩
        have rx : imq (G1_.length ≤ 1000) (S_.2.2.1 27 0 (a_ + j_).toNat = r0_ ∧ S_.2.2.1 27 0 (b_ + j_).toNat = s0_) := fun z_ => by rw [show (a_ + j_).toNat = 8 * l_.length + d_.length by omega, show (b_ + j_).toNat = 8 * l_.length + 8 + e2_.length by omega]; exact ⟨rwv_m (z6_ z_).1, rwv_m (by rw [← z5b]; exact (z6_ z_).2)⟩
        have l1_ := g_bw_le (F_ := F_) (k_ := k_) G1_ r0_ s0_
        refine sm_T_go 4 (c1 := (224, [some (.inr (.inr (some (1, 0)))), some (.inl k_), some (.inl b_), some (.inl a_), some (.inl nb_), some (.inl j_), none, none], [.inl j_, .inl a_, .inr (.inr (some (27, 0)))], S_)) rfl ?_
        refine sm_T_bin (w := a_ + j_) rfl (bi_add (by omega) (by omega) (by omega)) ?_
        refine sm_T_iald (n := 4096) rfl rfl (by omega) (by omega) ?_
        have bx2_ : 0 ≤ S_.2.2.1 27 0 (a_ + j_).toNat ∧ S_.2.2.1 27 0 (a_ + j_).toNat ≤ 2025 := hI_.2 27 0 _
        refine sm_T_go 5 (c1 := (235, [some (.inr (.inr (some (1, 0)))), some (.inl k_), some (.inl b_), some (.inl a_), some (.inl nb_), some (.inl j_), some (.inl (S_.2.2.1 27 0 (a_ + j_).toNat)), none], [.inl j_, .inl b_, .inr (.inr (some (27, 0)))], S_)) rfl ?_
        refine sm_T_bin (w := b_ + j_) rfl (bi_add (by omega) (by omega) (by omega)) ?_
        refine sm_T_iald (n := 4096) rfl rfl (by omega) (by omega) ?_
        have bx3_ : 0 ≤ S_.2.2.1 27 0 (b_ + j_).toNat ∧ S_.2.2.1 27 0 (b_ + j_).toNat ≤ 2025 := hI_.2 27 0 _
        refine sm_T_go 5 (c1 := (246, [some (.inr (.inr (some (1, 0)))), some (.inl k_), some (.inl b_), some (.inl a_), some (.inl nb_), some (.inl j_), some (.inl (S_.2.2.1 27 0 (a_ + j_).toNat)), some (.inl (S_.2.2.1 27 0 (b_ + j_).toNat))], [.inl j_, .inl a_, .inr (.inr (some (27, 0)))], S_)) rfl ?_
        refine sm_T_bin (w := a_ + j_) rfl (bi_add (by omega) (by omega) (by omega)) ?_
        refine sm_T_go 2 (c1 := (249, [some (.inr (.inr (some (1, 0)))), some (.inl k_), some (.inl b_), some (.inl a_), some (.inl nb_), some (.inl j_), some (.inl (S_.2.2.1 27 0 (a_ + j_).toNat)), some (.inl (S_.2.2.1 27 0 (b_ + j_).toNat))], [.inl 3, .inl k_, .inl (a_ + j_), .inr (.inr (some (27, 0)))], S_)) rfl ?_
        refine sm_T_br (a := 1) (z := 14) rfl (fun cx4_ => ?_) (fun cx4_ => ?_)
        · have cx4_ : k_ ≠ 3 := of_decide_eq_true cx4_
          refine sm_T_go 2 (c1 := (265, [some (.inr (.inr (some (1, 0)))), some (.inl k_), some (.inl b_), some (.inl a_), some (.inl nb_), some (.inl j_), some (.inl (S_.2.2.1 27 0 (a_ + j_).toNat)), some (.inl (S_.2.2.1 27 0 (b_ + j_).toNat))], [.inl 1, .inl k_, .inl (a_ + j_), .inr (.inr (some (27, 0)))], S_)) rfl ?_
          refine sm_T_br (a := 1) (z := 14) rfl (fun cx5_ => ?_) (fun cx5_ => ?_)
          · have cx5_ : k_ ≠ 1 := of_decide_eq_true cx5_
            refine sm_T_go 3 (c1 := (284, [some (.inr (.inr (some (1, 0)))), some (.inl k_), some (.inl b_), some (.inl a_), some (.inl nb_), some (.inl j_), some (.inl (S_.2.2.1 27 0 (a_ + j_).toNat)), some (.inl (S_.2.2.1 27 0 (b_ + j_).toNat))], [.inl (S_.2.2.1 27 0 (b_ + j_).toNat), .inl (S_.2.2.1 27 0 (a_ + j_).toNat), .inr (.inr (some (1, 0))), .inl (a_ + j_), .inr (.inr (some (27, 0)))], S_)) rfl ?_
            refine sm_T_cal (d1 := 2) (Q1 := vq_43 (S_.2.2.1 27 0 (a_ + j_).toNat) (S_.2.2.1 27 0 (b_ + j_).toNat) dd_ F_ G1_ r0_ s0_ S_) rfl rfl (by decide) (vc_43 (S_.2.2.1 27 0 (a_ + j_).toNat) (S_.2.2.1 27 0 (b_ + j_).toNat) dd_ F_ G1_ r0_ s0_ S_ hI_ (by exact cgl_d z1_) (by exact z1_) (by omega) (by omega) (by exact rx)) (fun u_ Sx6_ px9_ => ?_)
            obtain ⟨vx11_, rfl, hIx7_, hFx8_, px9_⟩ := px9_
            have hFx10_ : ai_fr (sx_W vw_39) S0_ Sx6_ := ai_fr_tr hF_ (fr_le hFx8_ rfl)
            obtain ⟨dx13_, px9_⟩ := px9_
            have hDx12_ : idf dd_ S0_ Sx6_ := idf_tr hD_ dx13_
            have e9_ : cgl dd_ F_ (g_bw F_ k_ G1_ r0_ s0_).2 Sx6_ ∧ (imq ((g_bw F_ k_ G1_ r0_ s0_).2.length ≤ 1000) (vx11_ = (g_bw F_ k_ G1_ r0_ s0_).1)) ∧ (0 ≤ vx11_ ∧ vx11_ ≤ 2025) := by rw [g_bw2 (by omega) (by omega)]; exact px9_
            have f9_ : Sx6_.2.2.1 27 0 = S_.2.2.1 27 0 := fr_arr hFx8_ rfl
            have t9_ : Sx6_.1 1 0 6 = S_.1 1 0 6 := hFx8_.1 1 0 6 rfl
            have w9_ : Sx6_.2.2.1 28 0 = S_.2.2.1 28 0 := fr_arr hFx8_ rfl
            have g9_ : ∀ z9_ : Int, ∀ j9_ : Nat, (sm_aI Sx6_ 27 0 (a_ + j_).toNat z9_).2.2.1 27 0 j9_ = if j9_ = (a_ + j_).toNat then z9_ else S_.2.2.1 27 0 j9_ := fun z9_ j9_ => by rw [rd_eq, f9_]
            refine sm_T_iast (n := 4096) rfl rfl (by omega) (by omega) ?_
            have hIx14_ : gi (sm_aI Sx6_ 27 0 (a_ + j_).toNat vx11_) := gi_aI hIx7_ (show 0 ≤ vx11_ ∧ vx11_ ≤ 2025 from ⟨by omega, by omega⟩)
            have hFx15_ : ai_fr (sx_W vw_39) S0_ (sm_aI Sx6_ 27 0 (a_ + j_).toNat vx11_) := ai_fr_tr hFx10_ (ai_fr_aI rfl)
            have hDx16_ : idf dd_ S0_ (sm_aI Sx6_ 27 0 (a_ + j_).toNat vx11_) := idf_aI hDx12_ (Or.inl (by decide))
            refine sm_T_inc (a := 5) (z := 1) (v := j_) (w := j_ + 1) rfl rfl (by omega) (by omega) (by omega) ?_
            refine sm_T_go 1 (c1 := (210, [some (.inr (.inr (some (1, 0)))), some (.inl k_), some (.inl b_), some (.inl a_), some (.inl nb_), some (.inl (j_ + 1)), some (.inl (S_.2.2.1 27 0 (a_ + j_).toNat)), some (.inl (S_.2.2.1 27 0 (b_ + j_).toNat))], [], sm_aI Sx6_ 27 0 (a_ + j_).toNat vx11_)) rfl ?_
            refine sm_T_wk [some (.inr (.inr (some (1, 0)))), some (.inl k_), some (.inl b_), some (.inl a_), some (.inl nb_), some (.inl (j_ + 1)), none, none] (by exact ⟨rfl, rfl, rfl, rfl, rfl, rfl, trivial⟩) ?_
            refine ih_.2.2 b_ a_ nb_ (j_ + 1) (sm_aI Sx6_ 27 0 (a_ + j_).toNat vx11_) hIx14_ hFx15_ ⟨?_, ?_, ?_, ?_, ?_, trivial⟩ ?_
            · exact kn_
            · omega
            · refine ⟨y_, x_, l_, rfl, hnb_, ha_, hb_, t9_.trans h1t, fun j9_ hj_ => by rw [g9_, if_neg (by omega)]; exact h2_ j9_ hj_, (g_bw F_ k_ G1_ r0_ s0_).2, d_ ++ [(g_bw F_ k_ G1_ r0_ s0_).1], r1_, s2_, e2_ ++ [s0_], cgl_st e9_.1, ?_, ?_, ?_, ?_, ?_, fun z_ => ?_, ?_, ?_⟩
              · simp only [List.length_append, List.length_cons, List.length_nil]; push_cast; omega
              · simp only [List.length_append, List.length_cons, List.length_nil]; push_cast; omega
              · simp only [List.length_cons] at z3_; omega
              · simp only [List.length_cons] at z4_; push_cast at z4_; omega
              · rw [z5b, List.append_assoc]; rfl
              · have q1_ := z6_ (by omega)
                refine ⟨?_, ?_⟩
                · exact rwv_set (q_ := (a_ + j_).toNat) q1_.1 (by omega) (fun j9_ => by rw [g9_, e9_.2.1 z_])
                · exact rwv_cg q1_.2 (fun j9_ hj_ => by rw [g9_, if_neg (by omega)])
              · omega
              · rw [z8_]; exact g_z2_c
            · intro j9_
              rw [rd_ne (by decide), w9_]
              exact h3_ j9_
            · exact hDx16_
            · omega
          · have cx5_ : ¬ (k_ ≠ 1) := of_decide_eq_false cx5_
            refine sm_T_go 3 (c1 := (273, [some (.inr (.inr (some (1, 0)))), some (.inl k_), some (.inl b_), some (.inl a_), some (.inl nb_), some (.inl j_), some (.inl (S_.2.2.1 27 0 (a_ + j_).toNat)), some (.inl (S_.2.2.1 27 0 (b_ + j_).toNat))], [.inl (S_.2.2.1 27 0 (b_ + j_).toNat), .inl (S_.2.2.1 27 0 (a_ + j_).toNat), .inr (.inr (some (1, 0))), .inl (a_ + j_), .inr (.inr (some (27, 0)))], S_)) rfl ?_
            refine sm_T_cal (d1 := 2) (Q1 := vq_42 (S_.2.2.1 27 0 (a_ + j_).toNat) (S_.2.2.1 27 0 (b_ + j_).toNat) dd_ F_ G1_ r0_ s0_ S_) rfl rfl (by decide) (vc_42 (S_.2.2.1 27 0 (a_ + j_).toNat) (S_.2.2.1 27 0 (b_ + j_).toNat) dd_ F_ G1_ r0_ s0_ S_ hI_ (by exact cgl_d z1_) (by exact z1_) (by omega) (by omega) (by exact rx)) (fun u_ Sx17_ px20_ => ?_)
            obtain ⟨vx22_, rfl, hIx18_, hFx19_, px20_⟩ := px20_
            have hFx21_ : ai_fr (sx_W vw_39) S0_ Sx17_ := ai_fr_tr hF_ (fr_le hFx19_ rfl)
            obtain ⟨dx24_, px20_⟩ := px20_
            have hDx23_ : idf dd_ S0_ Sx17_ := idf_tr hD_ dx24_
            have e9_ : cgl dd_ F_ (g_bw F_ k_ G1_ r0_ s0_).2 Sx17_ ∧ (imq ((g_bw F_ k_ G1_ r0_ s0_).2.length ≤ 1000) (vx22_ = (g_bw F_ k_ G1_ r0_ s0_).1)) ∧ (0 ≤ vx22_ ∧ vx22_ ≤ 2025) := by rw [show k_ = 1 by omega, g_bw1]; exact px20_
            have f9_ : Sx17_.2.2.1 27 0 = S_.2.2.1 27 0 := fr_arr hFx19_ rfl
            have t9_ : Sx17_.1 1 0 6 = S_.1 1 0 6 := hFx19_.1 1 0 6 rfl
            have w9_ : Sx17_.2.2.1 28 0 = S_.2.2.1 28 0 := fr_arr hFx19_ rfl
            have g9_ : ∀ z9_ : Int, ∀ j9_ : Nat, (sm_aI Sx17_ 27 0 (a_ + j_).toNat z9_).2.2.1 27 0 j9_ = if j9_ = (a_ + j_).toNat then z9_ else S_.2.2.1 27 0 j9_ := fun z9_ j9_ => by rw [rd_eq, f9_]
            refine sm_T_go 1 (c1 := (287, [some (.inr (.inr (some (1, 0)))), some (.inl k_), some (.inl b_), some (.inl a_), some (.inl nb_), some (.inl j_), some (.inl (S_.2.2.1 27 0 (a_ + j_).toNat)), some (.inl (S_.2.2.1 27 0 (b_ + j_).toNat))], [.inl vx22_, .inl (a_ + j_), .inr (.inr (some (27, 0)))], Sx17_)) rfl ?_
            refine sm_T_iast (n := 4096) rfl rfl (by omega) (by omega) ?_
            have hIx25_ : gi (sm_aI Sx17_ 27 0 (a_ + j_).toNat vx22_) := gi_aI hIx18_ (show 0 ≤ vx22_ ∧ vx22_ ≤ 2025 from ⟨by omega, by omega⟩)
            have hFx26_ : ai_fr (sx_W vw_39) S0_ (sm_aI Sx17_ 27 0 (a_ + j_).toNat vx22_) := ai_fr_tr hFx21_ (ai_fr_aI rfl)
            have hDx27_ : idf dd_ S0_ (sm_aI Sx17_ 27 0 (a_ + j_).toNat vx22_) := idf_aI hDx23_ (Or.inl (by decide))
            refine sm_T_inc (a := 5) (z := 1) (v := j_) (w := j_ + 1) rfl rfl (by omega) (by omega) (by omega) ?_
            refine sm_T_go 1 (c1 := (210, [some (.inr (.inr (some (1, 0)))), some (.inl k_), some (.inl b_), some (.inl a_), some (.inl nb_), some (.inl (j_ + 1)), some (.inl (S_.2.2.1 27 0 (a_ + j_).toNat)), some (.inl (S_.2.2.1 27 0 (b_ + j_).toNat))], [], sm_aI Sx17_ 27 0 (a_ + j_).toNat vx22_)) rfl ?_
            refine sm_T_wk [some (.inr (.inr (some (1, 0)))), some (.inl k_), some (.inl b_), some (.inl a_), some (.inl nb_), some (.inl (j_ + 1)), none, none] (by exact ⟨rfl, rfl, rfl, rfl, rfl, rfl, trivial⟩) ?_
            refine ih_.2.2 b_ a_ nb_ (j_ + 1) (sm_aI Sx17_ 27 0 (a_ + j_).toNat vx22_) hIx25_ hFx26_ ⟨?_, ?_, ?_, ?_, ?_, trivial⟩ ?_
            · exact kn_
            · omega
            · refine ⟨y_, x_, l_, rfl, hnb_, ha_, hb_, t9_.trans h1t, fun j9_ hj_ => by rw [g9_, if_neg (by omega)]; exact h2_ j9_ hj_, (g_bw F_ k_ G1_ r0_ s0_).2, d_ ++ [(g_bw F_ k_ G1_ r0_ s0_).1], r1_, s2_, e2_ ++ [s0_], cgl_st e9_.1, ?_, ?_, ?_, ?_, ?_, fun z_ => ?_, ?_, ?_⟩
              · simp only [List.length_append, List.length_cons, List.length_nil]; push_cast; omega
              · simp only [List.length_append, List.length_cons, List.length_nil]; push_cast; omega
              · simp only [List.length_cons] at z3_; omega
              · simp only [List.length_cons] at z4_; push_cast at z4_; omega
              · rw [z5b, List.append_assoc]; rfl
              · have q1_ := z6_ (by omega)
                refine ⟨?_, ?_⟩
                · exact rwv_set (q_ := (a_ + j_).toNat) q1_.1 (by omega) (fun j9_ => by rw [g9_, e9_.2.1 z_])
                · exact rwv_cg q1_.2 (fun j9_ hj_ => by rw [g9_, if_neg (by omega)])
              · omega
              · rw [z8_]; exact g_z2_c
            · intro j9_
              rw [rd_ne (by decide), w9_]
              exact h3_ j9_
            · exact hDx27_
            · omega
        · have cx4_ : ¬ (k_ ≠ 3) := of_decide_eq_false cx4_
          refine sm_T_go 3 (c1 := (257, [some (.inr (.inr (some (1, 0)))), some (.inl k_), some (.inl b_), some (.inl a_), some (.inl nb_), some (.inl j_), some (.inl (S_.2.2.1 27 0 (a_ + j_).toNat)), some (.inl (S_.2.2.1 27 0 (b_ + j_).toNat))], [.inl (S_.2.2.1 27 0 (b_ + j_).toNat), .inl (S_.2.2.1 27 0 (a_ + j_).toNat), .inr (.inr (some (1, 0))), .inl (a_ + j_), .inr (.inr (some (27, 0)))], S_)) rfl ?_
          refine sm_T_cal (d1 := 1) (Q1 := vq_44 (S_.2.2.1 27 0 (a_ + j_).toNat) (S_.2.2.1 27 0 (b_ + j_).toNat) dd_ F_ G1_ r0_ s0_ S_) rfl rfl (by decide) (vc_44 (S_.2.2.1 27 0 (a_ + j_).toNat) (S_.2.2.1 27 0 (b_ + j_).toNat) dd_ F_ G1_ r0_ s0_ S_ hI_ (by exact cgl_d z1_) (by exact z1_) (by omega) (by omega) (by exact rx)) (fun u_ Sx28_ px31_ => ?_)
          obtain ⟨vx33_, rfl, hIx29_, hFx30_, px31_⟩ := px31_
          have hFx32_ : ai_fr (sx_W vw_39) S0_ Sx28_ := ai_fr_tr hF_ (fr_le hFx30_ rfl)
          obtain ⟨dx35_, px31_⟩ := px31_
          have hDx34_ : idf dd_ S0_ Sx28_ := idf_tr hD_ dx35_
          have e9_ : cgl dd_ F_ (g_bw F_ k_ G1_ r0_ s0_).2 Sx28_ ∧ (imq ((g_bw F_ k_ G1_ r0_ s0_).2.length ≤ 1000) (vx33_ = (g_bw F_ k_ G1_ r0_ s0_).1)) ∧ (0 ≤ vx33_ ∧ vx33_ ≤ 2025) := by rw [show k_ = 3 by omega, g_bw3]; exact px31_
          have f9_ : Sx28_.2.2.1 27 0 = S_.2.2.1 27 0 := fr_arr hFx30_ rfl
          have t9_ : Sx28_.1 1 0 6 = S_.1 1 0 6 := hFx30_.1 1 0 6 rfl
          have w9_ : Sx28_.2.2.1 28 0 = S_.2.2.1 28 0 := fr_arr hFx30_ rfl
          have g9_ : ∀ z9_ : Int, ∀ j9_ : Nat, (sm_aI Sx28_ 27 0 (a_ + j_).toNat z9_).2.2.1 27 0 j9_ = if j9_ = (a_ + j_).toNat then z9_ else S_.2.2.1 27 0 j9_ := fun z9_ j9_ => by rw [rd_eq, f9_]
          refine sm_T_go 1 (c1 := (287, [some (.inr (.inr (some (1, 0)))), some (.inl k_), some (.inl b_), some (.inl a_), some (.inl nb_), some (.inl j_), some (.inl (S_.2.2.1 27 0 (a_ + j_).toNat)), some (.inl (S_.2.2.1 27 0 (b_ + j_).toNat))], [.inl vx33_, .inl (a_ + j_), .inr (.inr (some (27, 0)))], Sx28_)) rfl ?_
          refine sm_T_iast (n := 4096) rfl rfl (by omega) (by omega) ?_
          have hIx36_ : gi (sm_aI Sx28_ 27 0 (a_ + j_).toNat vx33_) := gi_aI hIx29_ (show 0 ≤ vx33_ ∧ vx33_ ≤ 2025 from ⟨by omega, by omega⟩)
          have hFx37_ : ai_fr (sx_W vw_39) S0_ (sm_aI Sx28_ 27 0 (a_ + j_).toNat vx33_) := ai_fr_tr hFx32_ (ai_fr_aI rfl)
          have hDx38_ : idf dd_ S0_ (sm_aI Sx28_ 27 0 (a_ + j_).toNat vx33_) := idf_aI hDx34_ (Or.inl (by decide))
          refine sm_T_inc (a := 5) (z := 1) (v := j_) (w := j_ + 1) rfl rfl (by omega) (by omega) (by omega) ?_
          refine sm_T_go 1 (c1 := (210, [some (.inr (.inr (some (1, 0)))), some (.inl k_), some (.inl b_), some (.inl a_), some (.inl nb_), some (.inl (j_ + 1)), some (.inl (S_.2.2.1 27 0 (a_ + j_).toNat)), some (.inl (S_.2.2.1 27 0 (b_ + j_).toNat))], [], sm_aI Sx28_ 27 0 (a_ + j_).toNat vx33_)) rfl ?_
          refine sm_T_wk [some (.inr (.inr (some (1, 0)))), some (.inl k_), some (.inl b_), some (.inl a_), some (.inl nb_), some (.inl (j_ + 1)), none, none] (by exact ⟨rfl, rfl, rfl, rfl, rfl, rfl, trivial⟩) ?_
          refine ih_.2.2 b_ a_ nb_ (j_ + 1) (sm_aI Sx28_ 27 0 (a_ + j_).toNat vx33_) hIx36_ hFx37_ ⟨?_, ?_, ?_, ?_, ?_, trivial⟩ ?_
          · exact kn_
          · omega
          · refine ⟨y_, x_, l_, rfl, hnb_, ha_, hb_, t9_.trans h1t, fun j9_ hj_ => by rw [g9_, if_neg (by omega)]; exact h2_ j9_ hj_, (g_bw F_ k_ G1_ r0_ s0_).2, d_ ++ [(g_bw F_ k_ G1_ r0_ s0_).1], r1_, s2_, e2_ ++ [s0_], cgl_st e9_.1, ?_, ?_, ?_, ?_, ?_, fun z_ => ?_, ?_, ?_⟩
            · simp only [List.length_append, List.length_cons, List.length_nil]; push_cast; omega
            · simp only [List.length_append, List.length_cons, List.length_nil]; push_cast; omega
            · simp only [List.length_cons] at z3_; omega
            · simp only [List.length_cons] at z4_; push_cast at z4_; omega
            · rw [z5b, List.append_assoc]; rfl
            · have q1_ := z6_ (by omega)
              refine ⟨?_, ?_⟩
              · exact rwv_set (q_ := (a_ + j_).toNat) q1_.1 (by omega) (fun j9_ => by rw [g9_, e9_.2.1 z_])
              · exact rwv_cg q1_.2 (fun j9_ hj_ => by rw [g9_, if_neg (by omega)])
            · omega
            · rw [z8_]; exact g_z2_c
          · intro j9_
            rw [rd_ne (by decide), w9_]
            exact h3_ j9_
          · exact hDx38_
          · omega
set_option maxHeartbeats 2500000 in
set_option maxRecDepth 20000 in
theorem vc_39 {sc_ : Nat × (Nat → Int)} (k_ : Int) (dd_ : Nat) (F_ : Nat) (G_ : pGr) (V_ : gV) (r_ : pGr × gV) (S0_ : sm_S) (hI_ : gi S0_) (hI0_ : gi S0_) (hd_ : S0_.2.1 1 0 1 = some dd_) (hg_ : cgl dd_ F_ G_ S0_) (hV_ : cstk G_ V_ S0_) (he_ : e_op F_ k_ G_ V_ = some r_) : sm_T (mt_P sc_) 4 39 (0, [some (.inr (.inr (some (1, 0)))), some (.inl k_), none, none, none, none, none, none], [], S0_) (fun ro9_ => ∃ u_ S1_, ro9_ = (.inl u_, S1_, 0) ∧ vq_39 k_ dd_ F_ G_ V_ r_ S0_ u_ S1_) := by
  have hF_ : ai_fr (sx_W vw_39) S0_ S0_ := ai_fr_rf
  have hD_ : idf dd_ S0_ S0_ := idf_rf
  refine sm_T_go 2 (c1 := (3, [some (.inr (.inr (some (1, 0)))), some (.inl k_), none, none, none, none, none, none], [.inl 6, .inl k_], S0_)) rfl ?_
  refine sm_T_br (a := 1) (z := 47) rfl (fun cx1_ => ?_) (fun cx1_ => ?_)
  · have cx1_ : k_ ≠ 6 := of_decide_eq_true cx1_
    refine sm_T_go 2 (c1 := (53, [some (.inr (.inr (some (1, 0)))), some (.inl k_), none, none, none, none, none, none], [.inl 7, .inl k_], S0_)) rfl ?_
    refine sm_T_br (a := 1) (z := 8) rfl (fun cx2_ => ?_) (fun cx2_ => ?_)
    · have cx2_ : k_ ≠ 7 := of_decide_eq_true cx2_
      obtain ⟨hk15_, y_, x_, l_, hVe_, xy_, x1_, er⟩ := e_opb he_ (by omega) (by omega)
      have hV2_ : cstk G_ (y_ :: x_ :: l_) S0_ := by rw [← hVe_]; exact hV_
      have vy_ := hV2_.2
      have tp_ : S0_.1 1 0 6 = (l_.length : Int) + 2 := by rw [hV2_.1]; simp only [List.length_cons]; push_cast; omega
      have lx8_ : x_.length ≤ 8 := vy_.2.2.2.2.1.2
      have hvl_ : l_.length ≤ 510 := by have := hV2_.1; have q9_ : S0_.1 1 0 6 ≤ 512 := (hI_.1 1 0 6 rfl).2; omega
      have nbx_ : S0_.2.2.1 28 0 (S0_.1 1 0 6 - 1).toNat = (y_.length : Int) := by rw [show (S0_.1 1 0 6 - 1).toNat = (x_ :: l_).length by simp only [List.length_cons]; omega]; exact vy_.1
      have bx3_ : 0 ≤ S0_.1 1 0 6 ∧ S0_.1 1 0 6 ≤ 512 := hI_.1 1 0 6 rfl
      refine sm_T_go 4 (c1 := (67, [some (.inr (.inr (some (1, 0)))), some (.inl k_), none, none, none, none, none, none], [.inl 1, .inl (S0_.1 1 0 6), .inr (.inr (some (1, 0)))], S0_)) rfl ?_
      refine sm_T_bin (w := (S0_.1 1 0 6) - 1) rfl (bi_sub (by omega) (by omega) (by omega)) ?_
      have hIx4_ : gi (sm_pI S0_ 1 0 6 ((S0_.1 1 0 6) - 1)) := gi_pI hI_ (show 0 ≤ (S0_.1 1 0 6) - 1 ∧ (S0_.1 1 0 6) - 1 ≤ 512 from ⟨by omega, by omega⟩)
      have hFx5_ : ai_fr (sx_W vw_39) S0_ (sm_pI S0_ 1 0 6 ((S0_.1 1 0 6) - 1)) := ai_fr_tr hF_ (ai_fr_pI rfl)
      have hDx6_ : idf dd_ S0_ (sm_pI S0_ 1 0 6 ((S0_.1 1 0 6) - 1)) := idf_pI hD_ (Or.inl (by decide))
      refine sm_T_go 4 (c1 := (77, [some (.inr (.inr (some (1, 0)))), some (.inl k_), none, none, none, none, none, none], [.inl 8, .inl ((S0_.1 1 0 6) - 1)], sm_pI S0_ 1 0 6 ((S0_.1 1 0 6) - 1))) rfl ?_
      refine sm_T_bin (w := 8 * (S0_.1 1 0 6) - 8) rfl (bi_mul (by omega) (by omega) (by omega)) ?_
      refine sm_T_go 3 (c1 := (82, [some (.inr (.inr (some (1, 0)))), some (.inl k_), some (.inl (8 * (S0_.1 1 0 6) - 8)), none, none, none, none, none], [.inl 8, .inl (8 * (S0_.1 1 0 6) - 8)], sm_pI S0_ 1 0 6 ((S0_.1 1 0 6) - 1))) rfl ?_
      refine sm_T_bin (w := 8 * (S0_.1 1 0 6) - 16) rfl (bi_sub (by omega) (by omega) (by omega)) ?_
      refine sm_T_go 5 (c1 := (92, [some (.inr (.inr (some (1, 0)))), some (.inl k_), some (.inl (8 * (S0_.1 1 0 6) - 8)), some (.inl (8 * (S0_.1 1 0 6) - 16)), none, none, none, none], [.inl ((S0_.1 1 0 6) - 1), .inr (.inr (some (28, 0)))], sm_pI S0_ 1 0 6 ((S0_.1 1 0 6) - 1))) rfl ?_
      refine sm_T_iald (n := 512) rfl rfl (by omega) (by omega) ?_
      have bx7_ : 0 ≤ S0_.2.2.1 28 0 ((S0_.1 1 0 6) - 1).toNat ∧ S0_.2.2.1 28 0 ((S0_.1 1 0 6) - 1).toNat ≤ 8 := hI_.2 28 0 _
      refine sm_T_go 3 (c1 := (97, [some (.inr (.inr (some (1, 0)))), some (.inl k_), some (.inl (8 * (S0_.1 1 0 6) - 8)), some (.inl (8 * (S0_.1 1 0 6) - 16)), some (.inl (S0_.2.2.1 28 0 ((S0_.1 1 0 6) - 1).toNat)), none, none, none], [.inl 5, .inl k_], sm_pI S0_ 1 0 6 ((S0_.1 1 0 6) - 1))) rfl ?_
      refine sm_T_br (a := 1) (z := 14) rfl (fun cx8_ => ?_) (fun cx8_ => ?_)
      · have cx8_ : k_ ≠ 5 := of_decide_eq_true cx8_
        refine sm_T_go 2 (c1 := (113, [some (.inr (.inr (some (1, 0)))), some (.inl k_), some (.inl (8 * (S0_.1 1 0 6) - 8)), some (.inl (8 * (S0_.1 1 0 6) - 16)), some (.inl (S0_.2.2.1 28 0 ((S0_.1 1 0 6) - 1).toNat)), none, none, none], [.inl 4, .inl k_], sm_pI S0_ 1 0 6 ((S0_.1 1 0 6) - 1))) rfl ?_
        refine sm_T_br (a := 1) (z := 94) rfl (fun cx9_ => ?_) (fun cx9_ => ?_)
        · have cx9_ : k_ ≠ 4 := of_decide_eq_true cx9_
          refine sm_T_go 2 (c1 := (210, [some (.inr (.inr (some (1, 0)))), some (.inl k_), some (.inl (8 * (S0_.1 1 0 6) - 8)), some (.inl (8 * (S0_.1 1 0 6) - 16)), some (.inl (S0_.2.2.1 28 0 ((S0_.1 1 0 6) - 1).toNat)), some (.inl 0), none, none], [], sm_pI S0_ 1 0 6 ((S0_.1 1 0 6) - 1))) rfl ?_
          refine (vl_39 k_ dd_ F_ G_ V_ r_ S0_ hI0_ hd_ hg_ hV_ he_ _).2.2 (8 * (S0_.1 1 0 6) - 8) (8 * (S0_.1 1 0 6) - 16) (S0_.2.2.1 28 0 ((S0_.1 1 0 6) - 1).toNat) 0 (sm_pI S0_ 1 0 6 ((S0_.1 1 0 6) - 1)) hIx4_ hFx5_ ⟨?_, ?_, ?_, ?_, ?_, trivial⟩ (Nat.lt_succ_self _)
          · omega
          · omega
          · refine ⟨y_, x_, l_, hVe_, ?_, by omega, by omega, by (try simp only [rd_eq, rd_ne, rf_eq, rf_nk, rf_nt, rd_fa, rd_af, rd_fl, rd_al, rd_lf, rd_la, rd_leq, rd_lne, rd_fr, rd_ar, ne_eq, Nat.reduceEqDiff, not_false_eq_true]); omega, fun j9_ hj_ => rfl, G_, [], x_, y_, [], cgl_fr (w_ := ([(1, 6)], [], [])) hg_ (ai_fr_pI rfl) rfl rfl rfl rfl rfl rfl rfl rfl, rfl, rfl, xy_, ?_, rfl, fun z_ => ⟨vy_.2.2.2.2.2.1 z_, vy_.2.2.1 z_⟩, Nat.le_refl _, rfl⟩
            · rw [xy_, show (S0_.1 1 0 6 - 1).toNat = (x_ :: l_).length by simp only [List.length_cons]; omega]; exact vy_.1
            · rw [xy_, show (S0_.1 1 0 6 - 1).toNat = (x_ :: l_).length by simp only [List.length_cons]; omega, vy_.1]; omega
          · (intro j9_; rfl)
          · exact hDx6_
        · have cx9_ : ¬ (k_ ≠ 4) := of_decide_eq_false cx9_
          have k4_ : k_ = 4 := by omega
          obtain ⟨x0_, x9_, rfl⟩ : ∃ r0_ r1_, x_ = r0_ :: r1_ := by cases x_ with | nil => (simp only [List.length_nil] at x1_; omega) | cons p_ q_ => exact ⟨p_, q_, rfl⟩
          obtain ⟨y0_, y9_, rfl⟩ : ∃ s0_ s1_, y_ = s0_ :: s1_ := by cases y_ with | nil => (simp only [List.length_nil, List.length_cons] at xy_; omega) | cons p_ q_ => exact ⟨p_, q_, rfl⟩
          have rx : imq (G_.length ≤ 1000) (S0_.2.2.1 27 0 (8 * S0_.1 1 0 6 - 16).toNat = x0_ ∧ S0_.2.2.1 27 0 (8 * S0_.1 1 0 6 - 8).toNat = y0_) := fun z_ => by rw [show (8 * S0_.1 1 0 6 - 16).toNat = 8 * l_.length + 0 by omega, show (8 * S0_.1 1 0 6 - 8).toNat = 8 * ((x0_ :: x9_) :: l_).length + 0 by simp only [List.length_cons]; omega]; exact ⟨vy_.2.2.2.2.2.1 z_ 0 x0_ rfl, vy_.2.2.1 z_ 0 y0_ rfl⟩
          refine sm_T_go 5 (c1 := (125, [some (.inr (.inr (some (1, 0)))), some (.inl k_), some (.inl (8 * (S0_.1 1 0 6) - 8)), some (.inl (8 * (S0_.1 1 0 6) - 16)), some (.inl (S0_.2.2.1 28 0 ((S0_.1 1 0 6) - 1).toNat)), none, none, none], [.inl 1, .inl ((S0_.1 1 0 6) - 1), .inr (.inr (some (28, 0)))], sm_pI S0_ 1 0 6 ((S0_.1 1 0 6) - 1))) rfl ?_
          refine sm_T_bin (w := (S0_.1 1 0 6) - 2) rfl (bi_sub (by omega) (by omega) (by omega)) ?_
          refine sm_T_go 1 (c1 := (127, [some (.inr (.inr (some (1, 0)))), some (.inl k_), some (.inl (8 * (S0_.1 1 0 6) - 8)), some (.inl (8 * (S0_.1 1 0 6) - 16)), some (.inl (S0_.2.2.1 28 0 ((S0_.1 1 0 6) - 1).toNat)), none, none, none], [.inl 1, .inl ((S0_.1 1 0 6) - 2), .inr (.inr (some (28, 0)))], sm_pI S0_ 1 0 6 ((S0_.1 1 0 6) - 1))) rfl ?_
          refine sm_T_iast (n := 512) rfl rfl (by omega) (by omega) ?_
          have hIx10_ : gi (sm_aI (sm_pI S0_ 1 0 6 ((S0_.1 1 0 6) - 1)) 28 0 ((S0_.1 1 0 6) - 2).toNat 1) := gi_aI hIx4_ (show 0 ≤ 1 ∧ 1 ≤ 8 from ⟨by omega, by omega⟩)
          have hFx11_ : ai_fr (sx_W vw_39) S0_ (sm_aI (sm_pI S0_ 1 0 6 ((S0_.1 1 0 6) - 1)) 28 0 ((S0_.1 1 0 6) - 2).toNat 1) := ai_fr_tr hFx5_ (ai_fr_aI rfl)
          have hDx12_ : idf dd_ S0_ (sm_aI (sm_pI S0_ 1 0 6 ((S0_.1 1 0 6) - 1)) 28 0 ((S0_.1 1 0 6) - 2).toNat 1) := idf_aI hDx6_ (Or.inl (by decide))
          refine sm_T_go 4 (c1 := (134, [some (.inr (.inr (some (1, 0)))), some (.inl k_), some (.inl (8 * (S0_.1 1 0 6) - 8)), some (.inl (8 * (S0_.1 1 0 6) - 16)), some (.inl (S0_.2.2.1 28 0 ((S0_.1 1 0 6) - 1).toNat)), none, none, none], [.inl (8 * (S0_.1 1 0 6) - 16), .inr (.inr (some (27, 0))), .inr (.inr (some (1, 0)))], sm_aI (sm_pI S0_ 1 0 6 ((S0_.1 1 0 6) - 1)) 28 0 ((S0_.1 1 0 6) - 2).toNat 1)) rfl ?_
          refine sm_T_iald (n := 4096) rfl rfl (by omega) (by omega) ?_
          have bx13_ : 0 ≤ S0_.2.2.1 27 0 (8 * (S0_.1 1 0 6) - 16).toNat ∧ S0_.2.2.1 27 0 (8 * (S0_.1 1 0 6) - 16).toNat ≤ 2025 := hI_.2 27 0 _
          refine sm_T_go 3 (c1 := (140, [some (.inr (.inr (some (1, 0)))), some (.inl k_), some (.inl (8 * (S0_.1 1 0 6) - 8)), some (.inl (8 * (S0_.1 1 0 6) - 16)), some (.inl (S0_.2.2.1 28 0 ((S0_.1 1 0 6) - 1).toNat)), none, none, none], [.inl (8 * (S0_.1 1 0 6) - 8), .inr (.inr (some (27, 0))), .inl (S0_.2.2.1 27 0 (8 * (S0_.1 1 0 6) - 16).toNat), .inr (.inr (some (1, 0)))], sm_aI (sm_pI S0_ 1 0 6 ((S0_.1 1 0 6) - 1)) 28 0 ((S0_.1 1 0 6) - 2).toNat 1)) rfl ?_
          refine sm_T_iald (n := 4096) rfl rfl (by omega) (by omega) ?_
          have bx14_ : 0 ≤ S0_.2.2.1 27 0 (8 * (S0_.1 1 0 6) - 8).toNat ∧ S0_.2.2.1 27 0 (8 * (S0_.1 1 0 6) - 8).toNat ≤ 2025 := hI_.2 27 0 _
          refine sm_T_go 0 (c1 := (141, [some (.inr (.inr (some (1, 0)))), some (.inl k_), some (.inl (8 * (S0_.1 1 0 6) - 8)), some (.inl (8 * (S0_.1 1 0 6) - 16)), some (.inl (S0_.2.2.1 28 0 ((S0_.1 1 0 6) - 1).toNat)), none, none, none], [.inl (S0_.2.2.1 27 0 (8 * (S0_.1 1 0 6) - 8).toNat), .inl (S0_.2.2.1 27 0 (8 * (S0_.1 1 0 6) - 16).toNat), .inr (.inr (some (1, 0)))], sm_aI (sm_pI S0_ 1 0 6 ((S0_.1 1 0 6) - 1)) 28 0 ((S0_.1 1 0 6) - 2).toNat 1)) rfl ?_
          refine sm_T_cal (d1 := 2) (Q1 := vq_43 (S0_.2.2.1 27 0 (8 * (S0_.1 1 0 6) - 16).toNat) (S0_.2.2.1 27 0 (8 * (S0_.1 1 0 6) - 8).toNat) dd_ F_ G_ x0_ y0_ (sm_aI (sm_pI S0_ 1 0 6 ((S0_.1 1 0 6) - 1)) 28 0 ((S0_.1 1 0 6) - 2).toNat 1)) rfl rfl (by decide) (vc_43 (S0_.2.2.1 27 0 (8 * (S0_.1 1 0 6) - 16).toNat) (S0_.2.2.1 27 0 (8 * (S0_.1 1 0 6) - 8).toNat) dd_ F_ G_ x0_ y0_ (sm_aI (sm_pI S0_ 1 0 6 ((S0_.1 1 0 6) - 1)) 28 0 ((S0_.1 1 0 6) - 2).toNat 1) hIx10_ (by exact hd_) (by exact cgl_fr (w_ := ([(1, 6)], [28], [])) hg_ (ai_fr_tr (ai_fr_pI rfl) (ai_fr_aI rfl)) rfl rfl rfl rfl rfl rfl rfl rfl) (by omega) (by omega) (by exact rx)) (fun u_ Sx15_ px18_ => ?_)
          obtain ⟨vx20_, rfl, hIx16_, hFx17_, px18_⟩ := px18_
          have hFx19_ : ai_fr (sx_W vw_39) S0_ Sx15_ := ai_fr_tr hFx11_ (fr_le hFx17_ rfl)
          obtain ⟨dx22_, px18_⟩ := px18_
          have hDx21_ : idf dd_ S0_ Sx15_ := idf_tr hDx12_ dx22_
          have e141_ := px18_
          have t141_ : Sx15_.1 1 0 6 = S0_.1 1 0 6 - 1 := (hFx17_.1 1 0 6 rfl)
          have w141_ : ∀ j9_ : Nat, Sx15_.2.2.1 28 0 j9_ = if j9_ = l_.length then 1 else S0_.2.2.1 28 0 j9_ := fun j9_ => by rw [fr_arr (t := 28) (i := 0) hFx17_ rfl, rd_eq, show (S0_.1 1 0 6 - 2).toNat = l_.length by omega]; rfl
          have f141_ : Sx15_.2.2.1 27 0 = S0_.2.2.1 27 0 := (fr_arr hFx17_ rfl).trans (by funext j9_; exact rd_ne (by decide))
          refine sm_T_go 1 (c1 := (145, [some (.inr (.inr (some (1, 0)))), some (.inl k_), some (.inl (8 * (S0_.1 1 0 6) - 8)), some (.inl (8 * (S0_.1 1 0 6) - 16)), some (.inl (S0_.2.2.1 28 0 ((S0_.1 1 0 6) - 1).toNat)), none, none, none], [.inl 1, .inl vx20_], Sx15_)) rfl ?_
          refine sm_T_bin (w := (i_xor vx20_ 1)) rfl rfl ?_
          have bx23_ := i_x1 (x_ := vx20_) (by omega)
          refine sm_T_go 3 (c1 := (151, [some (.inr (.inr (some (1, 0)))), some (.inl k_), some (.inl (8 * (S0_.1 1 0 6) - 8)), some (.inl (8 * (S0_.1 1 0 6) - 16)), some (.inl (S0_.2.2.1 28 0 ((S0_.1 1 0 6) - 1).toNat)), some (.inl (i_xor vx20_ 1)), some (.inl 1), none], [], Sx15_)) rfl ?_
          refine (vl_39 k_ dd_ F_ G_ V_ r_ S0_ hI0_ hd_ hg_ hV_ he_ _).2.1 (8 * (S0_.1 1 0 6) - 8) (8 * (S0_.1 1 0 6) - 16) (S0_.2.2.1 28 0 ((S0_.1 1 0 6) - 1).toNat) (i_xor vx20_ 1) 1 Sx15_ hIx16_ hFx19_ ⟨?_, ?_, ?_, ?_, ?_, trivial⟩ (Nat.lt_succ_self _)
          · exact k4_
          · omega
          · refine ⟨y0_ :: y9_, x0_ :: x9_, l_, hVe_, ?_, by omega, by omega, by rw [t141_]; omega, w141_, (g_xo F_ G_ x0_ y0_).2, i_xor (g_xo F_ G_ x0_ y0_).1 1, x9_, y9_, [x0_], [y0_], e141_.1, rfl, rfl, ?_, ?_, rfl, rfl, fun z_ => by rw [e141_.2.1 z_], g_xo_le, rfl⟩
            · rw [xy_, show (S0_.1 1 0 6 - 1).toNat = ((x0_ :: x9_) :: l_).length by simp only [List.length_cons]; omega]; exact vy_.1
            · simp only [List.length_cons] at xy_; omega
            · rw [show (S0_.1 1 0 6 - 1).toNat = ((x0_ :: x9_) :: l_).length by simp only [List.length_cons]; omega, vy_.1, ← xy_]; simp only [List.length_cons]; push_cast; omega
          · (intro j9_; rw [f141_])
          · exact hDx21_
      · have cx8_ : ¬ (k_ ≠ 5) := of_decide_eq_false cx8_
        have k5_ : k_ = 5 := by omega
        refine sm_T_go 4 (c1 := (105, [some (.inr (.inr (some (1, 0)))), some (.inl k_), some (.inl (8 * (S0_.1 1 0 6) - 8)), some (.inl (8 * (S0_.1 1 0 6) - 16)), some (.inl (S0_.2.2.1 28 0 ((S0_.1 1 0 6) - 1).toNat)), none, none, none], [.inl (S0_.2.2.1 28 0 ((S0_.1 1 0 6) - 1).toNat), .inl (8 * (S0_.1 1 0 6) - 8), .inl (8 * (S0_.1 1 0 6) - 16), .inr (.inr (some (1, 0)))], sm_pI S0_ 1 0 6 ((S0_.1 1 0 6) - 1))) rfl ?_
        refine sm_T_cal (d1 := 3) (Q1 := vq_41 (8 * (S0_.1 1 0 6) - 16) (8 * (S0_.1 1 0 6) - 8) (S0_.2.2.1 28 0 ((S0_.1 1 0 6) - 1).toNat) dd_ F_ G_ x_ y_ (sm_pI S0_ 1 0 6 ((S0_.1 1 0 6) - 1))) rfl rfl (by decide) (vc_41 (8 * (S0_.1 1 0 6) - 16) (8 * (S0_.1 1 0 6) - 8) (S0_.2.2.1 28 0 ((S0_.1 1 0 6) - 1).toNat) dd_ F_ G_ x_ y_ (sm_pI S0_ 1 0 6 ((S0_.1 1 0 6) - 1)) hIx4_ (by exact hd_) (by exact cgl_fr (w_ := ([(1, 6)], [], [])) hg_ (ai_fr_pI rfl) rfl rfl rfl rfl rfl rfl rfl rfl) (by omega) (by (refine ⟨?_, xy_, lx8_⟩; have q9_ := vy_.1; rw [show (S0_.1 1 0 6 - 1).toNat = (x_ :: l_).length by simp only [List.length_cons]; omega]; rw [xy_]; exact q9_)) (by (intro z_; rw [show (8 * S0_.1 1 0 6 - 16).toNat = 8 * l_.length by omega, show (8 * S0_.1 1 0 6 - 8).toNat = 8 * (x_ :: l_).length by simp only [List.length_cons]; omega]; exact ⟨vy_.2.2.2.2.2.1 z_, vy_.2.2.1 z_⟩))) (fun u_ Sx24_ px27_ => ?_)
        obtain ⟨rfl, hIx25_, hFx26_, px27_⟩ := px27_
        have hFx28_ : ai_fr (sx_W vw_39) S0_ Sx24_ := ai_fr_tr hFx5_ (fr_le hFx26_ rfl)
        obtain ⟨dx30_, px27_⟩ := px27_
        have hDx29_ : idf dd_ S0_ Sx24_ := idf_tr hDx6_ dx30_
        have e105_ := px27_
        have t105_ : Sx24_.1 1 0 6 = S0_.1 1 0 6 - 1 := (hFx26_.1 1 0 6 rfl)
        have w105_ : ∀ j9_, Sx24_.2.2.1 28 0 j9_ = S0_.2.2.1 28 0 j9_ := fun j9_ => congrFun (fr_arr (t := 28) (i := 0) hFx26_ rfl) j9_
        have k5_ : k_ = 5 := by omega
        refine sm_T_go 1 (c1 := (294, [some (.inr (.inr (some (1, 0)))), some (.inl k_), some (.inl (8 * (S0_.1 1 0 6) - 8)), some (.inl (8 * (S0_.1 1 0 6) - 16)), some (.inl (S0_.2.2.1 28 0 ((S0_.1 1 0 6) - 1).toNat)), none, none, none], [], Sx24_)) rfl ?_
        refine sm_T_rv rfl ⟨_, _, rfl, rfl, hIx25_, hFx28_, ?_⟩
        refine ⟨hDx29_, ?_⟩
        first | exact hfin4 | exact hfin | (rw [er, k5_, g_op5]; refine ⟨e105_.1, by rw [t105_]; simp only [List.length_cons]; push_cast; omega, svl_tp (st_ := S0_.2.2.1 27 0) (wd_ := S0_.2.2.1 28 0) vy_.2.2.2.2.2.2 (fun z_ => Nat.le_trans (g_su_le x_ y_ G_ 0) z_) (fun j_ hj_ => e105_.2.2 j_ (Or.inl (by omega))) (fun j_ hj_ => by rw [w105_]) (by rw [w105_, g_su_ln x_ y_ G_ 0 xy_]; exact vy_.2.2.2.1) (by rw [g_su_ln x_ y_ G_ 0 xy_]; omega) (fun z_ => by have q9_ := e105_.2.1 z_; rw [show (8 * S0_.1 1 0 6 - 16).toNat = 8 * l_.length by omega] at q9_; exact q9_)⟩)
    · have cx2_ : ¬ (k_ ≠ 7) := of_decide_eq_false cx2_
      have hk_ : k_ = 7 := by omega
      obtain ⟨ve_, va_, c_, l_, hVe_, hl7_, er⟩ := e_op7 (show e_op F_ 7 G_ V_ = some r_ by rw [← hk_]; exact he_)
      have hV2_ : cstk G_ (ve_ :: va_ :: [c_] :: l_) S0_ := by rw [← hVe_]; exact hV_
      have tp_ : S0_.1 1 0 6 = (l_.length : Int) + 3 := by rw [hV2_.1]; simp only [List.length_cons]; push_cast; omega
      refine sm_T_go 1 (c1 := (57, [some (.inr (.inr (some (1, 0)))), some (.inl k_), none, none, none, none, none, none], [.inr (.inr (some (1, 0)))], S0_)) rfl ?_
      refine sm_T_cal (d1 := 3) (Q1 := vq_40 dd_ F_ G_ c_ va_ ve_ l_ S0_) rfl rfl (by decide) (vc_40 dd_ F_ G_ c_ va_ ve_ l_ S0_ hI_ (by exact hd_) (by exact hg_) (by exact tp_) (by exact hV2_.2) (by (have q9_ : S0_.1 1 0 6 ≤ 512 := (hI_.1 1 0 6 rfl).2); omega)) (fun u_ Sx31_ px34_ => ?_)
      obtain ⟨rfl, hIx32_, hFx33_, px34_⟩ := px34_
      have hFx35_ : ai_fr (sx_W vw_39) S0_ Sx31_ := ai_fr_tr hF_ (fr_le hFx33_ rfl)
      obtain ⟨dx37_, px34_⟩ := px34_
      have hDx36_ : idf dd_ S0_ Sx31_ := idf_tr hD_ dx37_
      have e57_ := px34_
      refine sm_T_rv rfl ⟨_, _, rfl, rfl, hIx32_, hFx35_, ?_⟩
      refine ⟨hDx36_, ?_⟩
      rw [er]
      exact e57_
  · have cx1_ : ¬ (k_ ≠ 6) := of_decide_eq_false cx1_
    have hk_ : k_ = 6 := by omega
    obtain ⟨x_, l_, hVe_, er⟩ := e_op6 (show e_op F_ 6 G_ V_ = some r_ by rw [← hk_]; exact he_)
    have hV2_ : cstk G_ (x_ :: l_) S0_ := by rw [← hVe_]; exact hV_
    have tp_ : S0_.1 1 0 6 = (l_.length : Int) + 1 := by rw [hV2_.1]; simp only [List.length_cons]; push_cast; omega
    have lx8_ : x_.length ≤ 8 := hV2_.2.2.1.2
    refine sm_T_go 2 (c1 := (8, [some (.inr (.inr (some (1, 0)))), some (.inl k_), some (.inl 0), none, none, none, none, none], [], S0_)) rfl ?_
    refine (vl_39 k_ dd_ F_ G_ V_ r_ S0_ hI0_ hd_ hg_ hV_ he_ _).1 0 S0_ hI_ hF_ ⟨?_, ?_, ?_, ?_, ?_, ?_, ?_, trivial⟩ (Nat.lt_succ_self _)
    · exact hk_
    · omega
    · rfl
    · exact ⟨x_, l_, x_, [], hVe_, hg_, rfl, by simp, rfl, fun z_ => hV2_.2.2.2.1 z_⟩
    · (intro j9_ hj_; rfl)
    · (intro j9_; rfl)
    · exact hD_
end
/-! 99.zb5a -/
section
/-! the class: loads; written by wip/p55/gen/vg -/

/-! loads -/
theorem e_ld11 {A_ : pA} {m_ a_ : Nat} {d_ : Int} {E_ : gE} {O_ : gO} {V_ W_ : gV} (h_ : e_ld A_ m_ 11 a_ d_ E_ O_ V_ = some W_) : ∃ x_ l_, V_ = x_ :: l_ ∧ a_ < x_.length ∧ W_ = [x_.getD a_ 0] :: l_ := by
  unfold e_ld at h_
  rw [if_pos rfl] at h_
  cases V_ with
  | nil => cases h_
  | cons x_ l_ =>
    have h_ : (if a_ < x_.length then some ([x_.getD a_ 0] :: l_) else none) = some W_ := h_
    split at h_
    · rename_i g_
      cases h_
      exact ⟨x_, l_, rfl, g_, rfl⟩
    · cases h_
theorem e_ld8 {A_ : pA} {m_ a_ : Nat} {d_ : Int} {E_ : gE} {O_ : gO} {V_ W_ : gV} (h_ : e_ld A_ m_ 8 a_ d_ E_ O_ V_ = some W_) : V_.length < 512 ∧ (1 ≤ a_ ∧ a_ ≤ 8) ∧ 0 ≤ d_ ∧ W_ = c_bt a_ d_ :: V_ := by
  unfold e_ld at h_
  rw [if_neg (by decide)] at h_
  split at h_
  · cases h_
  · rw [if_pos rfl] at h_
    split at h_
    · rename_i g1_ g_
      cases h_
      exact ⟨by omega, ⟨g_.1, g_.2.1⟩, g_.2.2, rfl⟩
    · cases h_
theorem e_ld9 {A_ : pA} {m_ a_ : Nat} {d_ : Int} {E_ : gE} {O_ : gO} {V_ W_ : gV} (h_ : e_ld A_ m_ 9 a_ d_ E_ O_ V_ = some W_) : V_.length < 512 ∧ a_ < A_.1 m_ ∧ (1 ≤ (E_ a_).length ∧ (E_ a_).length ≤ 8) ∧ ((E_ a_).length : Int) = A_.2.2.2.1 (40 * m_ + a_) ∧ W_ = E_ a_ :: V_ := by
  unfold e_ld at h_
  rw [if_neg (by decide)] at h_
  split at h_
  · cases h_
  · rw [if_neg (by decide), if_pos rfl] at h_
    split at h_
    · rename_i g1_ g_
      cases h_
      exact ⟨by omega, g_.1, ⟨g_.2.1, g_.2.2.1⟩, g_.2.2.2, rfl⟩
    · cases h_
theorem e_ldp {A_ : pA} {m_ a_ : Nat} {k_ d_ : Int} {E_ : gE} {O_ : gO} {V_ W_ : gV} (h_ : e_ld A_ m_ k_ a_ d_ E_ O_ V_ = some W_) (h11_ : k_ ≠ 11) (h8_ : k_ ≠ 8) (h9_ : k_ ≠ 9) : V_.length < 512 ∧ ∃ o_, O_ a_ = some o_ ∧ a_ < A_.1 m_ ∧ 0 ≤ d_ ∧ d_ < A_.1 (A_.2.2.2.2 (40 * m_ + a_)).toNat ∧ 0 ≤ A_.2.2.2.2 (40 * m_ + a_) ∧ A_.2.2.2.2 (40 * m_ + a_) < m_ ∧ (1 ≤ (o_ d_.toNat).length ∧ (o_ d_.toNat).length ≤ 8) ∧ ((o_ d_.toNat).length : Int) = A_.2.2.2.1 (40 * (A_.2.2.2.2 (40 * m_ + a_)).toNat + d_.toNat) ∧ W_ = o_ d_.toNat :: V_ := by
  unfold e_ld at h_
  rw [if_neg h11_] at h_
  by_cases g1_ : 512 ≤ V_.length
  · rw [if_pos g1_] at h_
    cases h_
  · rw [if_neg g1_, if_neg h8_, if_neg h9_] at h_
    by_cases g10_ : k_ = 10
    · rw [if_pos g10_] at h_
      cases ho_ : O_ a_ with
      | none => rw [ho_] at h_; cases h_
      | some o_ =>
        rw [ho_] at h_
        have h_ : (if a_ < A_.1 m_ ∧ 0 ≤ d_ ∧ d_ < A_.1 (A_.2.2.2.2 (40 * m_ + a_)).toNat ∧ 0 ≤ A_.2.2.2.2 (40 * m_ + a_) ∧ A_.2.2.2.2 (40 * m_ + a_) < m_ ∧ 1 ≤ (o_ d_.toNat).length ∧ (o_ d_.toNat).length ≤ 8 ∧ ((o_ d_.toNat).length : Int) = A_.2.2.2.1 (40 * (A_.2.2.2.2 (40 * m_ + a_)).toNat + d_.toNat) then some (o_ d_.toNat :: V_) else none) = some W_ := h_
        split at h_
        · rename_i g_
          cases h_
          exact ⟨by omega, o_, rfl, g_.1, g_.2.1, g_.2.2.1, g_.2.2.2.1, g_.2.2.2.2.1, ⟨g_.2.2.2.2.2.1, g_.2.2.2.2.2.2.1⟩, g_.2.2.2.2.2.2.2, rfl⟩
        · cases h_
    · rw [if_neg g10_] at h_
      cases h_
theorem ld_st {S0_ : sm_S} {k_ p_ q_ : Nat} {z_ t_ : Int} : (sm_pI (sm_acI (sm_aI S0_ 28 0 k_ z_) 26 0 27 0 p_ q_ 8) 1 0 6 t_).2.2.1 27 0 = sm_cp (S0_.2.2.1 26 0) (S0_.2.2.1 27 0) p_ q_ 8 := by
  show (sm_acI (sm_aI S0_ 28 0 k_ z_) 26 0 27 0 p_ q_ 8).2.2.1 27 0 = _
  rw [sm_acI_at]
  have e1_ : (sm_aI S0_ 28 0 k_ z_).2.2.1 26 0 = S0_.2.2.1 26 0 := funext fun j_ => rd_ne (by decide)
  have e2_ : (sm_aI S0_ 28 0 k_ z_).2.2.1 27 0 = S0_.2.2.1 27 0 := funext fun j_ => rd_ne (by decide)
  rw [e1_, e2_]
theorem ld_wd {S0_ : sm_S} {k_ p_ q_ j_ : Nat} {z_ t_ : Int} : (sm_pI (sm_acI (sm_aI S0_ 28 0 k_ z_) 26 0 27 0 p_ q_ 8) 1 0 6 t_).2.2.1 28 0 j_ = if j_ = k_ then z_ else S0_.2.2.1 28 0 j_ := by
  show (sm_acI (sm_aI S0_ 28 0 k_ z_) 26 0 27 0 p_ q_ 8).2.2.1 28 0 j_ = _
  rw [sm_acI_ne (by decide), rd_eq]
theorem ld_go {G_ : pGr} {V_ : gV} {v_ : List Int} {S0_ : sm_S} {k_ p_ q_ : Nat} {z_ t_ : Int} (hV_ : cstk G_ V_ S0_) (hk_ : k_ = V_.length) (hq_ : q_ = 8 * V_.length) (hz_ : z_ = (v_.length : Int)) (ht_ : t_ = (V_.length : Int) + 1) (hv_ : 1 ≤ v_.length ∧ v_.length ≤ 8) (hr_ : rwv (S0_.2.2.1 26 0) p_ v_) : cstk G_ (v_ :: V_) (sm_pI (sm_acI (sm_aI S0_ 28 0 k_ z_) 26 0 27 0 p_ q_ 8) 1 0 6 t_) := by
  refine ⟨?_, svl_tp hV_.2 (fun z_ => z_) (fun j_ hj_ => ?_) (fun j_ hj_ => ?_) ?_ hv_ (fun _ => ?_)⟩
  · rw [rf_eq, ht_, List.length_cons]
    push_cast
    rfl
  · rw [ld_st, sm_cp_o (by omega)]
  · rw [ld_wd, if_neg (by omega)]
  · rw [ld_wd, if_pos hk_.symm, hz_]
  · rw [ld_st, hq_]
    exact rwv_cp hr_ hv_.2
end
/-! 99.zb5b -/
section
/-! Builder.cellOf -/
def vw_35 : sx_Wl := ([], [], [])
def vq_35 (f_ : Int) (s_ : Int) (S0_ : sm_S) (u_ : Option sm_V) (S1_ : sm_S) : Prop := S0_ = S1_ ∧ ∃ v_ : Int, u_ = some (.inl v_) ∧ (v_ = 8 * (40 * f_ + s_))
set_option maxHeartbeats 400000 in
theorem vc_35 {sc_ : Nat × (Nat → Int)} (f_ : Int) (s_ : Int) (S0_ : sm_S) (hI_ : gi S0_) (hf_ : 0 ≤ f_ ∧ f_ ≤ 100000) (hs_ : 0 ≤ s_ ∧ s_ ≤ 100000) : sm_T (mt_P sc_) 0 35 (0, [some (.inl f_), some (.inl s_)], [], S0_) (fun ro9_ => ∃ u_ S1_, ro9_ = (.inl u_, S1_, 0) ∧ vq_35 f_ s_ S0_ u_ S1_) := by
  have hF_ : ai_fr (sx_W vw_35) S0_ S0_ := ai_fr_rf
  refine sm_T_go 2 (c1 := (3, [some (.inl f_), some (.inl s_)], [.inl 40, .inl f_], S0_)) rfl ?_
  refine sm_T_bin (w := 40 * f_) rfl (bi_mul (by omega) (by omega) (by omega)) ?_
  refine sm_T_go 1 (c1 := (5, [some (.inl f_), some (.inl s_)], [.inl s_, .inl (40 * f_)], S0_)) rfl ?_
  refine sm_T_bin (w := 40 * f_ + s_) rfl (bi_add (by omega) (by omega) (by omega)) ?_
  refine sm_T_go 1 (c1 := (8, [some (.inl f_), some (.inl s_)], [.inl 8, .inl (40 * f_ + s_)], S0_)) rfl ?_
  refine sm_T_bin (w := 320 * f_ + 8 * s_) rfl (bi_mul (by omega) (by omega) (by omega)) ?_
  refine sm_T_ri rfl ⟨_, _, rfl, rfl, _, rfl, ?_⟩
  omega
end
/-! 99.zb5c -/
section
/-! Builder.load -/
def vw_37 : sx_Wl := ([(1, 6)], [27, 28], [])
def vq_37 (k_ : Int) (m_ : Int) (f_ : Int) (a_ : Int) (d_ : Int) (tb_ : Nat → Int) (tn_ : Nat) (A_ : pA) (mm_ : Nat) (ff_ : Nat) (aa_ : Nat) (G_ : pGr) (E_ : gE) (O_ : gO) (V_ : gV) (V1_ : gV) (fc0_ : Nat) (fc_ : Nat) (S0_ : sm_S) (u_ : Option sm_V) (S1_ : sm_S) : Prop := u_ = none ∧ gi S1_ ∧ ai_fr (sx_W vw_37) S0_ S1_ ∧ (cstk G_ V1_ S1_)
set_option maxHeartbeats 1500000 in
set_option maxRecDepth 20000 in
theorem vl_37 {sc_ : Nat × (Nat → Int)} (k_ : Int) (m_ : Int) (f_ : Int) (a_ : Int) (d_ : Int) (tb_ : Nat → Int) (tn_ : Nat) (A_ : pA) (mm_ : Nat) (ff_ : Nat) (aa_ : Nat) (G_ : pGr) (E_ : gE) (O_ : gO) (V_ : gV) (V1_ : gV) (fc0_ : Nat) (fc_ : Nat) (S0_ : sm_S) (hI0_ : gi S0_) (hk0_ : 8 ≤ k_ ∧ k_ ≤ 11) (hd0_ : 0 ≤ d_ ∧ d_ ≤ 1048576) (hm1_ : m_ = (mm_ : Int) ∧ mm_ ≤ 15) (hf1_ : f_ = (ff_ : Int) ∧ ff_ < fc0_ ∧ fc0_ ≤ fc_ ∧ fc_ ≤ 201) (ha1_ : a_ = (aa_ : Int) ∧ aa_ ≤ 63) (her_ : ∀ k9_, k9_ ≤ mm_ → er1 tb_ tn_ A_ k9_ S0_) (hA_ : a_ok tb_ tn_ A_ mm_) (hfr_ : cfr ff_ fc0_ fc_ E_ O_ (S0_.2.2.1 26 0)) (hV_ : cstk G_ V_ S0_) (hok_ : G_.length ≤ 1000) (he_ : e_ld A_ mm_ k_ aa_ d_ E_ O_ V_ = some V1_) : ∀ nn_ : Nat, (∀ (ap_ : Int) (sy_ : Int) (j_ : Int) (S_ : sm_S), gi S_ → ai_fr (sx_W vw_37) S0_ S_ → ((k_ = 8) ∧ (0 ≤ j_ ∧ j_ ≤ a_ ∧ ap_ = 8 * (V_.length : Int)) ∧ ((S_.1 1 0 6) = (V_.length : Int)) ∧ (∀ j9_, S_.2.2.1 28 0 j9_ = if j9_ = V_.length then a_ else S0_.2.2.1 28 0 j9_) ∧ (rwv (S_.2.2.1 27 0) (8 * V_.length) (c_bt j_.toNat d_)) ∧ (∀ j9_, j9_ < 8 * V_.length → S_.2.2.1 27 0 j9_ = S0_.2.2.1 27 0 j9_) ∧ True) → ((a_ - j_).toNat) < nn_ → sm_T (mt_P sc_) 1 37 (88, [some (.inr (.inr (some (1, 0)))), some (.inl k_), some (.inl m_), some (.inl f_), some (.inl a_), some (.inl d_), some (.inl ap_), some (.inl sy_), some (.inl j_)], [], S_) (fun ro9_ => ∃ u_ S1_, ro9_ = (.inl u_, S1_, 0) ∧ vq_37 k_ m_ f_ a_ d_ tb_ tn_ A_ mm_ ff_ aa_ G_ E_ O_ V_ V1_ fc0_ fc_ S0_ u_ S1_)) := by
  intro nn_
  induction nn_ with
  | zero => exact fun _ _ _ _ _ _ _ h_ => absurd h_ (Nat.not_lt_zero _)
  | succ nn_ ih_ =>
    rintro ap_ sy_ j_ S_ hI_ hF_ ⟨hk_, h0_, ht1_, hw_, h1_, h2_, -⟩ hm_
    obtain ⟨v5_, ha8_, d0_, eV_⟩ := e_ld8 (show e_ld A_ mm_ 8 aa_ d_ E_ O_ V_ = some V1_ by rw [← hk_]; exact he_)
    refine sm_T_go 2 (c1 := (92, [some (.inr (.inr (some (1, 0)))), some (.inl k_), some (.inl m_), some (.inl f_), some (.inl a_), some (.inl d_), some (.inl ap_), some (.inl sy_), some (.inl j_)], [.inl a_, .inl j_], S_)) rfl ?_
    refine sm_T_br (a := 3) (z := 26) rfl (fun cx1_ => ?_) (fun cx1_ => ?_)
    · have cx1_ : a_ ≤ j_ := of_decide_eq_true cx1_
      have hfin : cstk G_ V1_ (sm_pI S_ 1 0 6 (S_.1 1 0 6 + 1)) := by rw [eV_]; refine ⟨?_, svl_tp hV_.2 (fun z_ => z_) (fun j9_ hj_ => h2_ j9_ hj_) (fun j9_ hj_ => ?_) ?_ (by rw [c_bt_l]; omega) (fun _ => ?_)⟩; (rw [rf_eq, ht1_, List.length_cons]; push_cast; rfl); (show S_.2.2.1 28 0 j9_ = _; rw [hw_, if_neg (by omega)]); (show S_.2.2.1 28 0 V_.length = _; rw [hw_, if_pos rfl, c_bt_l]; omega); (have q9_ := h1_; rw [show j_.toNat = aa_ by omega] at q9_; exact q9_)
      have bx2_ : 0 ≤ S_.1 1 0 6 ∧ S_.1 1 0 6 ≤ 512 := hI_.1 1 0 6 rfl
      refine sm_T_go 5 (c1 := (240, [some (.inr (.inr (some (1, 0)))), some (.inl k_), some (.inl m_), some (.inl f_), some (.inl a_), some (.inl d_), some (.inl ap_), some (.inl sy_), some (.inl j_)], [.inl 1, .inl (S_.1 1 0 6), .inr (.inr (some (1, 0)))], S_)) rfl ?_
      refine sm_T_bin (w := (S_.1 1 0 6) + 1) rfl (bi_add (by omega) (by omega) (by omega)) ?_
      have hIx3_ : gi (sm_pI S_ 1 0 6 ((S_.1 1 0 6) + 1)) := gi_pI hI_ (show 0 ≤ (S_.1 1 0 6) + 1 ∧ (S_.1 1 0 6) + 1 ≤ 512 from ⟨by omega, by omega⟩)
      have hFx4_ : ai_fr (sx_W vw_37) S0_ (sm_pI S_ 1 0 6 ((S_.1 1 0 6) + 1)) := ai_fr_tr hF_ (ai_fr_pI rfl)
      refine sm_T_go 1 (c1 := (244, [some (.inr (.inr (some (1, 0)))), some (.inl k_), some (.inl m_), some (.inl f_), some (.inl a_), some (.inl d_), some (.inl ap_), some (.inl sy_), some (.inl j_)], [], sm_pI S_ 1 0 6 ((S_.1 1 0 6) + 1))) rfl ?_
      refine sm_T_rv rfl ⟨_, _, rfl, rfl, hIx3_, hFx4_, ?_⟩
      first | exact hfin | (rw [eV_]; exact ld_go hV_ (by omega) (by omega) (by omega) (by omega) l8_ (by first | (rw [e153_, show (8 * (40 * f_ + a_)).toNat = 8 * (40 * ff_ + aa_) by omega]; exact (hfr_.1 aa_ (by omega)).1) | (rw [e220_, pt2_, show (8 * (40 * (P_ aa_ : Int) + d_)).toNat = 8 * (40 * P_ aa_ + d_.toNat) by omega]; exact (yP_.2.2.2 d_.toNat (by omega)).1)))
    · have cx1_ : ¬ (a_ ≤ j_) := of_decide_eq_false cx1_
      refine sm_T_go 4 (c1 := (103, [some (.inr (.inr (some (1, 0)))), some (.inl k_), some (.inl m_), some (.inl f_), some (.inl a_), some (.inl d_), some (.inl ap_), some (.inl sy_), some (.inl j_)], [.inl j_, .inl ap_, .inr (.inr (some (27, 0)))], S_)) rfl ?_
      refine sm_T_bin (w := ap_ + j_) rfl (bi_add (by omega) (by omega) (by omega)) ?_
      refine sm_T_go 2 (c1 := (108, [some (.inr (.inr (some (1, 0)))), some (.inl k_), some (.inl m_), some (.inl f_), some (.inl a_), some (.inl d_), some (.inl ap_), some (.inl sy_), some (.inl j_)], [.inl j_, .inl d_, .inl (ap_ + j_), .inr (.inr (some (27, 0)))], S_)) rfl ?_
      refine sm_T_bin (w := (i_shr d_ j_)) rfl rfl ?_
      refine sm_T_go 1 (c1 := (110, [some (.inr (.inr (some (1, 0)))), some (.inl k_), some (.inl m_), some (.inl f_), some (.inl a_), some (.inl d_), some (.inl ap_), some (.inl sy_), some (.inl j_)], [.inl 1, .inl (i_shr d_ j_), .inl (ap_ + j_), .inr (.inr (some (27, 0)))], S_)) rfl ?_
      refine sm_T_bin (w := ((i_shr d_ j_) % 2)) rfl (bi_msk (k := 1) (by decide)) ?_
      refine sm_T_iast (n := 4096) rfl rfl (by omega) (by omega) ?_
      have hIx5_ : gi (sm_aI S_ 27 0 (ap_ + j_).toNat ((i_shr d_ j_) % 2)) := gi_aI hI_ (show 0 ≤ ((i_shr d_ j_) % 2) ∧ ((i_shr d_ j_) % 2) ≤ 2025 from ⟨by omega, by omega⟩)
      have hFx6_ : ai_fr (sx_W vw_37) S0_ (sm_aI S_ 27 0 (ap_ + j_).toNat ((i_shr d_ j_) % 2)) := ai_fr_tr hF_ (ai_fr_aI rfl)
      refine sm_T_inc (a := 8) (z := 1) (v := j_) (w := j_ + 1) rfl rfl (by omega) (by omega) (by omega) ?_
      refine sm_T_go 1 (c1 := (88, [some (.inr (.inr (some (1, 0)))), some (.inl k_), some (.inl m_), some (.inl f_), some (.inl a_), some (.inl d_), some (.inl ap_), some (.inl sy_), some (.inl (j_ + 1))], [], sm_aI S_ 27 0 (ap_ + j_).toNat ((i_shr d_ j_) % 2))) rfl ?_
      refine ih_ ap_ sy_ (j_ + 1) (sm_aI S_ 27 0 (ap_ + j_).toNat ((i_shr d_ j_) % 2)) hIx5_ hFx6_ ⟨?_, ?_, ?_, ?_, ?_, ?_, trivial⟩ ?_
      · exact hk_
      · omega
      · exact ht1_
      · (intro j9_; rw [rd_ne (by decide)]; exact hw_ j9_)
      · rw [show (j_ + 1).toNat = j_.toNat + 1 by omega, c_bt_s]
        exact rwv_ap (q_ := (ap_ + j_).toNat) h1_ (by rw [c_bt_l]; omega) (fun j9_ => by rw [rd_eq, show ((j_.toNat : Nat) : Int) = j_ by omega])
      · (intro j9_ hj_; rw [rd_eq, if_neg (by omega)]; exact h2_ j9_ hj_)
      · omega
set_option maxHeartbeats 1500000 in
set_option maxRecDepth 20000 in
theorem vc_37 {sc_ : Nat × (Nat → Int)} (k_ : Int) (m_ : Int) (f_ : Int) (a_ : Int) (d_ : Int) (tb_ : Nat → Int) (tn_ : Nat) (A_ : pA) (mm_ : Nat) (ff_ : Nat) (aa_ : Nat) (G_ : pGr) (E_ : gE) (O_ : gO) (V_ : gV) (V1_ : gV) (fc0_ : Nat) (fc_ : Nat) (S0_ : sm_S) (hI_ : gi S0_) (hI0_ : gi S0_) (hk0_ : 8 ≤ k_ ∧ k_ ≤ 11) (hd0_ : 0 ≤ d_ ∧ d_ ≤ 1048576) (hm1_ : m_ = (mm_ : Int) ∧ mm_ ≤ 15) (hf1_ : f_ = (ff_ : Int) ∧ ff_ < fc0_ ∧ fc0_ ≤ fc_ ∧ fc_ ≤ 201) (ha1_ : a_ = (aa_ : Int) ∧ aa_ ≤ 63) (her_ : ∀ k9_, k9_ ≤ mm_ → er1 tb_ tn_ A_ k9_ S0_) (hA_ : a_ok tb_ tn_ A_ mm_) (hfr_ : cfr ff_ fc0_ fc_ E_ O_ (S0_.2.2.1 26 0)) (hV_ : cstk G_ V_ S0_) (hok_ : G_.length ≤ 1000) (he_ : e_ld A_ mm_ k_ aa_ d_ E_ O_ V_ = some V1_) : sm_T (mt_P sc_) 1 37 (0, [some (.inr (.inr (some (1, 0)))), some (.inl k_), some (.inl m_), some (.inl f_), some (.inl a_), some (.inl d_), none, none, none], [], S0_) (fun ro9_ => ∃ u_ S1_, ro9_ = (.inl u_, S1_, 0) ∧ vq_37 k_ m_ f_ a_ d_ tb_ tn_ A_ mm_ ff_ aa_ G_ E_ O_ V_ V1_ fc0_ fc_ S0_ u_ S1_) := by
  have hF_ : ai_fr (sx_W vw_37) S0_ S0_ := ai_fr_rf
  have tp9_ := hV_.1
  have tq9_ : S0_.1 1 0 6 ≤ 512 := (hI0_.1 1 0 6 rfl).2
  refine sm_T_go 2 (c1 := (3, [some (.inr (.inr (some (1, 0)))), some (.inl k_), some (.inl m_), some (.inl f_), some (.inl a_), some (.inl d_), none, none, none], [.inl 11, .inl k_], S0_)) rfl ?_
  refine sm_T_br (a := 1) (z := 47) rfl (fun cx1_ => ?_) (fun cx1_ => ?_)
  · have cx1_ : k_ ≠ 11 := of_decide_eq_true cx1_
    have bx2_ : 0 ≤ S0_.1 1 0 6 ∧ S0_.1 1 0 6 ≤ 512 := hI_.1 1 0 6 rfl
    refine sm_T_go 3 (c1 := (56, [some (.inr (.inr (some (1, 0)))), some (.inl k_), some (.inl m_), some (.inl f_), some (.inl a_), some (.inl d_), none, none, none], [.inl 8, .inl (S0_.1 1 0 6)], S0_)) rfl ?_
    refine sm_T_bin (w := 8 * (S0_.1 1 0 6)) rfl (bi_mul (by omega) (by omega) (by omega)) ?_
    refine sm_T_go 3 (c1 := (62, [some (.inr (.inr (some (1, 0)))), some (.inl k_), some (.inl m_), some (.inl f_), some (.inl a_), some (.inl d_), some (.inl (8 * (S0_.1 1 0 6))), none, none], [.inl 40, .inl m_], S0_)) rfl ?_
    refine sm_T_bin (w := 40 * m_) rfl (bi_mul (by omega) (by omega) (by omega)) ?_
    refine sm_T_go 1 (c1 := (65, [some (.inr (.inr (some (1, 0)))), some (.inl k_), some (.inl m_), some (.inl f_), some (.inl a_), some (.inl d_), some (.inl (8 * (S0_.1 1 0 6))), none, none], [.inl a_, .inl (40 * m_)], S0_)) rfl ?_
    refine sm_T_bin (w := 40 * m_ + a_) rfl (bi_add (by omega) (by omega) (by omega)) ?_
    refine sm_T_go 3 (c1 := (71, [some (.inr (.inr (some (1, 0)))), some (.inl k_), some (.inl m_), some (.inl f_), some (.inl a_), some (.inl d_), some (.inl (8 * (S0_.1 1 0 6))), some (.inl (40 * m_ + a_)), none], [.inl 8, .inl k_], S0_)) rfl ?_
    refine sm_T_br (a := 1) (z := 50) rfl (fun cx3_ => ?_) (fun cx3_ => ?_)
    · have cx3_ : k_ ≠ 8 := of_decide_eq_true cx3_
      refine sm_T_go 2 (c1 := (124, [some (.inr (.inr (some (1, 0)))), some (.inl k_), some (.inl m_), some (.inl f_), some (.inl a_), some (.inl d_), some (.inl (8 * (S0_.1 1 0 6))), some (.inl (40 * m_ + a_)), none], [.inl 9, .inl k_], S0_)) rfl ?_
      refine sm_T_br (a := 1) (z := 46) rfl (fun cx4_ => ?_) (fun cx4_ => ?_)
      · have cx4_ : k_ ≠ 9 := of_decide_eq_true cx4_
        obtain ⟨v5_, o_, hO_, aM_, d0_, dM_, q0_, qm_, l8_, lw_, eV_⟩ := e_ldp he_ (by omega) (by omega) (by omega)
        have A40_ := (hA_.2 mm_ (Nat.le_refl _)).1
        have w80_ : S0_.2.2.1 80 0 (40 * m_ + a_).toNat = A_.2.2.2.1 (40 * mm_ + aa_) ∧ S0_.2.2.1 81 0 (40 * m_ + a_).toNat = A_.2.2.2.2 (40 * mm_ + aa_) := by rw [show (40 * m_ + a_).toNat = 40 * mm_ + aa_ by omega]; exact ((her_ mm_ (Nat.le_refl _)).2 aa_ (by omega)).2.2
        obtain ⟨xE_, P_, xP_⟩ := id hfr_
        have yP_ := xP_ aa_ (by omega) o_ hO_
        have y2_ := yP_.2.1
        have D40_ := (hA_.2 (A_.2.2.2.2 (40 * mm_ + aa_)).toNat (by omega)).1
        have pt_ : S0_.2.2.1 26 0 (8 * (40 * f_ + a_)).toNat = (P_ aa_ : Int) := by rw [show (8 * (40 * f_ + a_)).toNat = 8 * (40 * ff_ + aa_) by omega]; exact yP_.1
        have w82_ : S0_.2.2.1 80 0 (40 * (S0_.2.2.1 81 0 (40 * m_ + a_).toNat) + d_).toNat = A_.2.2.2.1 (40 * (A_.2.2.2.2 (40 * mm_ + aa_)).toNat + d_.toNat) := by rw [w80_.2, show (40 * A_.2.2.2.2 (40 * mm_ + aa_) + d_).toNat = 40 * (A_.2.2.2.2 (40 * mm_ + aa_)).toNat + d_.toNat by omega]; exact ((her_ (A_.2.2.2.2 (40 * mm_ + aa_)).toNat (by omega)).2 d_.toNat (by omega)).2.2.1
        refine sm_T_go 11 (c1 := (194, [some (.inr (.inr (some (1, 0)))), some (.inl k_), some (.inl m_), some (.inl f_), some (.inl a_), some (.inl d_), some (.inl (8 * (S0_.1 1 0 6))), some (.inl (40 * m_ + a_)), none], [.inl (40 * m_ + a_), .inr (.inr (some (81, 0))), .inr (.inr (some (80, 0))), .inl (S0_.1 1 0 6), .inr (.inr (some (28, 0)))], S0_)) rfl ?_
        refine sm_T_iald (n := 640) rfl rfl (by omega) (by omega) ?_
        have bx5_ : 0 ≤ S0_.2.2.1 81 0 (40 * m_ + a_).toNat ∧ S0_.2.2.1 81 0 (40 * m_ + a_).toNat ≤ 255 := hI_.2 81 0 _
        refine sm_T_go 1 (c1 := (197, [some (.inr (.inr (some (1, 0)))), some (.inl k_), some (.inl m_), some (.inl f_), some (.inl a_), some (.inl d_), some (.inl (8 * (S0_.1 1 0 6))), some (.inl (40 * m_ + a_)), none], [.inl 40, .inl (S0_.2.2.1 81 0 (40 * m_ + a_).toNat), .inr (.inr (some (80, 0))), .inl (S0_.1 1 0 6), .inr (.inr (some (28, 0)))], S0_)) rfl ?_
        refine sm_T_bin (w := 40 * (S0_.2.2.1 81 0 (40 * m_ + a_).toNat)) rfl (bi_mul (by omega) (by omega) (by omega)) ?_
        refine sm_T_go 1 (c1 := (200, [some (.inr (.inr (some (1, 0)))), some (.inl k_), some (.inl m_), some (.inl f_), some (.inl a_), some (.inl d_), some (.inl (8 * (S0_.1 1 0 6))), some (.inl (40 * m_ + a_)), none], [.inl d_, .inl (40 * (S0_.2.2.1 81 0 (40 * m_ + a_).toNat)), .inr (.inr (some (80, 0))), .inl (S0_.1 1 0 6), .inr (.inr (some (28, 0)))], S0_)) rfl ?_
        refine sm_T_bin (w := 40 * (S0_.2.2.1 81 0 (40 * m_ + a_).toNat) + d_) rfl (bi_add (by omega) (by omega) (by omega)) ?_
        refine sm_T_iald (n := 640) rfl rfl (by omega) (by omega) ?_
        have bx6_ : 0 ≤ S0_.2.2.1 80 0 (40 * (S0_.2.2.1 81 0 (40 * m_ + a_).toNat) + d_).toNat ∧ S0_.2.2.1 80 0 (40 * (S0_.2.2.1 81 0 (40 * m_ + a_).toNat) + d_).toNat ≤ 8 := hI_.2 80 0 _
        refine sm_T_iast (n := 512) rfl rfl (by omega) (by omega) ?_
        have hIx7_ : gi (sm_aI S0_ 28 0 (S0_.1 1 0 6).toNat (S0_.2.2.1 80 0 (40 * (S0_.2.2.1 81 0 (40 * m_ + a_).toNat) + d_).toNat)) := gi_aI hI_ (show 0 ≤ (S0_.2.2.1 80 0 (40 * (S0_.2.2.1 81 0 (40 * m_ + a_).toNat) + d_).toNat) ∧ (S0_.2.2.1 80 0 (40 * (S0_.2.2.1 81 0 (40 * m_ + a_).toNat) + d_).toNat) ≤ 8 from ⟨by omega, by omega⟩)
        have hFx8_ : ai_fr (sx_W vw_37) S0_ (sm_aI S0_ 28 0 (S0_.1 1 0 6).toNat (S0_.2.2.1 80 0 (40 * (S0_.2.2.1 81 0 (40 * m_ + a_).toNat) + d_).toNat)) := ai_fr_tr hF_ (ai_fr_aI rfl)
        refine sm_T_go 6 (c1 := (214, [some (.inr (.inr (some (1, 0)))), some (.inl k_), some (.inl m_), some (.inl f_), some (.inl a_), some (.inl d_), some (.inl (8 * (S0_.1 1 0 6))), some (.inl (40 * m_ + a_)), none], [.inl a_, .inl f_, .inr (.inr (some (26, 0))), .inr (.inr (some (26, 0)))], sm_aI S0_ 28 0 (S0_.1 1 0 6).toNat (S0_.2.2.1 80 0 (40 * (S0_.2.2.1 81 0 (40 * m_ + a_).toNat) + d_).toNat))) rfl ?_
        refine sm_T_cal (d1 := 0) (Q1 := vq_35 f_ a_ (sm_aI S0_ 28 0 (S0_.1 1 0 6).toNat (S0_.2.2.1 80 0 (40 * (S0_.2.2.1 81 0 (40 * m_ + a_).toNat) + d_).toNat))) rfl rfl (by decide) (vc_35 f_ a_ (sm_aI S0_ 28 0 (S0_.1 1 0 6).toNat (S0_.2.2.1 80 0 (40 * (S0_.2.2.1 81 0 (40 * m_ + a_).toNat) + d_).toNat)) hIx7_ (by omega) (by omega)) (fun u_ Sx9_ px12_ => ?_)
        obtain ⟨rfl, vx14_, rfl, px12_⟩ := px12_
        have e214_ := px12_
        have pt2_ : S0_.2.2.1 26 0 vx14_.toNat = (P_ aa_ : Int) := by rw [e214_]; exact pt_
        refine sm_T_iald (n := 64320) rfl rfl (by omega) (by omega) ?_
        have bx15_ : 0 ≤ S0_.2.2.1 26 0 vx14_.toNat ∧ S0_.2.2.1 26 0 vx14_.toNat ≤ 2025 := hI_.2 26 0 _
        refine sm_T_go 1 (c1 := (220, [some (.inr (.inr (some (1, 0)))), some (.inl k_), some (.inl m_), some (.inl f_), some (.inl a_), some (.inl d_), some (.inl (8 * (S0_.1 1 0 6))), some (.inl (40 * m_ + a_)), none], [.inl d_, .inl (S0_.2.2.1 26 0 vx14_.toNat), .inr (.inr (some (26, 0)))], sm_aI S0_ 28 0 (S0_.1 1 0 6).toNat (S0_.2.2.1 80 0 (40 * (S0_.2.2.1 81 0 (40 * m_ + a_).toNat) + d_).toNat))) rfl ?_
        refine sm_T_cal (d1 := 0) (Q1 := vq_35 (S0_.2.2.1 26 0 vx14_.toNat) d_ (sm_aI S0_ 28 0 (S0_.1 1 0 6).toNat (S0_.2.2.1 80 0 (40 * (S0_.2.2.1 81 0 (40 * m_ + a_).toNat) + d_).toNat))) rfl rfl (by decide) (vc_35 (S0_.2.2.1 26 0 vx14_.toNat) d_ (sm_aI S0_ 28 0 (S0_.1 1 0 6).toNat (S0_.2.2.1 80 0 (40 * (S0_.2.2.1 81 0 (40 * m_ + a_).toNat) + d_).toNat)) hIx7_ (by omega) (by omega)) (fun u_ Sx16_ px19_ => ?_)
        obtain ⟨rfl, vx21_, rfl, px19_⟩ := px19_
        have e220_ := px19_
        refine sm_T_go 4 (c1 := (231, [some (.inr (.inr (some (1, 0)))), some (.inl k_), some (.inl m_), some (.inl f_), some (.inl a_), some (.inl d_), some (.inl (8 * (S0_.1 1 0 6))), some (.inl (40 * m_ + a_)), none], [.inl 8, .inl (8 * (S0_.1 1 0 6)), .inr (.inr (some (27, 0))), .inl vx21_, .inr (.inr (some (26, 0)))], sm_aI S0_ 28 0 (S0_.1 1 0 6).toNat (S0_.2.2.1 80 0 (40 * (S0_.2.2.1 81 0 (40 * m_ + a_).toNat) + d_).toNat))) rfl ?_
        refine sm_T_nt (u := none) (S1 := sm_acI (sm_aI S0_ 28 0 (S0_.1 1 0 6).toNat (S0_.2.2.1 80 0 (40 * (S0_.2.2.1 81 0 (40 * m_ + a_).toNat) + d_).toNat)) 26 0 27 0 vx21_.toNat (8 * (S0_.1 1 0 6)).toNat (8 : Int).toNat) rfl rfl (nt_acI (sc := sc_) (n := 64320) (n1 := 4096) rfl rfl (by omega) (by omega) (by omega) (by omega) (by omega)) ?_
        have hIx22_ : gi (sm_acI (sm_aI S0_ 28 0 (S0_.1 1 0 6).toNat (S0_.2.2.1 80 0 (40 * (S0_.2.2.1 81 0 (40 * m_ + a_).toNat) + d_).toNat)) 26 0 27 0 vx21_.toNat (8 * (S0_.1 1 0 6)).toNat (8 : Int).toNat) := gi_ac hIx7_ (by decide) (by decide)
        have hFx23_ : ai_fr (sx_W vw_37) S0_ (sm_acI (sm_aI S0_ 28 0 (S0_.1 1 0 6).toNat (S0_.2.2.1 80 0 (40 * (S0_.2.2.1 81 0 (40 * m_ + a_).toNat) + d_).toNat)) 26 0 27 0 vx21_.toNat (8 * (S0_.1 1 0 6)).toNat (8 : Int).toNat) := ai_fr_tr hFx8_ (fr_ac rfl)
        refine sm_T_go 4 (c1 := (240, [some (.inr (.inr (some (1, 0)))), some (.inl k_), some (.inl m_), some (.inl f_), some (.inl a_), some (.inl d_), some (.inl (8 * (S0_.1 1 0 6))), some (.inl (40 * m_ + a_)), none], [.inl 1, .inl (S0_.1 1 0 6), .inr (.inr (some (1, 0)))], sm_acI (sm_aI S0_ 28 0 (S0_.1 1 0 6).toNat (S0_.2.2.1 80 0 (40 * (S0_.2.2.1 81 0 (40 * m_ + a_).toNat) + d_).toNat)) 26 0 27 0 vx21_.toNat (8 * (S0_.1 1 0 6)).toNat (8 : Int).toNat)) rfl ?_
        refine sm_T_bin (w := (S0_.1 1 0 6) + 1) rfl (bi_add (by omega) (by omega) (by omega)) ?_
        have hIx24_ : gi (sm_pI (sm_acI (sm_aI S0_ 28 0 (S0_.1 1 0 6).toNat (S0_.2.2.1 80 0 (40 * (S0_.2.2.1 81 0 (40 * m_ + a_).toNat) + d_).toNat)) 26 0 27 0 vx21_.toNat (8 * (S0_.1 1 0 6)).toNat (8 : Int).toNat) 1 0 6 ((S0_.1 1 0 6) + 1)) := gi_pI hIx22_ (show 0 ≤ (S0_.1 1 0 6) + 1 ∧ (S0_.1 1 0 6) + 1 ≤ 512 from ⟨by omega, by omega⟩)
        have hFx25_ : ai_fr (sx_W vw_37) S0_ (sm_pI (sm_acI (sm_aI S0_ 28 0 (S0_.1 1 0 6).toNat (S0_.2.2.1 80 0 (40 * (S0_.2.2.1 81 0 (40 * m_ + a_).toNat) + d_).toNat)) 26 0 27 0 vx21_.toNat (8 * (S0_.1 1 0 6)).toNat (8 : Int).toNat) 1 0 6 ((S0_.1 1 0 6) + 1)) := ai_fr_tr hFx23_ (ai_fr_pI rfl)
        refine sm_T_go 1 (c1 := (244, [some (.inr (.inr (some (1, 0)))), some (.inl k_), some (.inl m_), some (.inl f_), some (.inl a_), some (.inl d_), some (.inl (8 * (S0_.1 1 0 6))), some (.inl (40 * m_ + a_)), none], [], sm_pI (sm_acI (sm_aI S0_ 28 0 (S0_.1 1 0 6).toNat (S0_.2.2.1 80 0 (40 * (S0_.2.2.1 81 0 (40 * m_ + a_).toNat) + d_).toNat)) 26 0 27 0 vx21_.toNat (8 * (S0_.1 1 0 6)).toNat (8 : Int).toNat) 1 0 6 ((S0_.1 1 0 6) + 1))) rfl ?_
        refine sm_T_rv rfl ⟨_, _, rfl, rfl, hIx24_, hFx25_, ?_⟩
        first | exact hfin | (rw [eV_]; exact ld_go hV_ (by omega) (by omega) (by omega) (by omega) l8_ (by first | (rw [e153_, show (8 * (40 * f_ + a_)).toNat = 8 * (40 * ff_ + aa_) by omega]; exact (hfr_.1 aa_ (by omega)).1) | (rw [e220_, pt2_, show (8 * (40 * (P_ aa_ : Int) + d_)).toNat = 8 * (40 * P_ aa_ + d_.toNat) by omega]; exact (yP_.2.2.2 d_.toNat (by omega)).1)))
      · have cx4_ : ¬ (k_ ≠ 9) := of_decide_eq_false cx4_
        have hk_ : k_ = 9 := by omega
        obtain ⟨v5_, aM_, l8_, lw_, eV_⟩ := e_ld9 (show e_ld A_ mm_ 9 aa_ d_ E_ O_ V_ = some V1_ by rw [← hk_]; exact he_)
        have A40_ := (hA_.2 mm_ (Nat.le_refl _)).1
        have w80_ : S0_.2.2.1 80 0 (40 * m_ + a_).toNat = A_.2.2.2.1 (40 * mm_ + aa_) ∧ S0_.2.2.1 81 0 (40 * m_ + a_).toNat = A_.2.2.2.2 (40 * mm_ + aa_) := by rw [show (40 * m_ + a_).toNat = 40 * mm_ + aa_ by omega]; exact ((her_ mm_ (Nat.le_refl _)).2 aa_ (by omega)).2.2
        refine sm_T_go 8 (c1 := (144, [some (.inr (.inr (some (1, 0)))), some (.inl k_), some (.inl m_), some (.inl f_), some (.inl a_), some (.inl d_), some (.inl (8 * (S0_.1 1 0 6))), some (.inl (40 * m_ + a_)), none], [.inl (40 * m_ + a_), .inr (.inr (some (80, 0))), .inl (S0_.1 1 0 6), .inr (.inr (some (28, 0)))], S0_)) rfl ?_
        refine sm_T_iald (n := 640) rfl rfl (by omega) (by omega) ?_
        have bx26_ : 0 ≤ S0_.2.2.1 80 0 (40 * m_ + a_).toNat ∧ S0_.2.2.1 80 0 (40 * m_ + a_).toNat ≤ 8 := hI_.2 80 0 _
        refine sm_T_iast (n := 512) rfl rfl (by omega) (by omega) ?_
        have hIx27_ : gi (sm_aI S0_ 28 0 (S0_.1 1 0 6).toNat (S0_.2.2.1 80 0 (40 * m_ + a_).toNat)) := gi_aI hI_ (show 0 ≤ (S0_.2.2.1 80 0 (40 * m_ + a_).toNat) ∧ (S0_.2.2.1 80 0 (40 * m_ + a_).toNat) ≤ 8 from ⟨by omega, by omega⟩)
        have hFx28_ : ai_fr (sx_W vw_37) S0_ (sm_aI S0_ 28 0 (S0_.1 1 0 6).toNat (S0_.2.2.1 80 0 (40 * m_ + a_).toNat)) := ai_fr_tr hF_ (ai_fr_aI rfl)
        refine sm_T_go 4 (c1 := (153, [some (.inr (.inr (some (1, 0)))), some (.inl k_), some (.inl m_), some (.inl f_), some (.inl a_), some (.inl d_), some (.inl (8 * (S0_.1 1 0 6))), some (.inl (40 * m_ + a_)), none], [.inl a_, .inl f_, .inr (.inr (some (26, 0)))], sm_aI S0_ 28 0 (S0_.1 1 0 6).toNat (S0_.2.2.1 80 0 (40 * m_ + a_).toNat))) rfl ?_
        refine sm_T_cal (d1 := 0) (Q1 := vq_35 f_ a_ (sm_aI S0_ 28 0 (S0_.1 1 0 6).toNat (S0_.2.2.1 80 0 (40 * m_ + a_).toNat))) rfl rfl (by decide) (vc_35 f_ a_ (sm_aI S0_ 28 0 (S0_.1 1 0 6).toNat (S0_.2.2.1 80 0 (40 * m_ + a_).toNat)) hIx27_ (by omega) (by omega)) (fun u_ Sx29_ px32_ => ?_)
        obtain ⟨rfl, vx34_, rfl, px32_⟩ := px32_
        have e153_ := px32_
        refine sm_T_go 4 (c1 := (164, [some (.inr (.inr (some (1, 0)))), some (.inl k_), some (.inl m_), some (.inl f_), some (.inl a_), some (.inl d_), some (.inl (8 * (S0_.1 1 0 6))), some (.inl (40 * m_ + a_)), none], [.inl 8, .inl (8 * (S0_.1 1 0 6)), .inr (.inr (some (27, 0))), .inl vx34_, .inr (.inr (some (26, 0)))], sm_aI S0_ 28 0 (S0_.1 1 0 6).toNat (S0_.2.2.1 80 0 (40 * m_ + a_).toNat))) rfl ?_
        refine sm_T_nt (u := none) (S1 := sm_acI (sm_aI S0_ 28 0 (S0_.1 1 0 6).toNat (S0_.2.2.1 80 0 (40 * m_ + a_).toNat)) 26 0 27 0 vx34_.toNat (8 * (S0_.1 1 0 6)).toNat (8 : Int).toNat) rfl rfl (nt_acI (sc := sc_) (n := 64320) (n1 := 4096) rfl rfl (by omega) (by omega) (by omega) (by omega) (by omega)) ?_
        have hIx35_ : gi (sm_acI (sm_aI S0_ 28 0 (S0_.1 1 0 6).toNat (S0_.2.2.1 80 0 (40 * m_ + a_).toNat)) 26 0 27 0 vx34_.toNat (8 * (S0_.1 1 0 6)).toNat (8 : Int).toNat) := gi_ac hIx27_ (by decide) (by decide)
        have hFx36_ : ai_fr (sx_W vw_37) S0_ (sm_acI (sm_aI S0_ 28 0 (S0_.1 1 0 6).toNat (S0_.2.2.1 80 0 (40 * m_ + a_).toNat)) 26 0 27 0 vx34_.toNat (8 * (S0_.1 1 0 6)).toNat (8 : Int).toNat) := ai_fr_tr hFx28_ (fr_ac rfl)
        refine sm_T_go 5 (c1 := (240, [some (.inr (.inr (some (1, 0)))), some (.inl k_), some (.inl m_), some (.inl f_), some (.inl a_), some (.inl d_), some (.inl (8 * (S0_.1 1 0 6))), some (.inl (40 * m_ + a_)), none], [.inl 1, .inl (S0_.1 1 0 6), .inr (.inr (some (1, 0)))], sm_acI (sm_aI S0_ 28 0 (S0_.1 1 0 6).toNat (S0_.2.2.1 80 0 (40 * m_ + a_).toNat)) 26 0 27 0 vx34_.toNat (8 * (S0_.1 1 0 6)).toNat (8 : Int).toNat)) rfl ?_
        refine sm_T_bin (w := (S0_.1 1 0 6) + 1) rfl (bi_add (by omega) (by omega) (by omega)) ?_
        have hIx37_ : gi (sm_pI (sm_acI (sm_aI S0_ 28 0 (S0_.1 1 0 6).toNat (S0_.2.2.1 80 0 (40 * m_ + a_).toNat)) 26 0 27 0 vx34_.toNat (8 * (S0_.1 1 0 6)).toNat (8 : Int).toNat) 1 0 6 ((S0_.1 1 0 6) + 1)) := gi_pI hIx35_ (show 0 ≤ (S0_.1 1 0 6) + 1 ∧ (S0_.1 1 0 6) + 1 ≤ 512 from ⟨by omega, by omega⟩)
        have hFx38_ : ai_fr (sx_W vw_37) S0_ (sm_pI (sm_acI (sm_aI S0_ 28 0 (S0_.1 1 0 6).toNat (S0_.2.2.1 80 0 (40 * m_ + a_).toNat)) 26 0 27 0 vx34_.toNat (8 * (S0_.1 1 0 6)).toNat (8 : Int).toNat) 1 0 6 ((S0_.1 1 0 6) + 1)) := ai_fr_tr hFx36_ (ai_fr_pI rfl)
        refine sm_T_go 1 (c1 := (244, [some (.inr (.inr (some (1, 0)))), some (.inl k_), some (.inl m_), some (.inl f_), some (.inl a_), some (.inl d_), some (.inl (8 * (S0_.1 1 0 6))), some (.inl (40 * m_ + a_)), none], [], sm_pI (sm_acI (sm_aI S0_ 28 0 (S0_.1 1 0 6).toNat (S0_.2.2.1 80 0 (40 * m_ + a_).toNat)) 26 0 27 0 vx34_.toNat (8 * (S0_.1 1 0 6)).toNat (8 : Int).toNat) 1 0 6 ((S0_.1 1 0 6) + 1))) rfl ?_
        refine sm_T_rv rfl ⟨_, _, rfl, rfl, hIx37_, hFx38_, ?_⟩
        first | exact hfin | (rw [eV_]; exact ld_go hV_ (by omega) (by omega) (by omega) (by omega) l8_ (by first | (rw [e153_, show (8 * (40 * f_ + a_)).toNat = 8 * (40 * ff_ + aa_) by omega]; exact (hfr_.1 aa_ (by omega)).1) | (rw [e220_, pt2_, show (8 * (40 * (P_ aa_ : Int) + d_)).toNat = 8 * (40 * P_ aa_ + d_.toNat) by omega]; exact (yP_.2.2.2 d_.toNat (by omega)).1)))
    · have cx3_ : ¬ (k_ ≠ 8) := of_decide_eq_false cx3_
      have hk_ : k_ = 8 := by omega
      obtain ⟨v5_, ha8_, d0_, eV_⟩ := e_ld8 (show e_ld A_ mm_ 8 aa_ d_ E_ O_ V_ = some V1_ by rw [← hk_]; exact he_)
      refine sm_T_go 5 (c1 := (84, [some (.inr (.inr (some (1, 0)))), some (.inl k_), some (.inl m_), some (.inl f_), some (.inl a_), some (.inl d_), some (.inl (8 * (S0_.1 1 0 6))), some (.inl (40 * m_ + a_)), none], [.inl a_, .inl (S0_.1 1 0 6), .inr (.inr (some (28, 0)))], S0_)) rfl ?_
      refine sm_T_iast (n := 512) rfl rfl (by omega) (by omega) ?_
      have hIx39_ : gi (sm_aI S0_ 28 0 (S0_.1 1 0 6).toNat a_) := gi_aI hI_ (show 0 ≤ a_ ∧ a_ ≤ 8 from ⟨by omega, by omega⟩)
      have hFx40_ : ai_fr (sx_W vw_37) S0_ (sm_aI S0_ 28 0 (S0_.1 1 0 6).toNat a_) := ai_fr_tr hF_ (ai_fr_aI rfl)
      refine sm_T_go 2 (c1 := (88, [some (.inr (.inr (some (1, 0)))), some (.inl k_), some (.inl m_), some (.inl f_), some (.inl a_), some (.inl d_), some (.inl (8 * (S0_.1 1 0 6))), some (.inl (40 * m_ + a_)), some (.inl 0)], [], sm_aI S0_ 28 0 (S0_.1 1 0 6).toNat a_)) rfl ?_
      refine (vl_37 k_ m_ f_ a_ d_ tb_ tn_ A_ mm_ ff_ aa_ G_ E_ O_ V_ V1_ fc0_ fc_ S0_ hI0_ hk0_ hd0_ hm1_ hf1_ ha1_ her_ hA_ hfr_ hV_ hok_ he_ _) (8 * (S0_.1 1 0 6)) (40 * m_ + a_) 0 (sm_aI S0_ 28 0 (S0_.1 1 0 6).toNat a_) hIx39_ hFx40_ ⟨?_, ?_, ?_, ?_, ?_, ?_, trivial⟩ (Nat.lt_succ_self _)
      · exact hk_
      · omega
      · exact hV_.1
      · (intro j9_; rw [rd_eq, show (S0_.1 1 0 6).toNat = V_.length by omega])
      · (intro k9_ z9_ e9_; simp [c_bt] at e9_)
      · (intro j9_ hj_; exact rd_ne (by decide))
  · have cx1_ : ¬ (k_ ≠ 11) := of_decide_eq_false cx1_
    have hk_ : k_ = 11 := by omega
    obtain ⟨x_, l_, rfl, ax_, eV_⟩ := e_ld11 (show e_ld A_ mm_ 11 aa_ d_ E_ O_ V_ = some V1_ by rw [← hk_]; exact he_)
    have x8_ : x_.length ≤ 8 := hV_.2.2.1.2
    have tp_ : S0_.1 1 0 6 = (l_.length : Int) + 1 := by rw [hV_.1]; simp only [List.length_cons]; push_cast; omega
    have bx41_ : 0 ≤ S0_.1 1 0 6 ∧ S0_.1 1 0 6 ≤ 512 := hI_.1 1 0 6 rfl
    refine sm_T_go 5 (c1 := (15, [some (.inr (.inr (some (1, 0)))), some (.inl k_), some (.inl m_), some (.inl f_), some (.inl a_), some (.inl d_), none, none, none], [.inl 1, .inl (S0_.1 1 0 6), .inr (.inr (some (27, 0)))], S0_)) rfl ?_
    refine sm_T_bin (w := (S0_.1 1 0 6) - 1) rfl (bi_sub (by omega) (by omega) (by omega)) ?_
    refine sm_T_go 1 (c1 := (18, [some (.inr (.inr (some (1, 0)))), some (.inl k_), some (.inl m_), some (.inl f_), some (.inl a_), some (.inl d_), none, none, none], [.inl 8, .inl ((S0_.1 1 0 6) - 1), .inr (.inr (some (27, 0)))], S0_)) rfl ?_
    refine sm_T_bin (w := 8 * (S0_.1 1 0 6) - 8) rfl (bi_mul (by omega) (by omega) (by omega)) ?_
    refine sm_T_go 5 (c1 := (28, [some (.inr (.inr (some (1, 0)))), some (.inl k_), some (.inl m_), some (.inl f_), some (.inl a_), some (.inl d_), none, none, none], [.inl 1, .inl (S0_.1 1 0 6), .inr (.inr (some (27, 0))), .inl (8 * (S0_.1 1 0 6) - 8), .inr (.inr (some (27, 0)))], S0_)) rfl ?_
    refine sm_T_bin (w := (S0_.1 1 0 6) - 1) rfl (bi_sub (by omega) (by omega) (by omega)) ?_
    refine sm_T_go 1 (c1 := (31, [some (.inr (.inr (some (1, 0)))), some (.inl k_), some (.inl m_), some (.inl f_), some (.inl a_), some (.inl d_), none, none, none], [.inl 8, .inl ((S0_.1 1 0 6) - 1), .inr (.inr (some (27, 0))), .inl (8 * (S0_.1 1 0 6) - 8), .inr (.inr (some (27, 0)))], S0_)) rfl ?_
    refine sm_T_bin (w := 8 * (S0_.1 1 0 6) - 8) rfl (bi_mul (by omega) (by omega) (by omega)) ?_
    refine sm_T_go 1 (c1 := (34, [some (.inr (.inr (some (1, 0)))), some (.inl k_), some (.inl m_), some (.inl f_), some (.inl a_), some (.inl d_), none, none, none], [.inl a_, .inl (8 * (S0_.1 1 0 6) - 8), .inr (.inr (some (27, 0))), .inl (8 * (S0_.1 1 0 6) - 8), .inr (.inr (some (27, 0)))], S0_)) rfl ?_
    refine sm_T_bin (w := 8 * (S0_.1 1 0 6) + a_ - 8) rfl (bi_add (by omega) (by omega) (by omega)) ?_
    refine sm_T_iald (n := 4096) rfl rfl (by omega) (by omega) ?_
    have bx42_ : 0 ≤ S0_.2.2.1 27 0 (8 * (S0_.1 1 0 6) + a_ - 8).toNat ∧ S0_.2.2.1 27 0 (8 * (S0_.1 1 0 6) + a_ - 8).toNat ≤ 2025 := hI_.2 27 0 _
    refine sm_T_iast (n := 4096) rfl rfl (by omega) (by omega) ?_
    have hIx43_ : gi (sm_aI S0_ 27 0 (8 * (S0_.1 1 0 6) - 8).toNat (S0_.2.2.1 27 0 (8 * (S0_.1 1 0 6) + a_ - 8).toNat)) := gi_aI hI_ (show 0 ≤ (S0_.2.2.1 27 0 (8 * (S0_.1 1 0 6) + a_ - 8).toNat) ∧ (S0_.2.2.1 27 0 (8 * (S0_.1 1 0 6) + a_ - 8).toNat) ≤ 2025 from ⟨by omega, by omega⟩)
    have hFx44_ : ai_fr (sx_W vw_37) S0_ (sm_aI S0_ 27 0 (8 * (S0_.1 1 0 6) - 8).toNat (S0_.2.2.1 27 0 (8 * (S0_.1 1 0 6) + a_ - 8).toNat)) := ai_fr_tr hF_ (ai_fr_aI rfl)
    refine sm_T_go 5 (c1 := (46, [some (.inr (.inr (some (1, 0)))), some (.inl k_), some (.inl m_), some (.inl f_), some (.inl a_), some (.inl d_), none, none, none], [.inl 1, .inl (S0_.1 1 0 6), .inr (.inr (some (28, 0)))], sm_aI S0_ 27 0 (8 * (S0_.1 1 0 6) - 8).toNat (S0_.2.2.1 27 0 (8 * (S0_.1 1 0 6) + a_ - 8).toNat))) rfl ?_
    refine sm_T_bin (w := (S0_.1 1 0 6) - 1) rfl (bi_sub (by omega) (by omega) (by omega)) ?_
    refine sm_T_go 1 (c1 := (48, [some (.inr (.inr (some (1, 0)))), some (.inl k_), some (.inl m_), some (.inl f_), some (.inl a_), some (.inl d_), none, none, none], [.inl 1, .inl ((S0_.1 1 0 6) - 1), .inr (.inr (some (28, 0)))], sm_aI S0_ 27 0 (8 * (S0_.1 1 0 6) - 8).toNat (S0_.2.2.1 27 0 (8 * (S0_.1 1 0 6) + a_ - 8).toNat))) rfl ?_
    refine sm_T_iast (n := 512) rfl rfl (by omega) (by omega) ?_
    have hIx45_ : gi (sm_aI (sm_aI S0_ 27 0 (8 * (S0_.1 1 0 6) - 8).toNat (S0_.2.2.1 27 0 (8 * (S0_.1 1 0 6) + a_ - 8).toNat)) 28 0 ((S0_.1 1 0 6) - 1).toNat 1) := gi_aI hIx43_ (show 0 ≤ 1 ∧ 1 ≤ 8 from ⟨by omega, by omega⟩)
    have hFx46_ : ai_fr (sx_W vw_37) S0_ (sm_aI (sm_aI S0_ 27 0 (8 * (S0_.1 1 0 6) - 8).toNat (S0_.2.2.1 27 0 (8 * (S0_.1 1 0 6) + a_ - 8).toNat)) 28 0 ((S0_.1 1 0 6) - 1).toNat 1) := ai_fr_tr hFx44_ (ai_fr_aI rfl)
    refine sm_T_rv rfl ⟨_, _, rfl, rfl, hIx45_, hFx46_, ?_⟩
    rw [eV_]
    refine ⟨by show S0_.1 1 0 6 = _; rw [tp_]; simp only [List.length_cons]; push_cast; rfl, svl_tp hV_.2.2.2.2 (fun z_ => z_) (fun j_ hj_ => ?_) (fun j_ hj_ => ?_) ?_ (by simp) (fun z_ => ?_)⟩
    · rw [rd_ne (by decide), rd_eq, if_neg (by omega)]
    · rw [rd_eq, if_neg (by omega), rd_ne (by decide)]
    · rw [rd_eq, if_pos (by omega)]; rfl
    · intro k9_ z9_ e9_; have k0_ : k9_ = 0 := (by cases k9_ with | zero => rfl | succ k9_ => simp at e9_); subst k0_; rw [rd_ne (by decide), rd_eq, if_pos (by omega)]; have q9_ := Option.some.inj e9_; rw [← q9_, show (8 * S0_.1 1 0 6 + a_ - 8).toNat = 8 * l_.length + aa_ by omega]; exact rwv_g (hV_.2.2.2.1 z_) ax_
end
/-! 99.zb6a -/
section
/-! the class: stores; written by wip/p55/gen/vg -/

/-! stores -/
/-- the_ beginning takes one_ more bit_ -/
theorem bg_all : ∀ r_ : Fin 6, ∀ x_ : Fin 64, ∀ b_ : Fin 2, (x_ : Nat) < 2 ^ (r_ : Nat) → 0 ≤ i_or ((x_ : Nat) : Int) (i_shl ((b_ : Nat) : Int) ((r_ : Nat) : Int)) ∧ i_or ((x_ : Nat) : Int) (i_shl ((b_ : Nat) : Int) ((r_ : Nat) : Int)) < 2 ^ ((r_ : Nat) + 1) := by decide +kernel
theorem bg_up {x_ b_ : Int} {r_ : Nat} (h0_ : 0 ≤ x_) (h1_ : x_ < 2 ^ r_) (hb_ : 0 ≤ b_ ∧ b_ ≤ 1) (hr_ : r_ ≤ 5) : 0 ≤ i_or x_ (i_shl b_ (r_ : Int)) ∧ i_or x_ (i_shl b_ (r_ : Int)) < 2 ^ (r_ + 1) := by
  obtain ⟨x_, rfl⟩ := Int.eq_ofNat_of_zero_le h0_
  obtain ⟨b_, rfl⟩ := Int.eq_ofNat_of_zero_le hb_.1
  have hx_ : x_ < 2 ^ r_ := by exact_mod_cast h1_
  have h64_ : 2 ^ r_ ≤ 2 ^ 5 := Nat.pow_le_pow_right (by decide) hr_
  exact bg_all ⟨r_, by omega⟩ ⟨x_, by omega⟩ ⟨b_, by omega⟩ hx_
/-- the_ next values are_ literals of_ the_ graph -/
def nxb (dd_ R_ : Nat) (S_ : sm_S) : Prop := ∀ k_, k_ < R_ → 0 ≤ S_.2.2.1 46 (0 + dd_) k_ ∧ S_.2.2.1 46 (0 + dd_) k_ < 2 * S_.1 3 dd_ 4
def cxb (dd_ R_ : Nat) (S_ : sm_S) : Prop := (0 ≤ S_.1 3 dd_ 5 ∧ S_.1 3 dd_ 5 < 2 ^ R_) ∧ nxb dd_ R_ S_
def cxe (dd_ I_ R_ : Nat) (S_ : sm_S) : Prop := S_.1 3 dd_ 1 = (I_ : Int) ∧ cxb dd_ R_ S_
theorem nxb_up {dd_ R_ : Nat} {S_ S'_ : sm_S} (h_ : nxb dd_ R_ S_) (e1_ : S'_.2.2.1 46 (0 + dd_) = S_.2.2.1 46 (0 + dd_)) (e2_ : S_.1 3 dd_ 4 ≤ S'_.1 3 dd_ 4) : nxb dd_ R_ S'_ := fun k_ hk_ => by
  have q_ := h_ k_ hk_
  rw [e1_]
  omega
theorem nxb_cp {dd_ R_ p_ q_ n_ : Nat} {st_ : Nat → Int} {S_ S'_ : sm_S} {x_ : List Int} (h_ : nxb dd_ R_ S_) (e4_ : S'_.1 3 dd_ 4 = S_.1 3 dd_ 4) (e46_ : S'_.2.2.1 46 (0 + dd_) = sm_cp st_ (S_.2.2.1 46 (0 + dd_)) p_ q_ n_) (hx_ : rwv st_ p_ x_) (hn_ : n_ = x_.length) (hl_ : ∀ z_, z_ ∈ x_ → 0 ≤ z_ ∧ z_ < 2 * S_.1 3 dd_ 4) : nxb dd_ R_ S'_ := fun k_ hk_ => by
  rw [e46_, e4_]
  unfold sm_cp
  split
  · rename_i w_
    have l9_ : k_ - q_ < x_.length := by omega
    have e_ := hx_ (k_ - q_) x_[k_ - q_] (List.getElem?_eq_getElem l9_)
    have e2_ := hl_ x_[k_ - q_] (List.getElem_mem l9_)
    first | (rw [e_]; exact e2_) | (rw [show p_ + k_ - q_ = p_ + (k_ - q_) by omega, e_]; exact e2_)
  · exact h_ k_ hk_
theorem cxe_fr {w_ : sx_Wl} {dd_ I_ R_ : Nat} {S_ S'_ : sm_S} (h_ : cxe dd_ I_ R_ S_) (g_ : ai_fr (sx_W w_) S_ S'_) (h1_ : (sx_W w_).1 3 1 = false) (h2_ : (sx_W w_).1 3 5 = false) (h3_ : (sx_W w_).1 3 4 = false) (h4_ : (sx_W w_).2.1 46 = false) : cxe dd_ I_ R_ S'_ := by
  unfold cxe cxb
  rw [g_.1 3 dd_ 1 h1_, g_.1 3 dd_ 5 h2_]
  exact ⟨h_.1, h_.2.1, nxb_up h_.2.2 (fr_arr g_ h4_) (by rw [g_.1 3 dd_ 4 h3_]; exact Int.le_refl _)⟩
theorem cgl_n {dd_ F_ : Nat} {G_ : pGr} {S_ : sm_S} (h_ : cgl dd_ F_ G_ S_) (hl_ : G_.length ≤ 1000) : S_.1 3 dd_ 4 = ((F_ + G_.length : Nat) : Int) := by
  obtain ⟨G1_, x_, y_⟩ := h_
  rcases y_ with y_ | y_
  · rw [← y_.2.1]; exact x_.2.2.2.1
  · omega
/-- the_ state of_ an_ execution in the_ class -/
def cxs (dd_ F_ I_ f_ fc0_ : Nat) (s_ : gS) (S_ : sm_S) : Prop := cgl dd_ F_ s_.1.1 S_ ∧ S_.1 1 0 9 = (s_.1.2.1 : Int) ∧ S_.1 1 0 3 = (s_.1.2.2 : Int) ∧ s_.1.2.2 ≤ 201 ∧ f_ < fc0_ ∧ fc0_ ≤ s_.1.2.2 ∧ cfr f_ fc0_ s_.1.2.2 s_.2.1 s_.2.2.1 (S_.2.2.1 26 0) ∧ cstk s_.1.1 s_.2.2.2 S_ ∧ cxe dd_ I_ s_.1.2.1 S_
theorem cgl_b {dd_ F_ : Nat} {G_ : pGr} {S_ : sm_S} (h_ : cgl dd_ F_ G_ S_) : (F_ : Int) = 1 + S_.1 3 dd_ 1 + S_.1 3 dd_ 2 ∧ (1 ≤ F_ ∧ F_ ≤ 13) := by
  obtain ⟨G1_, x_, _⟩ := h_
  exact ⟨x_.2.1, x_.2.2.1⟩
def fun_ (f_ fc0_ : Nat) (g_ h_ : Nat → Int) : Prop := ∀ j_, j_ < 8 * (40 * fc0_) → j_ < 8 * (40 * f_) ∨ 8 * (40 * f_) + 320 ≤ j_ → h_ j_ = g_ j_
theorem cfr_cg {f_ fc0_ fc_ : Nat} {E_ : gE} {O_ : gO} {g_ h_ : Nat → Int} (x_ : cfr f_ fc0_ fc_ E_ O_ g_) (e_ : ∀ j_, h_ j_ = g_ j_) : cfr f_ fc0_ fc_ E_ O_ h_ := by
  rw [show h_ = g_ from funext e_]
  exact x_
theorem svl_pop {ok_ : Prop} {st_ wd_ st'_ wd'_ : Nat → Int} {x_ : List Int} {l_ : gV} (h_ : svl ok_ st_ wd_ (x_ :: l_)) (e1_ : ∀ j_, st'_ j_ = st_ j_) (e2_ : ∀ j_, wd'_ j_ = wd_ j_) : svl ok_ st'_ wd'_ l_ := by
  rw [show st'_ = st_ from funext e1_, show wd'_ = wd_ from funext e2_]
  exact h_.2.2.2
end
